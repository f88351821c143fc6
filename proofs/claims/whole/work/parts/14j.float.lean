/-! the Model: digits with an exponent, and the body of a format -/

/-- the exponent and the digits of u / d, rounded to m digits -/
noncomputable def flE (u d m : Nat) : Int := if u = 0 then 0 else if rdq u d ((m : Int) - 1 - expo u d) < 10 ^ m then expo u d else expo u d + 1
noncomputable def flQ (u d m : Nat) : Nat := if u = 0 then 0 else if rdq u d ((m : Int) - 1 - expo u d) < 10 ^ m then rdq u d ((m : Int) - 1 - expo u d) else rdq u d ((m : Int) - 1 - (expo u d + 1))
theorem fl_0 {d m : Nat} : flE 0 d m = 0 ∧ flQ 0 d m = 0 := ⟨if_pos rfl, if_pos rfl⟩
theorem fl_a {u d m : Nat} {e : Int} (hu : 0 < u) (he : expo u d = e) (h : rdq u d ((m : Int) - 1 - e) < 10 ^ m) : flE u d m = e ∧ flQ u d m = rdq u d ((m : Int) - 1 - e) := by
  subst he
  exact ⟨(if_neg (by omega)).trans (if_pos h), (if_neg (by omega)).trans (if_pos h)⟩
theorem fl_b {u d m : Nat} {e : Int} (hu : 0 < u) (he : expo u d = e) (h : ¬ rdq u d ((m : Int) - 1 - e) < 10 ^ m) : flE u d m = e + 1 ∧ flQ u d m = rdq u d ((m : Int) - 1 - (e + 1)) := by
  subst he
  exact ⟨(if_neg (by omega)).trans (if_neg h), (if_neg (by omega)).trans (if_neg h)⟩
theorem rdq_m {u d m : Nat} {e : Int} (hd : 0 < d) (h : isX u d e) (hm : 1 ≤ m) : 10 ^ (m - 1) ≤ rdq u d ((m : Int) - 1 - e) ∧ rdq u d ((m : Int) - 1 - e) ≤ 10 ^ m := by
  obtain ⟨h1, h2, -⟩ := isX_m hd h hm
  unfold rdq
  generalize u * 10 ^ ((m : Int) - 1 - e).toNat = a at *
  generalize d * 10 ^ (-((m : Int) - 1 - e)).toNat = b at *
  have h3 := rnd_le (a / b) (a % b) b
  have h4 : a / b ≤ rnd (a / b) (a % b) b := by unfold rnd; split <;> omega
  omega
/-- rounded up to one digit more: then it is a power of ten -/
theorem rnd_up {a b M : Nat} (hb : 0 < b) (hM : 10 ≤ M) (hev : M % 10 = 0) (h1 : a < M * b) (h2 : rnd (a / b) (a % b) b = M) : rnd (a / (b * 10)) (a % (b * 10)) (b * 10) = M / 10 := by
  have hq : a / b = M - 1 := by
    have h3 := rnd_le (a / b) (a % b) b
    have h4 : a / b < M := (Nat.div_lt_iff_lt_mul hb).mpr h1
    omega
  have hr : b ≤ 2 * (a % b) := by
    unfold rnd at h2
    split at h2 <;> omega
  have hdm := Nat.div_add_mod a b
  have hrb := Nat.mod_lt a hb
  obtain ⟨T, hT⟩ : ∃ T, M = 10 * T := ⟨M / 10, by omega⟩
  have hT0 : 0 < T := by omega
  have hMT : M / 10 = T := by omega
  rw [hq, hT] at hdm
  obtain ⟨r, hr0⟩ : ∃ r, r = a % b := ⟨_, rfl⟩
  rw [← hr0] at hdm hr hrb
  have e1 : b * (10 * T - 1) = b * 10 * (T - 1) + b * 9 := by
    rw [show 10 * T - 1 = 10 * (T - 1) + 9 by omega, Nat.mul_add, Nat.mul_assoc]
  have e2 : a = b * 10 * (T - 1) + (b * 9 + r) := by omega
  have e3 : b * 9 + r < b * 10 := by omega
  have d1 : a / (b * 10) = T - 1 := by
    rw [e2, Nat.mul_add_div (by omega), Nat.div_eq_of_lt e3]; omega
  have d2 : a % (b * 10) = b * 9 + r := by
    rw [e2, Nat.mul_add_mod, Nat.mod_eq_of_lt e3]
  rw [d1, d2, hMT]
  unfold rnd
  rw [if_pos (by omega)]
  omega
theorem rdq_p {u d : Nat} {p : Int} : rdq u d (p - 1) = rnd (u * 10 ^ p.toNat / (d * 10 ^ (-p).toNat * 10)) (u * 10 ^ p.toNat % (d * 10 ^ (-p).toNat * 10)) (d * 10 ^ (-p).toNat * 10) ∨ d = 0 := by
  by_cases hd : d = 0
  · exact Or.inr hd
  · left
    refine rnd_ratio (Nat.mul_pos (by omega) (Nat.pow_pos (by decide))) (Nat.mul_pos (Nat.mul_pos (by omega) (Nat.pow_pos (by decide))) (by decide)) ?_
    have a1 : u * 10 ^ (p - 1).toNat * (d * 10 ^ (-p).toNat * 10) = u * d * (10 ^ (p - 1).toNat * 10 ^ (-p).toNat * 10 ^ 1) := by rw [Nat.pow_one]; ac_rfl
    have a2 : u * 10 ^ p.toNat * (d * 10 ^ (-(p - 1)).toNat) = u * d * (10 ^ p.toNat * 10 ^ (-(p - 1)).toNat) := by ac_rfl
    rw [a1, a2, ← Nat.pow_add, ← Nat.pow_add, ← Nat.pow_add]
    congr 2; omega
theorem rdq_n {u d m : Nat} {e : Int} (hd : 0 < d) (h : isX u d e) (hm : 1 ≤ m) (hn : ¬ rdq u d ((m : Int) - 1 - e) < 10 ^ m) : rdq u d ((m : Int) - 1 - (e + 1)) = 10 ^ (m - 1) := by
  obtain ⟨h1, h2⟩ := rdq_m hd h hm
  obtain ⟨-, h4, -⟩ := isX_m hd h hm
  rw [show (m : Int) - 1 - (e + 1) = (m : Int) - 1 - e - 1 by omega]
  rcases rdq_p (u := u) (d := d) (p := (m : Int) - 1 - e) with h5 | h5
  · rw [h5]
    have hb : 0 < d * 10 ^ (-((m : Int) - 1 - e)).toNat := Nat.mul_pos hd (Nat.pow_pos (by decide))
    have e10 : (10 : Nat) ^ m = 10 * 10 ^ (m - 1) := by rw [← Nat.pow_succ']; congr 1; omega
    rw [rnd_up (M := 10 ^ m) hb (by rw [e10]; have := Nat.pow_pos (n := m - 1) (show 0 < 10 by decide); omega) (by rw [e10]; omega) ((Nat.div_lt_iff_lt_mul hb).mp h4) (by unfold rdq at h2 hn; omega)]
    rw [e10]; omega
  · omega
theorem flQ_b {u d m : Nat} {e : Int} (hu : 0 < u) (hd : 0 < d) (h : isX u d e) (hm : 1 ≤ m) : 10 ^ (m - 1) ≤ flQ u d m ∧ flQ u d m < 10 ^ m := by
  have he := expo_eq hu h
  have hlt : (10 : Nat) ^ (m - 1) < 10 ^ m := Nat.pow_lt_pow_right (by decide) (by omega)
  by_cases c : rdq u d ((m : Int) - 1 - e) < 10 ^ m
  · rw [(fl_a hu he c).2]; exact ⟨(rdq_m hd h hm).1, c⟩
  · rw [(fl_b hu he c).2, rdq_n hd h hm c]; exact ⟨Nat.le_refl _, hlt⟩
theorem ndg_eq {q m : Nat} (hm : 1 ≤ m) (h1 : 10 ^ (m - 1) ≤ q) (h2 : q < 10 ^ m) : ndm 10 1 q = m := by
  have a1 : ndg 10 q ≤ m := (ndg_le (by decide)).mpr h2
  have a2 : ¬ ndg 10 q ≤ m - 1 := fun w => by have := (ndg_le (b := 10) (by decide)).mp w; omega
  unfold ndm
  split <;> omega
theorem ndm_0 {m : Nat} : ndm 10 m 0 = m := by
  have : ndg 10 0 ≤ 0 := (ndg_le (by decide)).mpr (by decide)
  unfold ndm
  split <;> omega
theorem flE_b {u d m : Nat} {e : Int} (hu : 0 < u) (h : isX u d e) : e ≤ flE u d m ∧ flE u d m ≤ e + 1 := by
  have he := expo_eq hu h
  by_cases c : rdq u d ((m : Int) - 1 - e) < 10 ^ m
  · rw [(fl_a hu he c).1]; omega
  · rw [(fl_b hu he c).1]; omega
/-- a number with an exponent; c: zeros at the end are cut off -/
def floT (q m : Nat) (sh c e : Int) (lt : Nat) : List Nat := [48 + dgv 10 q (m - 1)] ++ (if c ≠ 0 then cutP q (m - 1) else dotT (m - 1) sh ++ fixB q (m - 1)) ++ expT e lt
noncomputable def genT (u d p pa : Nat) (sh : Int) (lt : Nat) : List Nat :=
  if -4 ≤ flE u d p ∧ flE u d p ≤ (p : Int) - 1 then fixA (rdq u d ((p : Int) - 1 - flE u d p)) ((p : Int) - 1 - flE u d p).toNat pa ++ (if sh ≠ 0 then dotT ((p : Int) - 1 - flE u d p).toNat sh ++ fixB (rdq u d ((p : Int) - 1 - flE u d p)) ((p : Int) - 1 - flE u d p).toNat else cutP (rdq u d ((p : Int) - 1 - flE u d p)) ((p : Int) - 1 - flE u d p).toNat)
  else floT (flQ u d p) p sh (if sh = 0 then 1 else 0) (flE u d p) lt
def bsT (ty : Nat) : Nat := if ty = 100 then 10 else if ty = 98 then 2 else 16
def intT (ty pa u : Nat) : List Nat := sgr (dgv (bsT ty) u) (if ty = 88 then 1 else 0) (if bsT ty = 10 then 3 else 4) pa 0 (ndm (bsT ty) 1 u)
noncomputable def bodT (ty : Nat) (pr : Int) (pa : Nat) (sh : Int) (u d : Nat) : List Nat :=
  if ty = 100 ∨ ty = 98 ∨ ty = 120 ∨ ty = 88 then intT ty pa u
  else if ty = 102 then fixT (rdq u d ((if pr < 0 then 6 else pr.toNat : Nat) : Int)) (if pr < 0 then 6 else pr.toNat) pa sh
  else if ty = 37 then fixT (rdq (u * 100) d ((if pr < 0 then 6 else pr.toNat : Nat) : Int)) (if pr < 0 then 6 else pr.toNat) pa sh ++ [37]
  else if ty = 101 ∨ ty = 69 then floT (flQ u d ((if pr < 0 then 6 else pr.toNat) + 1)) ((if pr < 0 then 6 else pr.toNat) + 1) sh 0 (flE u d ((if pr < 0 then 6 else pr.toNat) + 1)) ty
  else genT u d (if pr < 0 then 6 else if pr = 0 then 1 else pr.toNat) pa sh (if ty = 71 then 69 else 101)
theorem fl_app {w a b c x : List Nat} : w ++ a ++ b ++ c ++ x = w ++ (a ++ (b ++ c) ++ x) := by simp only [List.append_assoc]
theorem fl_app0 {w a c x : List Nat} : w ++ a ++ c ++ x = w ++ (a ++ ([] ++ c) ++ x) := by simp only [List.append_assoc, List.nil_append]
theorem fl_app2 {w a c x : List Nat} : w ++ a ++ c ++ x = w ++ (a ++ c ++ x) := by simp only [List.append_assoc]
theorem dot_cut {n : Nat} : dotT n 0 = dot0 n := by
  unfold dotT dot0
  by_cases h : n = 0
  · rw [if_pos h, if_neg (by omega)]
  · rw [if_neg h, if_pos (by omega)]
theorem dot0_l (n : Nat) : (dot0 n).length ≤ 1 := by unfold dot0; split <;> decide
theorem cutP_l (q p : Nat) : okT (p + 1) (cutP q p) := by
  unfold cutP
  have := zr_le p q
  split
  · exact okT_nil _
  · exact okT_le (okT_cons (by decide) (okT_sgr0 (dgv_16 q) _)) (by omega)
set_option maxRecDepth 100000 in
set_option maxHeartbeats 4000000 in
theorem c_M_floating {l : Launch} (hfl : l.flags = flags0) {D : va_G} {g : Nat → ClassId} {ad : Nat → Nat} {N : Nat} {F : Nat → va_E} {hh ll f : Nat → Int} {v : UInt64} {V : Nat → Nat} {br : Nat → Nat} {x y u d : Nat} {m : Nat} {dh : Nat → Int}
    (hN : 109 ≤ N) (hO : F 98 = oM ad f v) (hB : F 99 = aB g hh) (hL : F 100 = aL g ll) (hR : reg br hh ll V) (hzz : okB br) (h106 : F 106 = .inl (g 0, 200, .inl (aI dh))) (hx : V 31 = x) (hy : V 28 = y) (hxb : x < 2 ^ 168) (hyb : y < 2 ^ 168) (hy0 : 0 < y) (hd0 : 0 < d) (hxd : x * d = u * y) (hm : 1 ≤ m ∧ m ≤ 24) :
    JC l y_M_floating b_M_floating 3 (Option.some Jvm.ClassFile.FieldType.int) rm_M_floating (0, 0) D jCl (jTys g) ad N F [.ref (ad 98), .int (iI (m : Int))] (ji ad N (fun z F' => z = flE u d m ∧ (-60 ≤ z ∧ z ≤ 60) ∧ ∃ (hh' ll' dh' : Nat → Int) (W : Nat → Nat), reg br hh' ll' W ∧ (∀ k, k < 16 ∨ (27 ≤ k ∧ k ≠ 29 ∧ k ≠ 32) → W k = V k) ∧ (∀ k, k < m → dh' k = ((dgv 10 (flQ u d m) k : Nat) : Int)) ∧ F' = va_up (va_up (va_up (va_up F 98 (oM ad (va_up f 16 ((m : Nat) : Int)) v)) 99 (aB g hh')) 100 (aL g ll')) 106 (.inl (g 0, 200, .inl (aI dh'))))) := by
  refine JC.go hfl (own := "NumberTowerModel") (lv := [(0, .ref (ad 98)), (1, .int (iI (m : Int)))]) rfl (by decide +kernel) (Nat.le_of_ble_eq_true rfl) rfl (fun A => ?_)
  refine J_aload_n 0 d_M_floating_0 rfl rfl ?_
  refine J_bipush d_M_floating_1 (i8_ok (by decide)) ?_
  refine J_callVi cw_M_75 nh_M_zero pn_M_zero rfl rfl (by omega) hO (As := [.int (iI 31)]) (rest := []) rfl (Nat.le_of_ble_eq_true rfl) ⟨by decide, by decide⟩ rfl ⟨by decide, by decide⟩ d_M_floating_3 (k_M_zero hfl (a := 31) (hh := hh) (ll := ll) (V := V) (br := br) (hN := hN) (hO := hO) (hB := hB) (hL := hL) (hR := hR) (ha := by omega) (hxa := hx) (bra := (hzz.2 31 (by decide) (by decide)))) (fun z1 F1 hq => ?_)
  obtain ⟨hz1, eF1⟩ := hq
  refine J_eqF eF1 ?_
  refine J_ifeq (tgt := 20) d_M_floating_6 (by decide) ⟨by omega, by omega⟩ (fun c6 => ?_) (fun c6 => ?_)
  · have hx0 : 0 < x := by omega
    have hu0 : 0 < u := by
      apply Nat.pos_of_ne_zero
      intro w
      rw [w, Nat.zero_mul] at hxd
      rcases Nat.mul_eq_zero.mp hxd with q | q <;> omega
    refine J_aload_n 0 d_M_floating_20 rfl rfl ?_
    refine J_callVi cw_M_285 nh_M_exponent pn_M_exponent rfl rfl (by omega) hO (As := []) (rest := []) rfl (Nat.le_of_ble_eq_true rfl) ⟨by decide, by decide⟩ rfl ⟨by decide, by decide⟩ d_M_floating_21 (c_M_exponent hfl (x := x) (y := y) (hh := hh) (ll := ll) (f := f) (v := v) (V := V) (br := br) hN hO hB hL hR hzz (hx) (hy) hxb hyb hx0 hy0) (fun E F2 hq => ?_)
    obtain ⟨hEx, hEb, bh8, bl8, W8, hR8, hW8, eF2⟩ := hq
    refine J_eqF (F2 := va_up (va_up F 99 (.inl (g 0, 858, .inl (aI bh8)))) 100 (.inl (g 0, 33, .inl (aI bl8)))) eF2 ?_
    have hEu : isX u d E := (isX_ratio hy0 hd0 hxd E).mp hEx
    have hEe : expo u d = E := expo_eq hu0 hEu
    have hxc : x < 2 ^ 176 := Nat.lt_trans hxb (by decide)
    refine J_istore_n (lv' := [(2, .int (iI E)), (0, .ref (ad 98)), (1, .int (iI (m : Int)))]) d_M_floating_24 rfl (by decide) rfl ?_
    refine J_aload_n 1 d_M_floating_25 rfl rfl ?_
    refine J_iload_n 2 d_M_floating_26 rfl rfl ?_
    refine J_iconst d_M_floating_27 ?_
    refine J_isub d_M_floating_28 ?_
    refine J_iload_n 0 d_M_floating_29 rfl rfl ?_
    refine J_isub d_M_floating_30 ?_
    refine J_iconst d_M_floating_31 ?_
    refine J_callVv cw_M_348 nh_M_rounded pn_M_rounded rfl rfl (by omega) (by rw [va_up_ne _ _ (by decide), va_up_ne _ _ (by decide)]; exact hO) (As := [.int (iI (((m : Int) - 1) - E)), .int (iI 1)]) (rest := []) rfl (Nat.le_of_ble_eq_true rfl) ⟨by decide, by decide⟩ rfl ⟨by decide, by decide⟩ d_M_floating_32 (c_M_rounded hfl (x := x) (y := y) (n := (m : Int) - 1 - E) (lst := 1) (dh := dh) (hh := bh8) (ll := bl8) (f := f) (v := v) (V := W8) (br := br) hN (by rw [va_up_ne _ _ (by decide), va_up_ne _ _ (by decide)]; exact hO) (by rw [va_up_ne _ _ (by decide), va_up_self]) (by rw [va_up_self]) hR8 hzz (by rw [va_up_ne _ _ (by decide), va_up_ne _ _ (by decide)]; exact h106) (((hW8 _ (by omega) (by omega))).trans hx) (((hW8 _ (by omega) (by omega))).trans hy) hxc hyb hy0 ⟨by omega, by omega⟩ (by decide)) (fun  F3 hq => ?_)
    obtain ⟨bh2, bl3, dh4, W5, hR6, hW7, hdd8, eF3⟩ := hq
    refine J_eqF (F2 := va_up (va_up (va_up (va_up F 99 (.inl (g 0, 858, .inl (aI bh2)))) 100 (.inl (g 0, 33, .inl (aI bl3)))) 98 (oM ad (va_up f 16 ((ndm 10 1 (rdq x y ((m : Int) - 1 - E)) : Nat) : Int)) v)) 106 (.inl (g 0, 200, .inl (aI dh4)))) (eF3.trans (Eq.trans (congrArg (fun qF : Nat → va_E => va_up qF 106 (.inl (g 0, 200, .inl (aI dh4)))) (congrArg (fun qF : Nat → va_E => va_up qF 100 (.inl (g 0, 33, .inl (aI bl3)))) (up_in2 (by decide) (by decide)))) (congrArg (fun qF : Nat → va_E => va_up qF 106 (.inl (g 0, 200, .inl (aI dh4)))) (up_in1 (by decide))))) ?_
    have hrqa : rdq x y ((m : Int) - 1 - E) = rdq u d ((m : Int) - 1 - E) := rdq_ratio hy0 hd0 hxd _
    rw [hrqa] at hdd8
    refine J_eqF (F2 := va_up (va_up (va_up (va_up F 99 (.inl (g 0, 858, .inl (aI bh2)))) 100 (.inl (g 0, 33, .inl (aI bl3)))) 98 (oM ad (va_up f 16 ((ndm 10 1 (rdq u d ((m : Int) - 1 - E)) : Nat) : Int)) v)) 106 (.inl (g 0, 200, .inl (aI dh4)))) (congrArg (fun qq : Int => va_up (va_up (va_up (va_up F 99 (.inl (g 0, 858, .inl (aI bh2)))) 100 (.inl (g 0, 33, .inl (aI bl3)))) 98 (oM ad (va_up f 16 qq) v)) 106 (.inl (g 0, 200, .inl (aI dh4)))) (show ((ndm 10 1 (rdq x y ((m : Int) - 1 - E)) : Nat) : Int) = ((ndm 10 1 (rdq u d ((m : Int) - 1 - E)) : Nat) : Int) from by rw [hrqa])) ?_
    obtain ⟨hqa, hqb⟩ := rdq_m hd0 hEu hm.1
    obtain ⟨q, hq⟩ : ∃ q, q = rdq u d ((m : Int) - 1 - E) := ⟨_, rfl⟩
    have hnq : ndm 10 1 q ≤ m ↔ q < 10 ^ m := by
      have h1 := ndg_le (b := 10) (v := q) (n := m) (by decide)
      have h2 : 0 < q := by rw [hq]; exact Nat.lt_of_lt_of_le (Nat.pow_pos (by decide)) hqa
      rw [ndm_pos (by decide) h2]; exact h1
    rw [← hq] at hqa hqb
    have hn9 : ndm 10 1 q ≤ 200 := Nat.le_trans (ndm_b (n := m + 1) (by decide) (show q < 10 ^ (m + 1) by rw [Nat.pow_succ]; have := Nat.pow_pos (n := m) (show 0 < 10 by decide); omega) (by omega)) (by omega)
    refine J_eqF (F2 := va_up (va_up (va_up (va_up F 99 (.inl (g 0, 858, .inl (aI bh2)))) 100 (.inl (g 0, 33, .inl (aI bl3)))) 98 (oM ad (va_up f 16 ((ndm 10 1 q : Nat) : Int)) v)) 106 (.inl (g 0, 200, .inl (aI dh4)))) (congrArg (fun qq : Int => va_up (va_up (va_up (va_up F 99 (.inl (g 0, 858, .inl (aI bh2)))) 100 (.inl (g 0, 33, .inl (aI bl3)))) 98 (oM ad (va_up f 16 qq) v)) 106 (.inl (g 0, 200, .inl (aI dh4)))) (show ((ndm 10 1 (rdq u d ((m : Int) - 1 - E)) : Nat) : Int) = ((ndm 10 1 q : Nat) : Int) from by rw [hq])) ?_
    refine J_aload_n 1 d_M_floating_35 rfl rfl ?_
    refine gf_M_268 (by omega) (by rw [va_up_ne _ _ (by decide), va_up_self]) rfl d_M_floating_36 ?_
    refine J_topi (r := ((ndm 10 1 q : Nat) : Int)) (congrArg iI (va_up_self ..)) ?_
    refine J_iload_n 2 d_M_floating_39 rfl rfl ?_
    refine J_if_icmple (tgt := 56) d_M_floating_40 (by decide) ⟨by omega, by omega⟩ ⟨by omega, by omega⟩ (fun c40 => ?_) (fun c40 => ?_)
    · refine J_iload_n 0 d_M_floating_56 rfl rfl ?_
      refine J_eqF (F2 := va_up (va_up (va_up (va_up F 98 (oM ad (va_up f 16 ((ndm 10 1 q : Nat) : Int)) v)) 99 (.inl (g 0, 858, .inl (aI bh2)))) 100 (.inl (g 0, 33, .inl (aI bl3)))) 106 (.inl (g 0, 200, .inl (aI dh4)))) (Eq.trans (congrArg (fun qq : Nat → va_E => va_up qq 106 (.inl (g 0, 200, .inl (aI dh4)))) (up_cm (by decide))) (congrArg (fun qq : Nat → va_E => va_up (va_up qq 100 (.inl (g 0, 33, .inl (aI bl3)))) 106 (.inl (g 0, 200, .inl (aI dh4)))) (up_cm (by decide)))) ?_
      refine J_iret rfl rfl d_M_floating_57 ⟨by decide, by decide⟩ ?_
      have hlt : q < 10 ^ m := hnq.mp (by omega)
      obtain ⟨fa, fb⟩ := fl_a hu0 hEe (show rdq u d ((m : Int) - 1 - E) < 10 ^ m by rw [← hq]; exact hlt)
      have hmn : ndm 10 1 q = m := ndg_eq hm.1 hqa hlt
      rw [← hq] at fb
      refine ⟨_, rfl, rfl, rfl, fa.symm, by omega, bh2, bl3, dh4, W5, hR6, ?_, (by rw [fb]; intro k hk; have := hdd8 k (by rw [← hq, hmn]; exact hk); rw [← hq] at this; exact this), by rw [hmn]⟩
      exact (fun k hk => ((show (W5) k = W5 k from by rfl).trans ((hW7 k (by omega)).trans ((show (W8) k = W8 k from by rfl).trans ((hW8 k (by omega) (by omega)).trans (show (V) k = V k from by rfl))))))
    · refine J_iinc (j := 0) (b := E + 1) (lv' := [(2, .int (iI (E + 1))), (0, .ref (ad 98)), (1, .int (iI (m : Int)))]) d_M_floating_43 rfl (by omega) (by decide) rfl ?_
      refine J_aload_n 1 d_M_floating_46 rfl rfl ?_
      refine J_iload_n 2 d_M_floating_47 rfl rfl ?_
      refine J_iconst d_M_floating_48 ?_
      refine J_isub d_M_floating_49 ?_
      refine J_iload_n 0 d_M_floating_50 rfl rfl ?_
      refine J_isub d_M_floating_51 ?_
      refine J_iconst d_M_floating_52 ?_
      refine J_callVv cw_M_348 nh_M_rounded pn_M_rounded rfl rfl (by omega) (by rw [va_up_ne _ _ (by decide), va_up_self]) (As := [.int (iI (((m : Int) - 1) - (E + 1))), .int (iI 1)]) (rest := []) rfl (Nat.le_of_ble_eq_true rfl) ⟨by decide, by decide⟩ rfl ⟨by decide, by decide⟩ d_M_floating_53 (c_M_rounded hfl (x := x) (y := y) (n := (m : Int) - 1 - (E + 1)) (lst := 1) (dh := dh4) (hh := bh2) (ll := bl3) (f := va_up f 16 ((ndm 10 1 q : Nat) : Int)) (v := v) (V := W5) (br := br) hN (by rw [va_up_ne _ _ (by decide), va_up_self]) (by rw [va_up_ne _ _ (by decide), va_up_ne _ _ (by decide), va_up_ne _ _ (by decide), va_up_self]) (by rw [va_up_ne _ _ (by decide), va_up_ne _ _ (by decide), va_up_self]) hR6 hzz (by rw [va_up_self]) (((hW7 _ (by omega))).trans (((hW8 _ (by omega) (by omega))).trans hx)) (((hW7 _ (by omega))).trans (((hW8 _ (by omega) (by omega))).trans hy)) hxc hyb hy0 ⟨by omega, by omega⟩ (by decide)) (fun  F4 hq => ?_)
      obtain ⟨bh9, bl10, dh11, W12, hR13, hW14, hdd15, eF4⟩ := hq
      refine J_eqF (F2 := va_up (va_up (va_up (va_up F 99 (.inl (g 0, 858, .inl (aI bh9)))) 100 (.inl (g 0, 33, .inl (aI bl10)))) 98 (oM ad (va_up f 16 ((ndm 10 1 (rdq x y ((m : Int) - 1 - (E + 1))) : Nat) : Int)) v)) 106 (.inl (g 0, 200, .inl (aI dh11)))) ((eF4.trans (congrArg (fun qq : Nat → Int => va_up (va_up (va_up (va_up (va_up (va_up (va_up (va_up F 99 (.inl (g 0, 858, .inl (aI bh2)))) 100 (.inl (g 0, 33, .inl (aI bl3)))) 98 (oM ad (va_up f 16 ((ndm 10 1 q : Nat) : Int)) v)) 106 (.inl (g 0, 200, .inl (aI dh4)))) 98 (oM ad qq v)) 99 (.inl (g 0, 858, .inl (aI bh9)))) 100 (.inl (g 0, 33, .inl (aI bl10)))) 106 (.inl (g 0, 200, .inl (aI dh11)))) (up_in0))).trans (Eq.trans (Eq.trans (Eq.trans (congrArg (fun qF : Nat → va_E => va_up qF 106 (.inl (g 0, 200, .inl (aI dh11)))) (congrArg (fun qF : Nat → va_E => va_up qF 100 (.inl (g 0, 33, .inl (aI bl10)))) (congrArg (fun qF : Nat → va_E => va_up qF 99 (.inl (g 0, 858, .inl (aI bh9)))) (up_in1 (by decide))))) (congrArg (fun qF : Nat → va_E => va_up qF 106 (.inl (g 0, 200, .inl (aI dh11)))) (congrArg (fun qF : Nat → va_E => va_up qF 100 (.inl (g 0, 33, .inl (aI bl10)))) (up_in3 (by decide) (by decide) (by decide))))) (congrArg (fun qF : Nat → va_E => va_up qF 106 (.inl (g 0, 200, .inl (aI dh11)))) (up_in2 (by decide) (by decide)))) (up_in0))) ?_
      have hrqb : rdq x y ((m : Int) - 1 - (E + 1)) = rdq u d ((m : Int) - 1 - (E + 1)) := rdq_ratio hy0 hd0 hxd _
      rw [hrqb] at hdd15
      refine J_eqF (F2 := va_up (va_up (va_up (va_up F 99 (.inl (g 0, 858, .inl (aI bh9)))) 100 (.inl (g 0, 33, .inl (aI bl10)))) 98 (oM ad (va_up f 16 ((ndm 10 1 (rdq u d ((m : Int) - 1 - (E + 1))) : Nat) : Int)) v)) 106 (.inl (g 0, 200, .inl (aI dh11)))) (congrArg (fun qq : Int => va_up (va_up (va_up (va_up F 99 (.inl (g 0, 858, .inl (aI bh9)))) 100 (.inl (g 0, 33, .inl (aI bl10)))) 98 (oM ad (va_up f 16 qq) v)) 106 (.inl (g 0, 200, .inl (aI dh11)))) (show ((ndm 10 1 (rdq x y ((m : Int) - 1 - (E + 1))) : Nat) : Int) = ((ndm 10 1 (rdq u d ((m : Int) - 1 - (E + 1))) : Nat) : Int) from by rw [hrqb])) ?_
      refine J_iload_n 0 d_M_floating_56 rfl rfl ?_
      refine J_eqF (F2 := va_up (va_up (va_up (va_up F 98 (oM ad (va_up f 16 ((ndm 10 1 (rdq u d ((m : Int) - 1 - (E + 1))) : Nat) : Int)) v)) 99 (.inl (g 0, 858, .inl (aI bh9)))) 100 (.inl (g 0, 33, .inl (aI bl10)))) 106 (.inl (g 0, 200, .inl (aI dh11)))) (Eq.trans (congrArg (fun qq : Nat → va_E => va_up qq 106 (.inl (g 0, 200, .inl (aI dh11)))) (up_cm (by decide))) (congrArg (fun qq : Nat → va_E => va_up (va_up qq 100 (.inl (g 0, 33, .inl (aI bl10)))) 106 (.inl (g 0, 200, .inl (aI dh11)))) (up_cm (by decide)))) ?_
      refine J_iret rfl rfl d_M_floating_57 ⟨by decide, by decide⟩ ?_
      have hge : ¬ q < 10 ^ m := fun w => absurd (hnq.mpr w) (by omega)
      obtain ⟨fa, fb⟩ := fl_b hu0 hEe (show ¬ rdq u d ((m : Int) - 1 - E) < 10 ^ m by rw [← hq]; exact hge)
      have hq2 := rdq_n hd0 hEu hm.1 (show ¬ rdq u d ((m : Int) - 1 - E) < 10 ^ m by rw [← hq]; exact hge)
      have hmn : ndm 10 1 (rdq u d ((m : Int) - 1 - (E + 1))) = m := by rw [hq2]; exact ndg_eq hm.1 (Nat.le_refl _) (Nat.pow_lt_pow_right (by decide) (by omega))
      refine ⟨_, rfl, rfl, rfl, fa.symm, by omega, bh9, bl10, dh11, W12, hR13, ?_, (by rw [fb]; intro k hk; exact hdd15 k (by rw [hmn]; exact hk)), by rw [hmn]⟩
      exact (fun k hk => ((show (W12) k = W12 k from by rfl).trans ((hW14 k (by omega)).trans ((show (W5) k = W5 k from by rfl).trans ((hW7 k (by omega)).trans ((show (W8) k = W8 k from by rfl).trans ((hW8 k (by omega) (by omega)).trans (show (V) k = V k from by rfl))))))))
  · refine J_aload_n 0 d_M_floating_9 rfl rfl ?_
    refine J_bipush d_M_floating_10 (i8_ok (by decide)) ?_
    refine J_bipush d_M_floating_12 (i8_ok (by decide)) ?_
    refine J_iload_n 1 d_M_floating_14 rfl rfl ?_
    have hx000 : x = 0 := by omega
    refine J_callVv cw_M_294 nh_M_spell pn_M_spell rfl rfl (by omega) hO (As := [.int (iI 31), .int (iI 10), .int (iI (m : Int))]) (rest := []) rfl (Nat.le_of_ble_eq_true rfl) ⟨by decide, by decide⟩ rfl ⟨by decide, by decide⟩ d_M_floating_15 (c_M_spell hfl (dh := dh) (a := 31) (b := 10) (lst := m) (x := x) (hh := hh) (ll := ll) (f := f) (v := v) (V := V) (br := br) hN hO hB hL hR hzz h106 (by omega) (by omega) (hzz.2 31 (by decide) (by decide)) (hx) (by decide) (by rw [hx000, ndm_0]; omega)) (fun  F5 hq => ?_)
    obtain ⟨bh17, bl18, dh16, hR19, hdddh16, eF5⟩ := hq
    refine J_eqF (F2 := va_up (va_up (va_up (va_up F 98 (oM ad (va_up f 16 ((ndm 10 m x : Nat) : Int)) v)) 99 (.inl (g 0, 858, .inl (aI bh17)))) 100 (.inl (g 0, 33, .inl (aI bl18)))) 106 (.inl (g 0, 200, .inl (aI dh16)))) eF5 ?_
    refine J_iconst d_M_floating_18 ?_
    refine J_iret rfl rfl d_M_floating_19 ⟨by decide, by decide⟩ ?_
    have hx00 : x = 0 := by omega
    have hu00 : u = 0 := by
      rw [hx00, Nat.zero_mul] at hxd
      rcases Nat.mul_eq_zero.mp hxd.symm with q | q
      · exact q
      · omega
    subst hx00 hu00
    refine ⟨_, rfl, rfl, rfl, fl_0.1.symm, by decide, bh17, bl18, dh16, (va_up V 29 0), hR19, ?_, ?_, by rw [ndm_0]⟩
    · exact (fun k hk => (show (va_up V 29 0) k = V k from by rw [va_up_ne _ _ (by omega)]))
    · intro k hk; rw [fl_0.2]; exact hdddh16 k (by rw [ndm_0]; exact hk)
set_option maxRecDepth 100000 in
set_option maxHeartbeats 4000000 in
theorem c_M_sayFloat {l : Launch} (hfl : l.flags = flags0) {D : va_G} {g : Nat → ClassId} {ad : Nat → Nat} {N : Nat} {F : Nat → va_E} {hh ll f : Nat → Int} {v : UInt64} {V : Nat → Nat} {br : Nat → Nat} {dh tt : Nat → Int} {w : List Nat} {x y u d m lt : Nat} {sh c : Int}
    (hN : 109 ≤ N) (hO : F 98 = oM ad f v) (hB : F 99 = aB g hh) (hL : F 100 = aL g ll) (hR : reg br hh ll V) (hzz : okB br) (h106 : F 106 = .inl (g 0, 200, .inl (aI dh))) (h107 : F 107 = .inl (g 0, 260, .inl (aI tt))) (hmt : mtx tt w) (hf18 : f 18 = (w.length : Int)) (hx : V 31 = x) (hy : V 28 = y) (hxb : x < 2 ^ 168) (hyb : y < 2 ^ 168) (hy0 : 0 < y) (hd0 : 0 < d) (hxd : x * d = u * y) (hm : 1 ≤ m ∧ m ≤ 24) (hsh : f 24 = sh) (hshb : sh = 0 ∨ sh = 1) (hcb : c = 0 ∨ c = 1) (hcs : c ≠ 0 → sh = 0) (hlt : lt < 128) (hwl : w.length ≤ 10) :
    JC l y_M_sayFloat b_M_sayFloat 6 (Option.none : Option Jvm.ClassFile.FieldType) rm_M_sayFloat (0, 0) D jCl (jTys g) ad N F [.ref (ad 98), .int (iI (m : Int)), .int (iI c), .int (iI (lt : Int))] (jv ad N (fun F' => ∃ (hh' ll' f' dh' tt' : Nat → Int) (W : Nat → Nat), reg br hh' ll' W ∧ (∀ k, k < 16 ∨ (27 ≤ k ∧ k ≠ 29 ∧ k ≠ 32) → W k = V k) ∧ (∀ j, j ≠ 16 → j ≠ 18 → f' j = f j) ∧ f' 18 = ((w ++ floT (flQ u d m) m sh c (flE u d m) lt).length : Int) ∧ mtx tt' (w ++ floT (flQ u d m) m sh c (flE u d m) lt) ∧ F' = va_up (va_up (va_up (va_up (va_up F 98 (oM ad f' v)) 99 (aB g hh')) 100 (aL g ll')) 106 (.inl (g 0, 200, .inl (aI dh')))) 107 (.inl (g 0, 260, .inl (aI tt'))))) := by
  refine JC.go hfl (own := "NumberTowerModel") (lv := [(0, .ref (ad 98)), (1, .int (iI (m : Int))), (2, .int (iI c)), (3, .int (iI (lt : Int)))]) rfl (by decide +kernel) (Nat.le_of_ble_eq_true rfl) rfl (fun A => ?_)
  refine J_aload_n 0 d_M_sayFloat_0 rfl rfl ?_
  refine J_iload_n 1 d_M_sayFloat_1 rfl rfl ?_
  refine J_callVi cw_M_351 nh_M_floating pn_M_floating rfl rfl (by omega) hO (As := [.int (iI (m : Int))]) (rest := []) rfl (Nat.le_of_ble_eq_true rfl) ⟨by decide, by decide⟩ rfl ⟨by decide, by decide⟩ d_M_sayFloat_2 (c_M_floating hfl (x := x) (y := y) (u := u) (d := d) (m := m) (dh := dh) (hh := hh) (ll := ll) (f := f) (v := v) (V := V) (br := br) hN hO hB hL hR hzz h106 (hx) (hy) hxb hyb hy0 hd0 hxd hm) (fun z27 F1 hq => ?_)
  obtain ⟨hz27, hbz27, bh20, bl21, dh22, W23, hR24, hW25, hdd26, eF1⟩ := hq
  refine J_eqF (F2 := va_up (va_up (va_up (va_up F 98 (oM ad (va_up f 16 ((m : Nat) : Int)) v)) 99 (.inl (g 0, 858, .inl (aI bh20)))) 100 (.inl (g 0, 33, .inl (aI bl21)))) 106 (.inl (g 0, 200, .inl (aI dh22)))) eF1 ?_
  refine J_topi (r := (flE u d m)) (congrArg iI hz27) ?_
  rw [hz27] at hbz27
  obtain ⟨q, hq⟩ : ∃ q, q = flQ u d m := ⟨_, rfl⟩
  obtain ⟨e, he⟩ : ∃ e, e = flE u d m := ⟨_, rfl⟩
  rw [← hq] at hdd26
  rw [← he] at hbz27
  refine J_topi (r := e) (congrArg iI (by rw [he])) ?_
  refine J_istore (lv' := [(4, .int (iI e)), (0, .ref (ad 98)), (1, .int (iI (m : Int))), (2, .int (iI c)), (3, .int (iI (lt : Int)))]) d_M_sayFloat_5 (by decide) rfl ?_
  refine J_aload_n 1 d_M_sayFloat_7 rfl rfl ?_
  refine gf_M_265 (by omega) (by rw [va_up_ne _ _ (by decide), va_up_ne _ _ (by decide), va_up_ne _ _ (by decide), va_up_self]) rfl d_M_sayFloat_8 ?_
  refine J_topi (r := (w.length : Int)) (congrArg iI ((va_up_ne _ _ (by decide)).trans hf18)) ?_
  refine J_istore (lv' := [(5, .int (iI (w.length : Int))), (4, .int (iI e)), (0, .ref (ad 98)), (1, .int (iI (m : Int))), (2, .int (iI c)), (3, .int (iI (lt : Int)))]) d_M_sayFloat_11 (by decide) rfl ?_
  refine J_aload_n 2 d_M_sayFloat_13 rfl rfl ?_
  refine J_aload_n 2 d_M_sayFloat_14 rfl rfl ?_
  refine J_aload_n 2 d_M_sayFloat_15 rfl rfl ?_
  refine gf_M_268 (by omega) (by rw [va_up_ne _ _ (by decide), va_up_ne _ _ (by decide), va_up_ne _ _ (by decide), va_up_self]) rfl d_M_sayFloat_16 ?_
  refine J_topi (r := ((m : Nat) : Int)) (congrArg iI (va_up_self ..)) ?_
  refine J_iconst d_M_sayFloat_19 ?_
  refine J_isub d_M_sayFloat_20 ?_
  refine J_topi (r := ((m - 1 : Nat) : Int)) (congrArg iI (by omega)) ?_
  refine J_iconst d_M_sayFloat_21 ?_
  refine J_callVi cw_M_274 nh_M_sign pn_M_sign rfl rfl (by omega) (by rw [va_up_ne _ _ (by decide), va_up_ne _ _ (by decide), va_up_ne _ _ (by decide), va_up_self]) (As := [.int (iI ((m - 1 : Nat) : Int)), .int (iI 0)]) (rest := [.ref (ad 98)]) rfl (Nat.le_of_ble_eq_true rfl) ⟨by decide, by decide⟩ rfl ⟨by decide, by decide⟩ d_M_sayFloat_22 (c_M_sign hfl (f := va_up f 16 ((m : Nat) : Int)) (v := v) (dh := dh22) (k := m - 1) (d := dgv 10 q (m - 1)) (cap := 0) hN (by rw [va_up_ne _ _ (by decide), va_up_ne _ _ (by decide), va_up_ne _ _ (by decide), va_up_self]) (by rw [va_up_self]) (by omega) (hdd26 (m - 1) (by omega)) (dgv_16 _ _) (Or.inl rfl)) (fun zs F2 hq => ?_)
  obtain ⟨hzs, eF2⟩ := hq
  refine J_eqF eF2 ?_
  refine J_topi (r := (((48 + dgv 10 q (m - 1) : Nat)) : Int)) (congrArg iI (by rw [hzs, chd_d])) ?_
  have hd9 := dgv_10 q (m - 1)
  refine J_callVv cw_M_278 nh_M_say pn_M_say rfl rfl (by omega) (by rw [va_up_ne _ _ (by decide), va_up_ne _ _ (by decide), va_up_ne _ _ (by decide), va_up_self]) (As := [.int (iI (((48 + dgv 10 q (m - 1) : Nat)) : Int))]) (rest := []) rfl (Nat.le_of_ble_eq_true rfl) ⟨by decide, by decide⟩ rfl ⟨by decide, by decide⟩ d_M_sayFloat_25 (c_M_say hfl (f := va_up f 16 ((m : Nat) : Int)) (v := v) (tt := tt) (w := w) (c := (48 + dgv 10 q (m - 1))) hN (by rw [va_up_ne _ _ (by decide), va_up_ne _ _ (by decide), va_up_ne _ _ (by decide), va_up_self]) (by rw [va_up_ne _ _ (by decide), va_up_ne _ _ (by decide), va_up_ne _ _ (by decide), va_up_ne _ _ (by decide)]; exact h107) hmt ((va_up_ne _ _ (by decide)).trans hf18) (by omega)) (fun  F3 hq => ?_)
  obtain ⟨tx28, hmt29, eF3⟩ := hq
  refine J_eqF (F2 := va_up (va_up (va_up (va_up (va_up F 98 (oM ad (va_up (va_up f 16 ((m : Nat) : Int)) 18 (((w ++ [48 + dgv 10 q (m - 1)]).length : Nat) : Int)) v)) 99 (.inl (g 0, 858, .inl (aI bh20)))) 100 (.inl (g 0, 33, .inl (aI bl21)))) 106 (.inl (g 0, 200, .inl (aI dh22)))) 107 (.inl (g 0, 260, .inl (aI tx28)))) (eF3.trans (up_in4 (by decide) (by decide) (by decide) (by decide))) ?_
  refine J_iload_n 3 d_M_sayFloat_28 rfl rfl ?_
  refine J_iconst d_M_sayFloat_29 ?_
  refine J_if_icmpgt (tgt := 40) d_M_sayFloat_30 (by decide) ⟨by omega, by omega⟩ ⟨by omega, by omega⟩ (fun c30 => ?_) (fun c30 => ?_)
  · refine J_aload_n 2 d_M_sayFloat_40 rfl rfl ?_
    refine J_bipush d_M_sayFloat_41 (i8_ok (by decide)) ?_
    refine J_callVv cw_M_278 nh_M_say pn_M_say rfl rfl (by omega) (by rw [va_up_ne _ _ (by decide), va_up_ne _ _ (by decide), va_up_ne _ _ (by decide), va_up_ne _ _ (by decide), va_up_self]) (As := [.int (iI 46)]) (rest := []) rfl (Nat.le_of_ble_eq_true rfl) ⟨by decide, by decide⟩ rfl ⟨by decide, by decide⟩ d_M_sayFloat_43 (c_M_say hfl (f := va_up (va_up f 16 ((m : Nat) : Int)) 18 (((w ++ [48 + dgv 10 q (m - 1)]).length : Nat) : Int)) (v := v) (tt := tx28) (w := (w ++ [48 + dgv 10 q (m - 1)])) (c := (46 : Nat)) hN (by rw [va_up_ne _ _ (by decide), va_up_ne _ _ (by decide), va_up_ne _ _ (by decide), va_up_ne _ _ (by decide), va_up_self]) (by rw [va_up_self]) hmt29 (va_up_self ..) (by simp only [List.length_append, List.length_cons, List.length_nil]; omega)) (fun  F4 hq => ?_)
    obtain ⟨tx30, hmt31, eF4⟩ := hq
    refine J_eqF (F2 := va_up (va_up (va_up (va_up (va_up F 98 (oM ad (va_up (va_up f 16 ((m : Nat) : Int)) 18 ((((w ++ [48 + dgv 10 q (m - 1)]) ++ [(46 : Nat)]).length : Nat) : Int)) v)) 99 (.inl (g 0, 858, .inl (aI bh20)))) 100 (.inl (g 0, 33, .inl (aI bl21)))) 106 (.inl (g 0, 200, .inl (aI dh22)))) 107 (.inl (g 0, 260, .inl (aI tx30)))) ((eF4.trans (congrArg (fun qq : Nat → Int => va_up (va_up (va_up (va_up (va_up (va_up (va_up F 98 (oM ad (va_up (va_up f 16 ((m : Nat) : Int)) 18 (((w ++ [48 + dgv 10 q (m - 1)]).length : Nat) : Int)) v)) 99 (.inl (g 0, 858, .inl (aI bh20)))) 100 (.inl (g 0, 33, .inl (aI bl21)))) 106 (.inl (g 0, 200, .inl (aI dh22)))) 107 (.inl (g 0, 260, .inl (aI tx28)))) 107 (.inl (g 0, 260, .inl (aI tx30)))) 98 (oM ad qq v)) (up_in0))).trans (Eq.trans (congrArg (fun qF : Nat → va_E => va_up qF 98 (oM ad (va_up (va_up f 16 ((m : Nat) : Int)) 18 ((((w ++ [48 + dgv 10 q (m - 1)]) ++ [(46 : Nat)]).length : Nat) : Int)) v)) (up_in0)) (up_in4 (by decide) (by decide) (by decide) (by decide)))) ?_
    refine J_aload_n 2 d_M_sayFloat_46 rfl rfl ?_
    refine J_iload_n 3 d_M_sayFloat_47 rfl rfl ?_
    refine J_iconst d_M_sayFloat_48 ?_
    refine J_isub d_M_sayFloat_49 ?_
    refine J_iconst d_M_sayFloat_50 ?_
    refine J_iconst d_M_sayFloat_51 ?_
    refine J_iconst d_M_sayFloat_52 ?_
    refine J_iconst d_M_sayFloat_53 ?_
    refine J_callVv cw_M_300 nh_M_sayDigits pn_M_sayDigits rfl rfl (by omega) (by rw [va_up_ne _ _ (by decide), va_up_ne _ _ (by decide), va_up_ne _ _ (by decide), va_up_ne _ _ (by decide), va_up_self]) (As := [.int (iI ((m : Int) - 2)), .int (iI 0), .int (iI 3), .int (iI 0), .int (iI 0)]) (rest := []) rfl (Nat.le_of_ble_eq_true rfl) ⟨by decide, by decide⟩ rfl ⟨by decide, by decide⟩ d_M_sayFloat_54 (c_M_sayDigits hfl (f := va_up (va_up f 16 ((m : Nat) : Int)) 18 ((((w ++ [48 + dgv 10 q (m - 1)]) ++ [(46 : Nat)]).length : Nat) : Int)) (v := v) (tt := tx30) (w := ((w ++ [48 + dgv 10 q (m - 1)]) ++ [(46 : Nat)])) (dh := dh22) (dv := dgv 10 q) (cap := 0) (fro := (m : Int) - 2) (grp := 3) (pt := 0) (to := 0) (n := (m - 1)) hN (by rw [va_up_ne _ _ (by decide), va_up_ne _ _ (by decide), va_up_ne _ _ (by decide), va_up_ne _ _ (by decide), va_up_self]) (by rw [va_up_self]) hmt31 (va_up_self ..) (by rw [va_up_ne _ _ (by decide), va_up_self]) (fun k hk => ⟨hdd26 k (by omega), dgv_16 _ _⟩) (by omega) (by omega) (by omega) (by omega) (Or.inl rfl) (by simp only [List.length_append, List.length_cons, List.length_nil]; omega)) (fun  F5 hq => ?_)
    obtain ⟨tx32, hmt33, eF5⟩ := hq
    refine J_eqF (F2 := va_up (va_up (va_up (va_up (va_up F 98 (oM ad (va_up (va_up f 16 ((m : Nat) : Int)) 18 (((((w ++ [48 + dgv 10 q (m - 1)]) ++ [(46 : Nat)]) ++ sgr (dgv 10 q) 0 3 0 0 (m - 1)).length : Nat) : Int)) v)) 99 (.inl (g 0, 858, .inl (aI bh20)))) 100 (.inl (g 0, 33, .inl (aI bl21)))) 106 (.inl (g 0, 200, .inl (aI dh22)))) 107 (.inl (g 0, 260, .inl (aI tx32)))) ((eF5.trans (congrArg (fun qq : Nat → Int => va_up (va_up (va_up (va_up (va_up (va_up (va_up F 98 (oM ad (va_up (va_up f 16 ((m : Nat) : Int)) 18 ((((w ++ [48 + dgv 10 q (m - 1)]) ++ [(46 : Nat)]).length : Nat) : Int)) v)) 99 (.inl (g 0, 858, .inl (aI bh20)))) 100 (.inl (g 0, 33, .inl (aI bl21)))) 106 (.inl (g 0, 200, .inl (aI dh22)))) 107 (.inl (g 0, 260, .inl (aI tx30)))) 107 (.inl (g 0, 260, .inl (aI tx32)))) 98 (oM ad qq v)) (up_in0))).trans (Eq.trans (congrArg (fun qF : Nat → va_E => va_up qF 98 (oM ad (va_up (va_up f 16 ((m : Nat) : Int)) 18 (((((w ++ [48 + dgv 10 q (m - 1)]) ++ [(46 : Nat)]) ++ sgr (dgv 10 q) 0 3 0 0 (m - 1)).length : Nat) : Int)) v)) (up_in0)) (up_in4 (by decide) (by decide) (by decide) (by decide)))) ?_
    have hl7 : (sgr (dgv 10 q) 0 3 0 0 (m - 1)).length = m - 1 := sgr_1 _
    refine J_iload_n 4 d_M_sayFloat_57 rfl rfl ?_
    refine J_ifeq (tgt := 67) d_M_sayFloat_58 (by decide) ⟨by omega, by omega⟩ (fun c58 => ?_) (fun c58 => ?_)
    · refine J_aload_n 2 d_M_sayFloat_67 rfl rfl ?_
      refine J_iload 1 d_M_sayFloat_68 rfl ?_
      refine J_iload_n 5 d_M_sayFloat_70 rfl rfl ?_
      refine J_callVv cw_M_304 nh_M_sayExponent pn_M_sayExponent rfl rfl (by omega) (by rw [va_up_ne _ _ (by decide), va_up_ne _ _ (by decide), va_up_ne _ _ (by decide), va_up_ne _ _ (by decide), va_up_self]) (As := [.int (iI e), .int (iI (lt : Int))]) (rest := []) rfl (Nat.le_of_ble_eq_true rfl) ⟨by decide, by decide⟩ rfl ⟨by decide, by decide⟩ d_M_sayFloat_71 (c_M_sayExponent hfl (f := va_up (va_up f 16 ((m : Nat) : Int)) 18 (((((w ++ [48 + dgv 10 q (m - 1)]) ++ [(46 : Nat)]) ++ sgr (dgv 10 q) 0 3 0 0 (m - 1)).length : Nat) : Int)) (v := v) (tt := tx32) (w := (((w ++ [48 + dgv 10 q (m - 1)]) ++ [(46 : Nat)]) ++ sgr (dgv 10 q) 0 3 0 0 (m - 1))) (e := e) (lt := lt) hN (by rw [va_up_ne _ _ (by decide), va_up_ne _ _ (by decide), va_up_ne _ _ (by decide), va_up_ne _ _ (by decide), va_up_self]) (by rw [va_up_self]) hmt33 (va_up_self ..) (by omega) (by have h9 : (fixB q (m - 1)).length = m - 1 := sgr_1 _; have h8 := (cutP_l q (m - 1)).1; have h7 : (sgr (dgv 10 q) 0 3 0 0 (m - 1)).length = m - 1 := sgr_1 _; simp only [List.length_append, List.length_cons, List.length_nil]; omega)) (fun  F6 hq => ?_)
      obtain ⟨tx34, hmt35, eF6⟩ := hq
      refine J_eqF (F2 := va_up (va_up (va_up (va_up (va_up F 98 (oM ad (va_up (va_up f 16 ((m : Nat) : Int)) 18 ((((((w ++ [48 + dgv 10 q (m - 1)]) ++ [(46 : Nat)]) ++ sgr (dgv 10 q) 0 3 0 0 (m - 1)) ++ expT e lt).length : Nat) : Int)) v)) 99 (.inl (g 0, 858, .inl (aI bh20)))) 100 (.inl (g 0, 33, .inl (aI bl21)))) 106 (.inl (g 0, 200, .inl (aI dh22)))) 107 (.inl (g 0, 260, .inl (aI tx34)))) ((eF6.trans (congrArg (fun qq : Nat → Int => va_up (va_up (va_up (va_up (va_up (va_up (va_up F 98 (oM ad (va_up (va_up f 16 ((m : Nat) : Int)) 18 (((((w ++ [48 + dgv 10 q (m - 1)]) ++ [(46 : Nat)]) ++ sgr (dgv 10 q) 0 3 0 0 (m - 1)).length : Nat) : Int)) v)) 99 (.inl (g 0, 858, .inl (aI bh20)))) 100 (.inl (g 0, 33, .inl (aI bl21)))) 106 (.inl (g 0, 200, .inl (aI dh22)))) 107 (.inl (g 0, 260, .inl (aI tx32)))) 107 (.inl (g 0, 260, .inl (aI tx34)))) 98 (oM ad qq v)) (up_in0))).trans (Eq.trans (congrArg (fun qF : Nat → va_E => va_up qF 98 (oM ad (va_up (va_up f 16 ((m : Nat) : Int)) 18 ((((((w ++ [48 + dgv 10 q (m - 1)]) ++ [(46 : Nat)]) ++ sgr (dgv 10 q) 0 3 0 0 (m - 1)) ++ expT e lt).length : Nat) : Int)) v)) (up_in0)) (up_in4 (by decide) (by decide) (by decide) (by decide)))) ?_
      have ehmt36 : ((((w ++ [48 + dgv 10 q (m - 1)]) ++ [(46 : Nat)]) ++ sgr (dgv 10 q) 0 3 0 0 (m - 1)) ++ expT e lt) = w ++ floT (flQ u d m) m sh c (flE u d m) lt := by unfold floT; rw [← hq, ← he, if_neg (by omega), dotT_y (show 0 < m - 1 ∨ sh ≠ 0 by omega)]; exact fl_app
      have hmt36 : mtx tx34 (w ++ floT (flQ u d m) m sh c (flE u d m) lt) := ehmt36 ▸ hmt35
      refine J_eqF (F2 := va_up (va_up (va_up (va_up (va_up F 98 (oM ad (va_up (va_up f 16 ((m : Nat) : Int)) 18 ((w ++ floT (flQ u d m) m sh c (flE u d m) lt).length : Int)) v)) 99 (.inl (g 0, 858, .inl (aI bh20)))) 100 (.inl (g 0, 33, .inl (aI bl21)))) 106 (.inl (g 0, 200, .inl (aI dh22)))) 107 (.inl (g 0, 260, .inl (aI tx34)))) (congrArg (fun qq : Int => va_up (va_up (va_up (va_up (va_up F 98 (oM ad (va_up (va_up f 16 ((m : Nat) : Int)) 18 qq) v)) 99 (.inl (g 0, 858, .inl (aI bh20)))) 100 (.inl (g 0, 33, .inl (aI bl21)))) 106 (.inl (g 0, 200, .inl (aI dh22)))) 107 (.inl (g 0, 260, .inl (aI tx34)))) (show ((((((w ++ [48 + dgv 10 q (m - 1)]) ++ [(46 : Nat)]) ++ sgr (dgv 10 q) 0 3 0 0 (m - 1)) ++ expT e lt).length : Nat) : Int) = ((w ++ floT (flQ u d m) m sh c (flE u d m) lt).length : Int) from by rw [ehmt36])) ?_
      refine J_vret rfl d_M_sayFloat_74 ⟨by decide, by decide⟩ ?_
      refine ⟨rfl, rfl, rfl, bh20, bl21, (va_up (va_up f 16 ((m : Nat) : Int)) 18 ((w ++ floT (flQ u d m) m sh c (flE u d m) lt).length : Int)), dh22, tx34, W23, hR24, ?_, ?_, (va_up_self ..), hmt36, rfl⟩
      · exact (fun k hk => ((show (W23) k = W23 k from by rfl).trans ((hW25 k (by omega)).trans (show (V) k = V k from by rfl))))
      · exact (fun j h1 h2 => (show (va_up (va_up f 16 ((m : Nat) : Int)) 18 ((w ++ floT (flQ u d m) m sh c (flE u d m) lt).length : Int)) j = f j from by rw [va_up_ne _ _ h2, va_up_ne _ _ h1]))
    · refine J_eqF (F2 := va_up (va_up (va_up (va_up (va_up F 98 (oM ad (va_up (va_up f 16 ((m : Nat) : Int)) 18 (((((w ++ [48 + dgv 10 q (m - 1)]) ++ [(46 : Nat)]) ++ sgr (dgv 10 q) 0 3 0 0 (m - 1)).length : Nat) : Int)) v)) 107 (.inl (g 0, 260, .inl (aI tx32)))) 99 (.inl (g 0, 858, .inl (aI bh20)))) 100 (.inl (g 0, 33, .inl (aI bl21)))) 106 (.inl (g 0, 200, .inl (aI dh22)))) (Eq.trans (up_cm (by decide)) (Eq.trans (congrArg (fun qq : Nat → va_E => va_up qq 106 (.inl (g 0, 200, .inl (aI dh22)))) (up_cm (by decide))) (congrArg (fun qq : Nat → va_E => va_up (va_up qq 100 (.inl (g 0, 33, .inl (aI bl21)))) 106 (.inl (g 0, 200, .inl (aI dh22)))) (up_cm (by decide))))) ?_
      have hsh0 : sh = 0 := hcs (by omega)
      have ehmt37 : (((w ++ [48 + dgv 10 q (m - 1)]) ++ [(46 : Nat)]) ++ sgr (dgv 10 q) 0 3 0 0 (m - 1)) = w ++ [48 + dgv 10 q (m - 1)] ++ dot0 (m - 1) ++ fixB q (m - 1) := (by rw [dot0_p (show 0 < m - 1 by omega)]; rfl)
      have hmt37 : mtx tx32 (w ++ [48 + dgv 10 q (m - 1)] ++ dot0 (m - 1) ++ fixB q (m - 1)) := ehmt37 ▸ hmt33
      refine J_eqF (F2 := va_up (va_up (va_up (va_up (va_up F 98 (oM ad (va_up (va_up f 16 ((m : Nat) : Int)) 18 ((w ++ [48 + dgv 10 q (m - 1)] ++ dot0 (m - 1) ++ fixB q (m - 1)).length : Int)) v)) 107 (.inl (g 0, 260, .inl (aI tx32)))) 99 (.inl (g 0, 858, .inl (aI bh20)))) 100 (.inl (g 0, 33, .inl (aI bl21)))) 106 (.inl (g 0, 200, .inl (aI dh22)))) (congrArg (fun qq : Int => va_up (va_up (va_up (va_up (va_up F 98 (oM ad (va_up (va_up f 16 ((m : Nat) : Int)) 18 qq) v)) 107 (.inl (g 0, 260, .inl (aI tx32)))) 99 (.inl (g 0, 858, .inl (aI bh20)))) 100 (.inl (g 0, 33, .inl (aI bl21)))) 106 (.inl (g 0, 200, .inl (aI dh22)))) (show (((((w ++ [48 + dgv 10 q (m - 1)]) ++ [(46 : Nat)]) ++ sgr (dgv 10 q) 0 3 0 0 (m - 1)).length : Nat) : Int) = ((w ++ [48 + dgv 10 q (m - 1)] ++ dot0 (m - 1) ++ fixB q (m - 1)).length : Int) from by rw [ehmt37])) ?_
      refine J_aload_n 2 d_M_sayFloat_61 rfl rfl ?_
      refine J_iload 0 d_M_sayFloat_62 rfl ?_
      refine J_callVv cw_M_354 nh_M_cut pn_M_cut rfl rfl (by omega) (by rw [va_up_ne _ _ (by decide), va_up_ne _ _ (by decide), va_up_ne _ _ (by decide), va_up_ne _ _ (by decide), va_up_self]) (As := [.int (iI (w.length : Int))]) (rest := []) rfl (Nat.le_of_ble_eq_true rfl) ⟨by decide, by decide⟩ rfl ⟨by decide, by decide⟩ d_M_sayFloat_64 (c_M_cut hfl (f := va_up (va_up f 16 ((m : Nat) : Int)) 18 ((w ++ [48 + dgv 10 q (m - 1)] ++ dot0 (m - 1) ++ fixB q (m - 1)).length : Int)) (v := v) (tt := tx32) (a0 := w) (aa := [48 + dgv 10 q (m - 1)]) (q := q) (p := (m - 1)) hN (by rw [va_up_ne _ _ (by decide), va_up_ne _ _ (by decide), va_up_ne _ _ (by decide), va_up_ne _ _ (by decide), va_up_self]) (by rw [va_up_ne _ _ (by decide), va_up_ne _ _ (by decide), va_up_ne _ _ (by decide), va_up_self]) hmt37 (va_up_self ..) (by rw [len4]; have h9 : (fixB q (m - 1)).length = m - 1 := sgr_1 _; have h8 := dot0_l (m - 1); rw [h9, List.length_singleton]; omega) (fun c hc => by rw [List.mem_singleton.mp hc]; omega)) (fun  F7 hq => ?_)
      obtain ⟨hmt38, eF7⟩ := hq
      refine J_eqF (F2 := va_up (va_up (va_up (va_up (va_up F 98 (oM ad (va_up (va_up f 16 ((m : Nat) : Int)) 18 (((w ++ [48 + dgv 10 q (m - 1)] ++ cutP q (m - 1)).length : Nat) : Int)) v)) 107 (.inl (g 0, 260, .inl (aI tx32)))) 99 (.inl (g 0, 858, .inl (aI bh20)))) 100 (.inl (g 0, 33, .inl (aI bl21)))) 106 (.inl (g 0, 200, .inl (aI dh22)))) ((eF7.trans (congrArg (fun qq : Nat → Int => va_up (va_up (va_up (va_up (va_up (va_up F 98 (oM ad (va_up (va_up f 16 ((m : Nat) : Int)) 18 ((w ++ [48 + dgv 10 q (m - 1)] ++ dot0 (m - 1) ++ fixB q (m - 1)).length : Int)) v)) 107 (.inl (g 0, 260, .inl (aI tx32)))) 99 (.inl (g 0, 858, .inl (aI bh20)))) 100 (.inl (g 0, 33, .inl (aI bl21)))) 106 (.inl (g 0, 200, .inl (aI dh22)))) 98 (oM ad qq v)) (up_in0))).trans (up_in4 (by decide) (by decide) (by decide) (by decide))) ?_
      refine J_aload_n 2 d_M_sayFloat_67 rfl rfl ?_
      refine J_iload 1 d_M_sayFloat_68 rfl ?_
      refine J_iload_n 5 d_M_sayFloat_70 rfl rfl ?_
      refine J_callVv cw_M_304 nh_M_sayExponent pn_M_sayExponent rfl rfl (by omega) (by rw [va_up_ne _ _ (by decide), va_up_ne _ _ (by decide), va_up_ne _ _ (by decide), va_up_ne _ _ (by decide), va_up_self]) (As := [.int (iI e), .int (iI (lt : Int))]) (rest := []) rfl (Nat.le_of_ble_eq_true rfl) ⟨by decide, by decide⟩ rfl ⟨by decide, by decide⟩ d_M_sayFloat_71 (c_M_sayExponent hfl (f := va_up (va_up f 16 ((m : Nat) : Int)) 18 (((w ++ [48 + dgv 10 q (m - 1)] ++ cutP q (m - 1)).length : Nat) : Int)) (v := v) (tt := tx32) (w := (w ++ [48 + dgv 10 q (m - 1)] ++ cutP q (m - 1))) (e := e) (lt := lt) hN (by rw [va_up_ne _ _ (by decide), va_up_ne _ _ (by decide), va_up_ne _ _ (by decide), va_up_ne _ _ (by decide), va_up_self]) (by rw [va_up_ne _ _ (by decide), va_up_ne _ _ (by decide), va_up_ne _ _ (by decide), va_up_self]) hmt38 (va_up_self ..) (by omega) (by have h9 : (fixB q (m - 1)).length = m - 1 := sgr_1 _; have h8 := (cutP_l q (m - 1)).1; have h7 : (sgr (dgv 10 q) 0 3 0 0 (m - 1)).length = m - 1 := sgr_1 _; simp only [List.length_append, List.length_cons, List.length_nil]; omega)) (fun  F8 hq => ?_)
      obtain ⟨tx39, hmt40, eF8⟩ := hq
      refine J_eqF (F2 := va_up (va_up (va_up (va_up (va_up F 98 (oM ad (va_up (va_up f 16 ((m : Nat) : Int)) 18 ((((w ++ [48 + dgv 10 q (m - 1)] ++ cutP q (m - 1)) ++ expT e lt).length : Nat) : Int)) v)) 107 (.inl (g 0, 260, .inl (aI tx39)))) 99 (.inl (g 0, 858, .inl (aI bh20)))) 100 (.inl (g 0, 33, .inl (aI bl21)))) 106 (.inl (g 0, 200, .inl (aI dh22)))) ((eF8.trans (congrArg (fun qq : Nat → Int => va_up (va_up (va_up (va_up (va_up (va_up (va_up F 98 (oM ad (va_up (va_up f 16 ((m : Nat) : Int)) 18 (((w ++ [48 + dgv 10 q (m - 1)] ++ cutP q (m - 1)).length : Nat) : Int)) v)) 107 (.inl (g 0, 260, .inl (aI tx32)))) 99 (.inl (g 0, 858, .inl (aI bh20)))) 100 (.inl (g 0, 33, .inl (aI bl21)))) 106 (.inl (g 0, 200, .inl (aI dh22)))) 107 (.inl (g 0, 260, .inl (aI tx39)))) 98 (oM ad qq v)) (up_in0))).trans (Eq.trans (congrArg (fun qF : Nat → va_E => va_up qF 98 (oM ad (va_up (va_up f 16 ((m : Nat) : Int)) 18 ((((w ++ [48 + dgv 10 q (m - 1)] ++ cutP q (m - 1)) ++ expT e lt).length : Nat) : Int)) v)) (up_in3 (by decide) (by decide) (by decide))) (up_in4 (by decide) (by decide) (by decide) (by decide)))) ?_
      refine J_eqF (F2 := va_up (va_up (va_up (va_up (va_up F 98 (oM ad (va_up (va_up f 16 ((m : Nat) : Int)) 18 ((((w ++ [48 + dgv 10 q (m - 1)] ++ cutP q (m - 1)) ++ expT e lt).length : Nat) : Int)) v)) 99 (.inl (g 0, 858, .inl (aI bh20)))) 100 (.inl (g 0, 33, .inl (aI bl21)))) 106 (.inl (g 0, 200, .inl (aI dh22)))) 107 (.inl (g 0, 260, .inl (aI tx39)))) (Eq.trans (congrArg (fun qq : Nat → va_E => va_up (va_up qq 100 (.inl (g 0, 33, .inl (aI bl21)))) 106 (.inl (g 0, 200, .inl (aI dh22)))) (up_cm (by decide))) (Eq.trans (congrArg (fun qq : Nat → va_E => va_up qq 106 (.inl (g 0, 200, .inl (aI dh22)))) (up_cm (by decide))) (up_cm (by decide)))) ?_
      have ehmt41 : ((w ++ [48 + dgv 10 q (m - 1)] ++ cutP q (m - 1)) ++ expT e lt) = w ++ floT (flQ u d m) m sh c (flE u d m) lt := by unfold floT; rw [← hq, ← he, if_pos (by omega)]; exact fl_app2
      have hmt41 : mtx tx39 (w ++ floT (flQ u d m) m sh c (flE u d m) lt) := ehmt41 ▸ hmt40
      refine J_eqF (F2 := va_up (va_up (va_up (va_up (va_up F 98 (oM ad (va_up (va_up f 16 ((m : Nat) : Int)) 18 ((w ++ floT (flQ u d m) m sh c (flE u d m) lt).length : Int)) v)) 99 (.inl (g 0, 858, .inl (aI bh20)))) 100 (.inl (g 0, 33, .inl (aI bl21)))) 106 (.inl (g 0, 200, .inl (aI dh22)))) 107 (.inl (g 0, 260, .inl (aI tx39)))) (congrArg (fun qq : Int => va_up (va_up (va_up (va_up (va_up F 98 (oM ad (va_up (va_up f 16 ((m : Nat) : Int)) 18 qq) v)) 99 (.inl (g 0, 858, .inl (aI bh20)))) 100 (.inl (g 0, 33, .inl (aI bl21)))) 106 (.inl (g 0, 200, .inl (aI dh22)))) 107 (.inl (g 0, 260, .inl (aI tx39)))) (show ((((w ++ [48 + dgv 10 q (m - 1)] ++ cutP q (m - 1)) ++ expT e lt).length : Nat) : Int) = ((w ++ floT (flQ u d m) m sh c (flE u d m) lt).length : Int) from by rw [ehmt41])) ?_
      refine J_vret rfl d_M_sayFloat_74 ⟨by decide, by decide⟩ ?_
      refine ⟨rfl, rfl, rfl, bh20, bl21, (va_up (va_up f 16 ((m : Nat) : Int)) 18 ((w ++ floT (flQ u d m) m sh c (flE u d m) lt).length : Int)), dh22, tx39, W23, hR24, ?_, ?_, (va_up_self ..), hmt41, rfl⟩
      · exact (fun k hk => ((show (W23) k = W23 k from by rfl).trans ((hW25 k (by omega)).trans (show (V) k = V k from by rfl))))
      · exact (fun j h1 h2 => (show (va_up (va_up f 16 ((m : Nat) : Int)) 18 ((w ++ floT (flQ u d m) m sh c (flE u d m) lt).length : Int)) j = f j from by rw [va_up_ne _ _ h2, va_up_ne _ _ h1]))
  · refine J_aload_n 2 d_M_sayFloat_33 rfl rfl ?_
    refine gf_M_327 (by omega) (by rw [va_up_ne _ _ (by decide), va_up_ne _ _ (by decide), va_up_ne _ _ (by decide), va_up_ne _ _ (by decide), va_up_self]) rfl d_M_sayFloat_34 ?_
    refine J_topi (r := sh) (congrArg iI ((va_up_ne _ _ (by decide)).trans ((va_up_ne _ _ (by decide)).trans hsh))) ?_
    refine J_ifeq (tgt := 46) d_M_sayFloat_37 (by decide) ⟨by omega, by omega⟩ (fun c37 => ?_) (fun c37 => ?_)
    · refine J_aload_n 2 d_M_sayFloat_46 rfl rfl ?_
      refine J_iload_n 3 d_M_sayFloat_47 rfl rfl ?_
      refine J_iconst d_M_sayFloat_48 ?_
      refine J_isub d_M_sayFloat_49 ?_
      refine J_iconst d_M_sayFloat_50 ?_
      refine J_iconst d_M_sayFloat_51 ?_
      refine J_iconst d_M_sayFloat_52 ?_
      refine J_iconst d_M_sayFloat_53 ?_
      refine J_callVv cw_M_300 nh_M_sayDigits pn_M_sayDigits rfl rfl (by omega) (by rw [va_up_ne _ _ (by decide), va_up_ne _ _ (by decide), va_up_ne _ _ (by decide), va_up_ne _ _ (by decide), va_up_self]) (As := [.int (iI ((m : Int) - 2)), .int (iI 0), .int (iI 3), .int (iI 0), .int (iI 0)]) (rest := []) rfl (Nat.le_of_ble_eq_true rfl) ⟨by decide, by decide⟩ rfl ⟨by decide, by decide⟩ d_M_sayFloat_54 (c_M_sayDigits hfl (f := va_up (va_up f 16 ((m : Nat) : Int)) 18 (((w ++ [48 + dgv 10 q (m - 1)]).length : Nat) : Int)) (v := v) (tt := tx28) (w := (w ++ [48 + dgv 10 q (m - 1)])) (dh := dh22) (dv := dgv 10 q) (cap := 0) (fro := (m : Int) - 2) (grp := 3) (pt := 0) (to := 0) (n := (m - 1)) hN (by rw [va_up_ne _ _ (by decide), va_up_ne _ _ (by decide), va_up_ne _ _ (by decide), va_up_ne _ _ (by decide), va_up_self]) (by rw [va_up_self]) hmt29 (va_up_self ..) (by rw [va_up_ne _ _ (by decide), va_up_self]) (fun k hk => ⟨hdd26 k (by omega), dgv_16 _ _⟩) (by omega) (by omega) (by omega) (by omega) (Or.inl rfl) (by simp only [List.length_append, List.length_cons, List.length_nil]; omega)) (fun  F9 hq => ?_)
      obtain ⟨tx42, hmt43, eF9⟩ := hq
      refine J_eqF (F2 := va_up (va_up (va_up (va_up (va_up F 98 (oM ad (va_up (va_up f 16 ((m : Nat) : Int)) 18 ((((w ++ [48 + dgv 10 q (m - 1)]) ++ sgr (dgv 10 q) 0 3 0 0 (m - 1)).length : Nat) : Int)) v)) 99 (.inl (g 0, 858, .inl (aI bh20)))) 100 (.inl (g 0, 33, .inl (aI bl21)))) 106 (.inl (g 0, 200, .inl (aI dh22)))) 107 (.inl (g 0, 260, .inl (aI tx42)))) ((eF9.trans (congrArg (fun qq : Nat → Int => va_up (va_up (va_up (va_up (va_up (va_up (va_up F 98 (oM ad (va_up (va_up f 16 ((m : Nat) : Int)) 18 (((w ++ [48 + dgv 10 q (m - 1)]).length : Nat) : Int)) v)) 99 (.inl (g 0, 858, .inl (aI bh20)))) 100 (.inl (g 0, 33, .inl (aI bl21)))) 106 (.inl (g 0, 200, .inl (aI dh22)))) 107 (.inl (g 0, 260, .inl (aI tx28)))) 107 (.inl (g 0, 260, .inl (aI tx42)))) 98 (oM ad qq v)) (up_in0))).trans (Eq.trans (congrArg (fun qF : Nat → va_E => va_up qF 98 (oM ad (va_up (va_up f 16 ((m : Nat) : Int)) 18 ((((w ++ [48 + dgv 10 q (m - 1)]) ++ sgr (dgv 10 q) 0 3 0 0 (m - 1)).length : Nat) : Int)) v)) (up_in0)) (up_in4 (by decide) (by decide) (by decide) (by decide)))) ?_
      have hl7 : (sgr (dgv 10 q) 0 3 0 0 (m - 1)).length = m - 1 := sgr_1 _
      refine J_iload_n 4 d_M_sayFloat_57 rfl rfl ?_
      refine J_ifeq (tgt := 67) d_M_sayFloat_58 (by decide) ⟨by omega, by omega⟩ (fun c58 => ?_) (fun c58 => ?_)
      · refine J_aload_n 2 d_M_sayFloat_67 rfl rfl ?_
        refine J_iload 1 d_M_sayFloat_68 rfl ?_
        refine J_iload_n 5 d_M_sayFloat_70 rfl rfl ?_
        refine J_callVv cw_M_304 nh_M_sayExponent pn_M_sayExponent rfl rfl (by omega) (by rw [va_up_ne _ _ (by decide), va_up_ne _ _ (by decide), va_up_ne _ _ (by decide), va_up_ne _ _ (by decide), va_up_self]) (As := [.int (iI e), .int (iI (lt : Int))]) (rest := []) rfl (Nat.le_of_ble_eq_true rfl) ⟨by decide, by decide⟩ rfl ⟨by decide, by decide⟩ d_M_sayFloat_71 (c_M_sayExponent hfl (f := va_up (va_up f 16 ((m : Nat) : Int)) 18 ((((w ++ [48 + dgv 10 q (m - 1)]) ++ sgr (dgv 10 q) 0 3 0 0 (m - 1)).length : Nat) : Int)) (v := v) (tt := tx42) (w := ((w ++ [48 + dgv 10 q (m - 1)]) ++ sgr (dgv 10 q) 0 3 0 0 (m - 1))) (e := e) (lt := lt) hN (by rw [va_up_ne _ _ (by decide), va_up_ne _ _ (by decide), va_up_ne _ _ (by decide), va_up_ne _ _ (by decide), va_up_self]) (by rw [va_up_self]) hmt43 (va_up_self ..) (by omega) (by have h9 : (fixB q (m - 1)).length = m - 1 := sgr_1 _; have h8 := (cutP_l q (m - 1)).1; have h7 : (sgr (dgv 10 q) 0 3 0 0 (m - 1)).length = m - 1 := sgr_1 _; simp only [List.length_append, List.length_cons, List.length_nil]; omega)) (fun  F10 hq => ?_)
        obtain ⟨tx44, hmt45, eF10⟩ := hq
        refine J_eqF (F2 := va_up (va_up (va_up (va_up (va_up F 98 (oM ad (va_up (va_up f 16 ((m : Nat) : Int)) 18 (((((w ++ [48 + dgv 10 q (m - 1)]) ++ sgr (dgv 10 q) 0 3 0 0 (m - 1)) ++ expT e lt).length : Nat) : Int)) v)) 99 (.inl (g 0, 858, .inl (aI bh20)))) 100 (.inl (g 0, 33, .inl (aI bl21)))) 106 (.inl (g 0, 200, .inl (aI dh22)))) 107 (.inl (g 0, 260, .inl (aI tx44)))) ((eF10.trans (congrArg (fun qq : Nat → Int => va_up (va_up (va_up (va_up (va_up (va_up (va_up F 98 (oM ad (va_up (va_up f 16 ((m : Nat) : Int)) 18 ((((w ++ [48 + dgv 10 q (m - 1)]) ++ sgr (dgv 10 q) 0 3 0 0 (m - 1)).length : Nat) : Int)) v)) 99 (.inl (g 0, 858, .inl (aI bh20)))) 100 (.inl (g 0, 33, .inl (aI bl21)))) 106 (.inl (g 0, 200, .inl (aI dh22)))) 107 (.inl (g 0, 260, .inl (aI tx42)))) 107 (.inl (g 0, 260, .inl (aI tx44)))) 98 (oM ad qq v)) (up_in0))).trans (Eq.trans (congrArg (fun qF : Nat → va_E => va_up qF 98 (oM ad (va_up (va_up f 16 ((m : Nat) : Int)) 18 (((((w ++ [48 + dgv 10 q (m - 1)]) ++ sgr (dgv 10 q) 0 3 0 0 (m - 1)) ++ expT e lt).length : Nat) : Int)) v)) (up_in0)) (up_in4 (by decide) (by decide) (by decide) (by decide)))) ?_
        have ehmt46 : (((w ++ [48 + dgv 10 q (m - 1)]) ++ sgr (dgv 10 q) 0 3 0 0 (m - 1)) ++ expT e lt) = w ++ floT (flQ u d m) m sh c (flE u d m) lt := by unfold floT; rw [← hq, ← he, if_neg (by omega), dotT_n (show ¬(0 < m - 1 ∨ sh ≠ 0) by omega)]; exact fl_app0
        have hmt46 : mtx tx44 (w ++ floT (flQ u d m) m sh c (flE u d m) lt) := ehmt46 ▸ hmt45
        refine J_eqF (F2 := va_up (va_up (va_up (va_up (va_up F 98 (oM ad (va_up (va_up f 16 ((m : Nat) : Int)) 18 ((w ++ floT (flQ u d m) m sh c (flE u d m) lt).length : Int)) v)) 99 (.inl (g 0, 858, .inl (aI bh20)))) 100 (.inl (g 0, 33, .inl (aI bl21)))) 106 (.inl (g 0, 200, .inl (aI dh22)))) 107 (.inl (g 0, 260, .inl (aI tx44)))) (congrArg (fun qq : Int => va_up (va_up (va_up (va_up (va_up F 98 (oM ad (va_up (va_up f 16 ((m : Nat) : Int)) 18 qq) v)) 99 (.inl (g 0, 858, .inl (aI bh20)))) 100 (.inl (g 0, 33, .inl (aI bl21)))) 106 (.inl (g 0, 200, .inl (aI dh22)))) 107 (.inl (g 0, 260, .inl (aI tx44)))) (show (((((w ++ [48 + dgv 10 q (m - 1)]) ++ sgr (dgv 10 q) 0 3 0 0 (m - 1)) ++ expT e lt).length : Nat) : Int) = ((w ++ floT (flQ u d m) m sh c (flE u d m) lt).length : Int) from by rw [ehmt46])) ?_
        refine J_vret rfl d_M_sayFloat_74 ⟨by decide, by decide⟩ ?_
        refine ⟨rfl, rfl, rfl, bh20, bl21, (va_up (va_up f 16 ((m : Nat) : Int)) 18 ((w ++ floT (flQ u d m) m sh c (flE u d m) lt).length : Int)), dh22, tx44, W23, hR24, ?_, ?_, (va_up_self ..), hmt46, rfl⟩
        · exact (fun k hk => ((show (W23) k = W23 k from by rfl).trans ((hW25 k (by omega)).trans (show (V) k = V k from by rfl))))
        · exact (fun j h1 h2 => (show (va_up (va_up f 16 ((m : Nat) : Int)) 18 ((w ++ floT (flQ u d m) m sh c (flE u d m) lt).length : Int)) j = f j from by rw [va_up_ne _ _ h2, va_up_ne _ _ h1]))
      · refine J_eqF (F2 := va_up (va_up (va_up (va_up (va_up F 98 (oM ad (va_up (va_up f 16 ((m : Nat) : Int)) 18 ((((w ++ [48 + dgv 10 q (m - 1)]) ++ sgr (dgv 10 q) 0 3 0 0 (m - 1)).length : Nat) : Int)) v)) 107 (.inl (g 0, 260, .inl (aI tx42)))) 99 (.inl (g 0, 858, .inl (aI bh20)))) 100 (.inl (g 0, 33, .inl (aI bl21)))) 106 (.inl (g 0, 200, .inl (aI dh22)))) (Eq.trans (up_cm (by decide)) (Eq.trans (congrArg (fun qq : Nat → va_E => va_up qq 106 (.inl (g 0, 200, .inl (aI dh22)))) (up_cm (by decide))) (congrArg (fun qq : Nat → va_E => va_up (va_up qq 100 (.inl (g 0, 33, .inl (aI bl21)))) 106 (.inl (g 0, 200, .inl (aI dh22)))) (up_cm (by decide))))) ?_
        have hsh0 : sh = 0 := hcs (by omega)
        have ehmt47 : ((w ++ [48 + dgv 10 q (m - 1)]) ++ sgr (dgv 10 q) 0 3 0 0 (m - 1)) = w ++ [48 + dgv 10 q (m - 1)] ++ dot0 (m - 1) ++ fixB q (m - 1) := (by rw [show m - 1 = 0 by omega, dot0_z, List.append_nil]; rfl)
        have hmt47 : mtx tx42 (w ++ [48 + dgv 10 q (m - 1)] ++ dot0 (m - 1) ++ fixB q (m - 1)) := ehmt47 ▸ hmt43
        refine J_eqF (F2 := va_up (va_up (va_up (va_up (va_up F 98 (oM ad (va_up (va_up f 16 ((m : Nat) : Int)) 18 ((w ++ [48 + dgv 10 q (m - 1)] ++ dot0 (m - 1) ++ fixB q (m - 1)).length : Int)) v)) 107 (.inl (g 0, 260, .inl (aI tx42)))) 99 (.inl (g 0, 858, .inl (aI bh20)))) 100 (.inl (g 0, 33, .inl (aI bl21)))) 106 (.inl (g 0, 200, .inl (aI dh22)))) (congrArg (fun qq : Int => va_up (va_up (va_up (va_up (va_up F 98 (oM ad (va_up (va_up f 16 ((m : Nat) : Int)) 18 qq) v)) 107 (.inl (g 0, 260, .inl (aI tx42)))) 99 (.inl (g 0, 858, .inl (aI bh20)))) 100 (.inl (g 0, 33, .inl (aI bl21)))) 106 (.inl (g 0, 200, .inl (aI dh22)))) (show ((((w ++ [48 + dgv 10 q (m - 1)]) ++ sgr (dgv 10 q) 0 3 0 0 (m - 1)).length : Nat) : Int) = ((w ++ [48 + dgv 10 q (m - 1)] ++ dot0 (m - 1) ++ fixB q (m - 1)).length : Int) from by rw [ehmt47])) ?_
        refine J_aload_n 2 d_M_sayFloat_61 rfl rfl ?_
        refine J_iload 0 d_M_sayFloat_62 rfl ?_
        refine J_callVv cw_M_354 nh_M_cut pn_M_cut rfl rfl (by omega) (by rw [va_up_ne _ _ (by decide), va_up_ne _ _ (by decide), va_up_ne _ _ (by decide), va_up_ne _ _ (by decide), va_up_self]) (As := [.int (iI (w.length : Int))]) (rest := []) rfl (Nat.le_of_ble_eq_true rfl) ⟨by decide, by decide⟩ rfl ⟨by decide, by decide⟩ d_M_sayFloat_64 (c_M_cut hfl (f := va_up (va_up f 16 ((m : Nat) : Int)) 18 ((w ++ [48 + dgv 10 q (m - 1)] ++ dot0 (m - 1) ++ fixB q (m - 1)).length : Int)) (v := v) (tt := tx42) (a0 := w) (aa := [48 + dgv 10 q (m - 1)]) (q := q) (p := (m - 1)) hN (by rw [va_up_ne _ _ (by decide), va_up_ne _ _ (by decide), va_up_ne _ _ (by decide), va_up_ne _ _ (by decide), va_up_self]) (by rw [va_up_ne _ _ (by decide), va_up_ne _ _ (by decide), va_up_ne _ _ (by decide), va_up_self]) hmt47 (va_up_self ..) (by rw [len4]; have h9 : (fixB q (m - 1)).length = m - 1 := sgr_1 _; have h8 := dot0_l (m - 1); rw [h9, List.length_singleton]; omega) (fun c hc => by rw [List.mem_singleton.mp hc]; omega)) (fun  F11 hq => ?_)
        obtain ⟨hmt48, eF11⟩ := hq
        refine J_eqF (F2 := va_up (va_up (va_up (va_up (va_up F 98 (oM ad (va_up (va_up f 16 ((m : Nat) : Int)) 18 (((w ++ [48 + dgv 10 q (m - 1)] ++ cutP q (m - 1)).length : Nat) : Int)) v)) 107 (.inl (g 0, 260, .inl (aI tx42)))) 99 (.inl (g 0, 858, .inl (aI bh20)))) 100 (.inl (g 0, 33, .inl (aI bl21)))) 106 (.inl (g 0, 200, .inl (aI dh22)))) ((eF11.trans (congrArg (fun qq : Nat → Int => va_up (va_up (va_up (va_up (va_up (va_up F 98 (oM ad (va_up (va_up f 16 ((m : Nat) : Int)) 18 ((w ++ [48 + dgv 10 q (m - 1)] ++ dot0 (m - 1) ++ fixB q (m - 1)).length : Int)) v)) 107 (.inl (g 0, 260, .inl (aI tx42)))) 99 (.inl (g 0, 858, .inl (aI bh20)))) 100 (.inl (g 0, 33, .inl (aI bl21)))) 106 (.inl (g 0, 200, .inl (aI dh22)))) 98 (oM ad qq v)) (up_in0))).trans (up_in4 (by decide) (by decide) (by decide) (by decide))) ?_
        refine J_aload_n 2 d_M_sayFloat_67 rfl rfl ?_
        refine J_iload 1 d_M_sayFloat_68 rfl ?_
        refine J_iload_n 5 d_M_sayFloat_70 rfl rfl ?_
        refine J_callVv cw_M_304 nh_M_sayExponent pn_M_sayExponent rfl rfl (by omega) (by rw [va_up_ne _ _ (by decide), va_up_ne _ _ (by decide), va_up_ne _ _ (by decide), va_up_ne _ _ (by decide), va_up_self]) (As := [.int (iI e), .int (iI (lt : Int))]) (rest := []) rfl (Nat.le_of_ble_eq_true rfl) ⟨by decide, by decide⟩ rfl ⟨by decide, by decide⟩ d_M_sayFloat_71 (c_M_sayExponent hfl (f := va_up (va_up f 16 ((m : Nat) : Int)) 18 (((w ++ [48 + dgv 10 q (m - 1)] ++ cutP q (m - 1)).length : Nat) : Int)) (v := v) (tt := tx42) (w := (w ++ [48 + dgv 10 q (m - 1)] ++ cutP q (m - 1))) (e := e) (lt := lt) hN (by rw [va_up_ne _ _ (by decide), va_up_ne _ _ (by decide), va_up_ne _ _ (by decide), va_up_ne _ _ (by decide), va_up_self]) (by rw [va_up_ne _ _ (by decide), va_up_ne _ _ (by decide), va_up_ne _ _ (by decide), va_up_self]) hmt48 (va_up_self ..) (by omega) (by have h9 : (fixB q (m - 1)).length = m - 1 := sgr_1 _; have h8 := (cutP_l q (m - 1)).1; have h7 : (sgr (dgv 10 q) 0 3 0 0 (m - 1)).length = m - 1 := sgr_1 _; simp only [List.length_append, List.length_cons, List.length_nil]; omega)) (fun  F12 hq => ?_)
        obtain ⟨tx49, hmt50, eF12⟩ := hq
        refine J_eqF (F2 := va_up (va_up (va_up (va_up (va_up F 98 (oM ad (va_up (va_up f 16 ((m : Nat) : Int)) 18 ((((w ++ [48 + dgv 10 q (m - 1)] ++ cutP q (m - 1)) ++ expT e lt).length : Nat) : Int)) v)) 107 (.inl (g 0, 260, .inl (aI tx49)))) 99 (.inl (g 0, 858, .inl (aI bh20)))) 100 (.inl (g 0, 33, .inl (aI bl21)))) 106 (.inl (g 0, 200, .inl (aI dh22)))) ((eF12.trans (congrArg (fun qq : Nat → Int => va_up (va_up (va_up (va_up (va_up (va_up (va_up F 98 (oM ad (va_up (va_up f 16 ((m : Nat) : Int)) 18 (((w ++ [48 + dgv 10 q (m - 1)] ++ cutP q (m - 1)).length : Nat) : Int)) v)) 107 (.inl (g 0, 260, .inl (aI tx42)))) 99 (.inl (g 0, 858, .inl (aI bh20)))) 100 (.inl (g 0, 33, .inl (aI bl21)))) 106 (.inl (g 0, 200, .inl (aI dh22)))) 107 (.inl (g 0, 260, .inl (aI tx49)))) 98 (oM ad qq v)) (up_in0))).trans (Eq.trans (congrArg (fun qF : Nat → va_E => va_up qF 98 (oM ad (va_up (va_up f 16 ((m : Nat) : Int)) 18 ((((w ++ [48 + dgv 10 q (m - 1)] ++ cutP q (m - 1)) ++ expT e lt).length : Nat) : Int)) v)) (up_in3 (by decide) (by decide) (by decide))) (up_in4 (by decide) (by decide) (by decide) (by decide)))) ?_
        refine J_eqF (F2 := va_up (va_up (va_up (va_up (va_up F 98 (oM ad (va_up (va_up f 16 ((m : Nat) : Int)) 18 ((((w ++ [48 + dgv 10 q (m - 1)] ++ cutP q (m - 1)) ++ expT e lt).length : Nat) : Int)) v)) 99 (.inl (g 0, 858, .inl (aI bh20)))) 100 (.inl (g 0, 33, .inl (aI bl21)))) 106 (.inl (g 0, 200, .inl (aI dh22)))) 107 (.inl (g 0, 260, .inl (aI tx49)))) (Eq.trans (congrArg (fun qq : Nat → va_E => va_up (va_up qq 100 (.inl (g 0, 33, .inl (aI bl21)))) 106 (.inl (g 0, 200, .inl (aI dh22)))) (up_cm (by decide))) (Eq.trans (congrArg (fun qq : Nat → va_E => va_up qq 106 (.inl (g 0, 200, .inl (aI dh22)))) (up_cm (by decide))) (up_cm (by decide)))) ?_
        have ehmt51 : ((w ++ [48 + dgv 10 q (m - 1)] ++ cutP q (m - 1)) ++ expT e lt) = w ++ floT (flQ u d m) m sh c (flE u d m) lt := by unfold floT; rw [← hq, ← he, if_pos (by omega)]; exact fl_app2
        have hmt51 : mtx tx49 (w ++ floT (flQ u d m) m sh c (flE u d m) lt) := ehmt51 ▸ hmt50
        refine J_eqF (F2 := va_up (va_up (va_up (va_up (va_up F 98 (oM ad (va_up (va_up f 16 ((m : Nat) : Int)) 18 ((w ++ floT (flQ u d m) m sh c (flE u d m) lt).length : Int)) v)) 99 (.inl (g 0, 858, .inl (aI bh20)))) 100 (.inl (g 0, 33, .inl (aI bl21)))) 106 (.inl (g 0, 200, .inl (aI dh22)))) 107 (.inl (g 0, 260, .inl (aI tx49)))) (congrArg (fun qq : Int => va_up (va_up (va_up (va_up (va_up F 98 (oM ad (va_up (va_up f 16 ((m : Nat) : Int)) 18 qq) v)) 99 (.inl (g 0, 858, .inl (aI bh20)))) 100 (.inl (g 0, 33, .inl (aI bl21)))) 106 (.inl (g 0, 200, .inl (aI dh22)))) 107 (.inl (g 0, 260, .inl (aI tx49)))) (show ((((w ++ [48 + dgv 10 q (m - 1)] ++ cutP q (m - 1)) ++ expT e lt).length : Nat) : Int) = ((w ++ floT (flQ u d m) m sh c (flE u d m) lt).length : Int) from by rw [ehmt51])) ?_
        refine J_vret rfl d_M_sayFloat_74 ⟨by decide, by decide⟩ ?_
        refine ⟨rfl, rfl, rfl, bh20, bl21, (va_up (va_up f 16 ((m : Nat) : Int)) 18 ((w ++ floT (flQ u d m) m sh c (flE u d m) lt).length : Int)), dh22, tx49, W23, hR24, ?_, ?_, (va_up_self ..), hmt51, rfl⟩
        · exact (fun k hk => ((show (W23) k = W23 k from by rfl).trans ((hW25 k (by omega)).trans (show (V) k = V k from by rfl))))
        · exact (fun j h1 h2 => (show (va_up (va_up f 16 ((m : Nat) : Int)) 18 ((w ++ floT (flQ u d m) m sh c (flE u d m) lt).length : Int)) j = f j from by rw [va_up_ne _ _ h2, va_up_ne _ _ h1]))
    · refine J_aload_n 2 d_M_sayFloat_40 rfl rfl ?_
      refine J_bipush d_M_sayFloat_41 (i8_ok (by decide)) ?_
      refine J_callVv cw_M_278 nh_M_say pn_M_say rfl rfl (by omega) (by rw [va_up_ne _ _ (by decide), va_up_ne _ _ (by decide), va_up_ne _ _ (by decide), va_up_ne _ _ (by decide), va_up_self]) (As := [.int (iI 46)]) (rest := []) rfl (Nat.le_of_ble_eq_true rfl) ⟨by decide, by decide⟩ rfl ⟨by decide, by decide⟩ d_M_sayFloat_43 (c_M_say hfl (f := va_up (va_up f 16 ((m : Nat) : Int)) 18 (((w ++ [48 + dgv 10 q (m - 1)]).length : Nat) : Int)) (v := v) (tt := tx28) (w := (w ++ [48 + dgv 10 q (m - 1)])) (c := (46 : Nat)) hN (by rw [va_up_ne _ _ (by decide), va_up_ne _ _ (by decide), va_up_ne _ _ (by decide), va_up_ne _ _ (by decide), va_up_self]) (by rw [va_up_self]) hmt29 (va_up_self ..) (by simp only [List.length_append, List.length_cons, List.length_nil]; omega)) (fun  F13 hq => ?_)
      obtain ⟨tx52, hmt53, eF13⟩ := hq
      refine J_eqF (F2 := va_up (va_up (va_up (va_up (va_up F 98 (oM ad (va_up (va_up f 16 ((m : Nat) : Int)) 18 ((((w ++ [48 + dgv 10 q (m - 1)]) ++ [(46 : Nat)]).length : Nat) : Int)) v)) 99 (.inl (g 0, 858, .inl (aI bh20)))) 100 (.inl (g 0, 33, .inl (aI bl21)))) 106 (.inl (g 0, 200, .inl (aI dh22)))) 107 (.inl (g 0, 260, .inl (aI tx52)))) ((eF13.trans (congrArg (fun qq : Nat → Int => va_up (va_up (va_up (va_up (va_up (va_up (va_up F 98 (oM ad (va_up (va_up f 16 ((m : Nat) : Int)) 18 (((w ++ [48 + dgv 10 q (m - 1)]).length : Nat) : Int)) v)) 99 (.inl (g 0, 858, .inl (aI bh20)))) 100 (.inl (g 0, 33, .inl (aI bl21)))) 106 (.inl (g 0, 200, .inl (aI dh22)))) 107 (.inl (g 0, 260, .inl (aI tx28)))) 107 (.inl (g 0, 260, .inl (aI tx52)))) 98 (oM ad qq v)) (up_in0))).trans (Eq.trans (congrArg (fun qF : Nat → va_E => va_up qF 98 (oM ad (va_up (va_up f 16 ((m : Nat) : Int)) 18 ((((w ++ [48 + dgv 10 q (m - 1)]) ++ [(46 : Nat)]).length : Nat) : Int)) v)) (up_in0)) (up_in4 (by decide) (by decide) (by decide) (by decide)))) ?_
      refine J_aload_n 2 d_M_sayFloat_46 rfl rfl ?_
      refine J_iload_n 3 d_M_sayFloat_47 rfl rfl ?_
      refine J_iconst d_M_sayFloat_48 ?_
      refine J_isub d_M_sayFloat_49 ?_
      refine J_iconst d_M_sayFloat_50 ?_
      refine J_iconst d_M_sayFloat_51 ?_
      refine J_iconst d_M_sayFloat_52 ?_
      refine J_iconst d_M_sayFloat_53 ?_
      refine J_callVv cw_M_300 nh_M_sayDigits pn_M_sayDigits rfl rfl (by omega) (by rw [va_up_ne _ _ (by decide), va_up_ne _ _ (by decide), va_up_ne _ _ (by decide), va_up_ne _ _ (by decide), va_up_self]) (As := [.int (iI ((m : Int) - 2)), .int (iI 0), .int (iI 3), .int (iI 0), .int (iI 0)]) (rest := []) rfl (Nat.le_of_ble_eq_true rfl) ⟨by decide, by decide⟩ rfl ⟨by decide, by decide⟩ d_M_sayFloat_54 (c_M_sayDigits hfl (f := va_up (va_up f 16 ((m : Nat) : Int)) 18 ((((w ++ [48 + dgv 10 q (m - 1)]) ++ [(46 : Nat)]).length : Nat) : Int)) (v := v) (tt := tx52) (w := ((w ++ [48 + dgv 10 q (m - 1)]) ++ [(46 : Nat)])) (dh := dh22) (dv := dgv 10 q) (cap := 0) (fro := (m : Int) - 2) (grp := 3) (pt := 0) (to := 0) (n := (m - 1)) hN (by rw [va_up_ne _ _ (by decide), va_up_ne _ _ (by decide), va_up_ne _ _ (by decide), va_up_ne _ _ (by decide), va_up_self]) (by rw [va_up_self]) hmt53 (va_up_self ..) (by rw [va_up_ne _ _ (by decide), va_up_self]) (fun k hk => ⟨hdd26 k (by omega), dgv_16 _ _⟩) (by omega) (by omega) (by omega) (by omega) (Or.inl rfl) (by simp only [List.length_append, List.length_cons, List.length_nil]; omega)) (fun  F14 hq => ?_)
      obtain ⟨tx54, hmt55, eF14⟩ := hq
      refine J_eqF (F2 := va_up (va_up (va_up (va_up (va_up F 98 (oM ad (va_up (va_up f 16 ((m : Nat) : Int)) 18 (((((w ++ [48 + dgv 10 q (m - 1)]) ++ [(46 : Nat)]) ++ sgr (dgv 10 q) 0 3 0 0 (m - 1)).length : Nat) : Int)) v)) 99 (.inl (g 0, 858, .inl (aI bh20)))) 100 (.inl (g 0, 33, .inl (aI bl21)))) 106 (.inl (g 0, 200, .inl (aI dh22)))) 107 (.inl (g 0, 260, .inl (aI tx54)))) ((eF14.trans (congrArg (fun qq : Nat → Int => va_up (va_up (va_up (va_up (va_up (va_up (va_up F 98 (oM ad (va_up (va_up f 16 ((m : Nat) : Int)) 18 ((((w ++ [48 + dgv 10 q (m - 1)]) ++ [(46 : Nat)]).length : Nat) : Int)) v)) 99 (.inl (g 0, 858, .inl (aI bh20)))) 100 (.inl (g 0, 33, .inl (aI bl21)))) 106 (.inl (g 0, 200, .inl (aI dh22)))) 107 (.inl (g 0, 260, .inl (aI tx52)))) 107 (.inl (g 0, 260, .inl (aI tx54)))) 98 (oM ad qq v)) (up_in0))).trans (Eq.trans (congrArg (fun qF : Nat → va_E => va_up qF 98 (oM ad (va_up (va_up f 16 ((m : Nat) : Int)) 18 (((((w ++ [48 + dgv 10 q (m - 1)]) ++ [(46 : Nat)]) ++ sgr (dgv 10 q) 0 3 0 0 (m - 1)).length : Nat) : Int)) v)) (up_in0)) (up_in4 (by decide) (by decide) (by decide) (by decide)))) ?_
      have hl7 : (sgr (dgv 10 q) 0 3 0 0 (m - 1)).length = m - 1 := sgr_1 _
      refine J_iload_n 4 d_M_sayFloat_57 rfl rfl ?_
      refine J_ifeq (tgt := 67) d_M_sayFloat_58 (by decide) ⟨by omega, by omega⟩ (fun c58 => ?_) (fun c58 => ?_)
      · refine J_aload_n 2 d_M_sayFloat_67 rfl rfl ?_
        refine J_iload 1 d_M_sayFloat_68 rfl ?_
        refine J_iload_n 5 d_M_sayFloat_70 rfl rfl ?_
        refine J_callVv cw_M_304 nh_M_sayExponent pn_M_sayExponent rfl rfl (by omega) (by rw [va_up_ne _ _ (by decide), va_up_ne _ _ (by decide), va_up_ne _ _ (by decide), va_up_ne _ _ (by decide), va_up_self]) (As := [.int (iI e), .int (iI (lt : Int))]) (rest := []) rfl (Nat.le_of_ble_eq_true rfl) ⟨by decide, by decide⟩ rfl ⟨by decide, by decide⟩ d_M_sayFloat_71 (c_M_sayExponent hfl (f := va_up (va_up f 16 ((m : Nat) : Int)) 18 (((((w ++ [48 + dgv 10 q (m - 1)]) ++ [(46 : Nat)]) ++ sgr (dgv 10 q) 0 3 0 0 (m - 1)).length : Nat) : Int)) (v := v) (tt := tx54) (w := (((w ++ [48 + dgv 10 q (m - 1)]) ++ [(46 : Nat)]) ++ sgr (dgv 10 q) 0 3 0 0 (m - 1))) (e := e) (lt := lt) hN (by rw [va_up_ne _ _ (by decide), va_up_ne _ _ (by decide), va_up_ne _ _ (by decide), va_up_ne _ _ (by decide), va_up_self]) (by rw [va_up_self]) hmt55 (va_up_self ..) (by omega) (by have h9 : (fixB q (m - 1)).length = m - 1 := sgr_1 _; have h8 := (cutP_l q (m - 1)).1; have h7 : (sgr (dgv 10 q) 0 3 0 0 (m - 1)).length = m - 1 := sgr_1 _; simp only [List.length_append, List.length_cons, List.length_nil]; omega)) (fun  F15 hq => ?_)
        obtain ⟨tx56, hmt57, eF15⟩ := hq
        refine J_eqF (F2 := va_up (va_up (va_up (va_up (va_up F 98 (oM ad (va_up (va_up f 16 ((m : Nat) : Int)) 18 ((((((w ++ [48 + dgv 10 q (m - 1)]) ++ [(46 : Nat)]) ++ sgr (dgv 10 q) 0 3 0 0 (m - 1)) ++ expT e lt).length : Nat) : Int)) v)) 99 (.inl (g 0, 858, .inl (aI bh20)))) 100 (.inl (g 0, 33, .inl (aI bl21)))) 106 (.inl (g 0, 200, .inl (aI dh22)))) 107 (.inl (g 0, 260, .inl (aI tx56)))) ((eF15.trans (congrArg (fun qq : Nat → Int => va_up (va_up (va_up (va_up (va_up (va_up (va_up F 98 (oM ad (va_up (va_up f 16 ((m : Nat) : Int)) 18 (((((w ++ [48 + dgv 10 q (m - 1)]) ++ [(46 : Nat)]) ++ sgr (dgv 10 q) 0 3 0 0 (m - 1)).length : Nat) : Int)) v)) 99 (.inl (g 0, 858, .inl (aI bh20)))) 100 (.inl (g 0, 33, .inl (aI bl21)))) 106 (.inl (g 0, 200, .inl (aI dh22)))) 107 (.inl (g 0, 260, .inl (aI tx54)))) 107 (.inl (g 0, 260, .inl (aI tx56)))) 98 (oM ad qq v)) (up_in0))).trans (Eq.trans (congrArg (fun qF : Nat → va_E => va_up qF 98 (oM ad (va_up (va_up f 16 ((m : Nat) : Int)) 18 ((((((w ++ [48 + dgv 10 q (m - 1)]) ++ [(46 : Nat)]) ++ sgr (dgv 10 q) 0 3 0 0 (m - 1)) ++ expT e lt).length : Nat) : Int)) v)) (up_in0)) (up_in4 (by decide) (by decide) (by decide) (by decide)))) ?_
        have ehmt58 : ((((w ++ [48 + dgv 10 q (m - 1)]) ++ [(46 : Nat)]) ++ sgr (dgv 10 q) 0 3 0 0 (m - 1)) ++ expT e lt) = w ++ floT (flQ u d m) m sh c (flE u d m) lt := by unfold floT; rw [← hq, ← he, if_neg (by omega), dotT_y (show 0 < m - 1 ∨ sh ≠ 0 by omega)]; exact fl_app
        have hmt58 : mtx tx56 (w ++ floT (flQ u d m) m sh c (flE u d m) lt) := ehmt58 ▸ hmt57
        refine J_eqF (F2 := va_up (va_up (va_up (va_up (va_up F 98 (oM ad (va_up (va_up f 16 ((m : Nat) : Int)) 18 ((w ++ floT (flQ u d m) m sh c (flE u d m) lt).length : Int)) v)) 99 (.inl (g 0, 858, .inl (aI bh20)))) 100 (.inl (g 0, 33, .inl (aI bl21)))) 106 (.inl (g 0, 200, .inl (aI dh22)))) 107 (.inl (g 0, 260, .inl (aI tx56)))) (congrArg (fun qq : Int => va_up (va_up (va_up (va_up (va_up F 98 (oM ad (va_up (va_up f 16 ((m : Nat) : Int)) 18 qq) v)) 99 (.inl (g 0, 858, .inl (aI bh20)))) 100 (.inl (g 0, 33, .inl (aI bl21)))) 106 (.inl (g 0, 200, .inl (aI dh22)))) 107 (.inl (g 0, 260, .inl (aI tx56)))) (show ((((((w ++ [48 + dgv 10 q (m - 1)]) ++ [(46 : Nat)]) ++ sgr (dgv 10 q) 0 3 0 0 (m - 1)) ++ expT e lt).length : Nat) : Int) = ((w ++ floT (flQ u d m) m sh c (flE u d m) lt).length : Int) from by rw [ehmt58])) ?_
        refine J_vret rfl d_M_sayFloat_74 ⟨by decide, by decide⟩ ?_
        refine ⟨rfl, rfl, rfl, bh20, bl21, (va_up (va_up f 16 ((m : Nat) : Int)) 18 ((w ++ floT (flQ u d m) m sh c (flE u d m) lt).length : Int)), dh22, tx56, W23, hR24, ?_, ?_, (va_up_self ..), hmt58, rfl⟩
        · exact (fun k hk => ((show (W23) k = W23 k from by rfl).trans ((hW25 k (by omega)).trans (show (V) k = V k from by rfl))))
        · exact (fun j h1 h2 => (show (va_up (va_up f 16 ((m : Nat) : Int)) 18 ((w ++ floT (flQ u d m) m sh c (flE u d m) lt).length : Int)) j = f j from by rw [va_up_ne _ _ h2, va_up_ne _ _ h1]))
      · refine J_eqF (F2 := va_up (va_up (va_up (va_up (va_up F 98 (oM ad (va_up (va_up f 16 ((m : Nat) : Int)) 18 (((((w ++ [48 + dgv 10 q (m - 1)]) ++ [(46 : Nat)]) ++ sgr (dgv 10 q) 0 3 0 0 (m - 1)).length : Nat) : Int)) v)) 107 (.inl (g 0, 260, .inl (aI tx54)))) 99 (.inl (g 0, 858, .inl (aI bh20)))) 100 (.inl (g 0, 33, .inl (aI bl21)))) 106 (.inl (g 0, 200, .inl (aI dh22)))) (Eq.trans (up_cm (by decide)) (Eq.trans (congrArg (fun qq : Nat → va_E => va_up qq 106 (.inl (g 0, 200, .inl (aI dh22)))) (up_cm (by decide))) (congrArg (fun qq : Nat → va_E => va_up (va_up qq 100 (.inl (g 0, 33, .inl (aI bl21)))) 106 (.inl (g 0, 200, .inl (aI dh22)))) (up_cm (by decide))))) ?_
        have hsh0 : sh = 0 := hcs (by omega)
        have ehmt59 : (((w ++ [48 + dgv 10 q (m - 1)]) ++ [(46 : Nat)]) ++ sgr (dgv 10 q) 0 3 0 0 (m - 1)) = w ++ [48 + dgv 10 q (m - 1)] ++ dot0 (m - 1) ++ fixB q (m - 1) := (by rw [dot0_p (show 0 < m - 1 by omega)]; rfl)
        have hmt59 : mtx tx54 (w ++ [48 + dgv 10 q (m - 1)] ++ dot0 (m - 1) ++ fixB q (m - 1)) := ehmt59 ▸ hmt55
        refine J_eqF (F2 := va_up (va_up (va_up (va_up (va_up F 98 (oM ad (va_up (va_up f 16 ((m : Nat) : Int)) 18 ((w ++ [48 + dgv 10 q (m - 1)] ++ dot0 (m - 1) ++ fixB q (m - 1)).length : Int)) v)) 107 (.inl (g 0, 260, .inl (aI tx54)))) 99 (.inl (g 0, 858, .inl (aI bh20)))) 100 (.inl (g 0, 33, .inl (aI bl21)))) 106 (.inl (g 0, 200, .inl (aI dh22)))) (congrArg (fun qq : Int => va_up (va_up (va_up (va_up (va_up F 98 (oM ad (va_up (va_up f 16 ((m : Nat) : Int)) 18 qq) v)) 107 (.inl (g 0, 260, .inl (aI tx54)))) 99 (.inl (g 0, 858, .inl (aI bh20)))) 100 (.inl (g 0, 33, .inl (aI bl21)))) 106 (.inl (g 0, 200, .inl (aI dh22)))) (show (((((w ++ [48 + dgv 10 q (m - 1)]) ++ [(46 : Nat)]) ++ sgr (dgv 10 q) 0 3 0 0 (m - 1)).length : Nat) : Int) = ((w ++ [48 + dgv 10 q (m - 1)] ++ dot0 (m - 1) ++ fixB q (m - 1)).length : Int) from by rw [ehmt59])) ?_
        refine J_aload_n 2 d_M_sayFloat_61 rfl rfl ?_
        refine J_iload 0 d_M_sayFloat_62 rfl ?_
        refine J_callVv cw_M_354 nh_M_cut pn_M_cut rfl rfl (by omega) (by rw [va_up_ne _ _ (by decide), va_up_ne _ _ (by decide), va_up_ne _ _ (by decide), va_up_ne _ _ (by decide), va_up_self]) (As := [.int (iI (w.length : Int))]) (rest := []) rfl (Nat.le_of_ble_eq_true rfl) ⟨by decide, by decide⟩ rfl ⟨by decide, by decide⟩ d_M_sayFloat_64 (c_M_cut hfl (f := va_up (va_up f 16 ((m : Nat) : Int)) 18 ((w ++ [48 + dgv 10 q (m - 1)] ++ dot0 (m - 1) ++ fixB q (m - 1)).length : Int)) (v := v) (tt := tx54) (a0 := w) (aa := [48 + dgv 10 q (m - 1)]) (q := q) (p := (m - 1)) hN (by rw [va_up_ne _ _ (by decide), va_up_ne _ _ (by decide), va_up_ne _ _ (by decide), va_up_ne _ _ (by decide), va_up_self]) (by rw [va_up_ne _ _ (by decide), va_up_ne _ _ (by decide), va_up_ne _ _ (by decide), va_up_self]) hmt59 (va_up_self ..) (by rw [len4]; have h9 : (fixB q (m - 1)).length = m - 1 := sgr_1 _; have h8 := dot0_l (m - 1); rw [h9, List.length_singleton]; omega) (fun c hc => by rw [List.mem_singleton.mp hc]; omega)) (fun  F16 hq => ?_)
        obtain ⟨hmt60, eF16⟩ := hq
        refine J_eqF (F2 := va_up (va_up (va_up (va_up (va_up F 98 (oM ad (va_up (va_up f 16 ((m : Nat) : Int)) 18 (((w ++ [48 + dgv 10 q (m - 1)] ++ cutP q (m - 1)).length : Nat) : Int)) v)) 107 (.inl (g 0, 260, .inl (aI tx54)))) 99 (.inl (g 0, 858, .inl (aI bh20)))) 100 (.inl (g 0, 33, .inl (aI bl21)))) 106 (.inl (g 0, 200, .inl (aI dh22)))) ((eF16.trans (congrArg (fun qq : Nat → Int => va_up (va_up (va_up (va_up (va_up (va_up F 98 (oM ad (va_up (va_up f 16 ((m : Nat) : Int)) 18 ((w ++ [48 + dgv 10 q (m - 1)] ++ dot0 (m - 1) ++ fixB q (m - 1)).length : Int)) v)) 107 (.inl (g 0, 260, .inl (aI tx54)))) 99 (.inl (g 0, 858, .inl (aI bh20)))) 100 (.inl (g 0, 33, .inl (aI bl21)))) 106 (.inl (g 0, 200, .inl (aI dh22)))) 98 (oM ad qq v)) (up_in0))).trans (up_in4 (by decide) (by decide) (by decide) (by decide))) ?_
        refine J_aload_n 2 d_M_sayFloat_67 rfl rfl ?_
        refine J_iload 1 d_M_sayFloat_68 rfl ?_
        refine J_iload_n 5 d_M_sayFloat_70 rfl rfl ?_
        refine J_callVv cw_M_304 nh_M_sayExponent pn_M_sayExponent rfl rfl (by omega) (by rw [va_up_ne _ _ (by decide), va_up_ne _ _ (by decide), va_up_ne _ _ (by decide), va_up_ne _ _ (by decide), va_up_self]) (As := [.int (iI e), .int (iI (lt : Int))]) (rest := []) rfl (Nat.le_of_ble_eq_true rfl) ⟨by decide, by decide⟩ rfl ⟨by decide, by decide⟩ d_M_sayFloat_71 (c_M_sayExponent hfl (f := va_up (va_up f 16 ((m : Nat) : Int)) 18 (((w ++ [48 + dgv 10 q (m - 1)] ++ cutP q (m - 1)).length : Nat) : Int)) (v := v) (tt := tx54) (w := (w ++ [48 + dgv 10 q (m - 1)] ++ cutP q (m - 1))) (e := e) (lt := lt) hN (by rw [va_up_ne _ _ (by decide), va_up_ne _ _ (by decide), va_up_ne _ _ (by decide), va_up_ne _ _ (by decide), va_up_self]) (by rw [va_up_ne _ _ (by decide), va_up_ne _ _ (by decide), va_up_ne _ _ (by decide), va_up_self]) hmt60 (va_up_self ..) (by omega) (by have h9 : (fixB q (m - 1)).length = m - 1 := sgr_1 _; have h8 := (cutP_l q (m - 1)).1; have h7 : (sgr (dgv 10 q) 0 3 0 0 (m - 1)).length = m - 1 := sgr_1 _; simp only [List.length_append, List.length_cons, List.length_nil]; omega)) (fun  F17 hq => ?_)
        obtain ⟨tx61, hmt62, eF17⟩ := hq
        refine J_eqF (F2 := va_up (va_up (va_up (va_up (va_up F 98 (oM ad (va_up (va_up f 16 ((m : Nat) : Int)) 18 ((((w ++ [48 + dgv 10 q (m - 1)] ++ cutP q (m - 1)) ++ expT e lt).length : Nat) : Int)) v)) 107 (.inl (g 0, 260, .inl (aI tx61)))) 99 (.inl (g 0, 858, .inl (aI bh20)))) 100 (.inl (g 0, 33, .inl (aI bl21)))) 106 (.inl (g 0, 200, .inl (aI dh22)))) ((eF17.trans (congrArg (fun qq : Nat → Int => va_up (va_up (va_up (va_up (va_up (va_up (va_up F 98 (oM ad (va_up (va_up f 16 ((m : Nat) : Int)) 18 (((w ++ [48 + dgv 10 q (m - 1)] ++ cutP q (m - 1)).length : Nat) : Int)) v)) 107 (.inl (g 0, 260, .inl (aI tx54)))) 99 (.inl (g 0, 858, .inl (aI bh20)))) 100 (.inl (g 0, 33, .inl (aI bl21)))) 106 (.inl (g 0, 200, .inl (aI dh22)))) 107 (.inl (g 0, 260, .inl (aI tx61)))) 98 (oM ad qq v)) (up_in0))).trans (Eq.trans (congrArg (fun qF : Nat → va_E => va_up qF 98 (oM ad (va_up (va_up f 16 ((m : Nat) : Int)) 18 ((((w ++ [48 + dgv 10 q (m - 1)] ++ cutP q (m - 1)) ++ expT e lt).length : Nat) : Int)) v)) (up_in3 (by decide) (by decide) (by decide))) (up_in4 (by decide) (by decide) (by decide) (by decide)))) ?_
        refine J_eqF (F2 := va_up (va_up (va_up (va_up (va_up F 98 (oM ad (va_up (va_up f 16 ((m : Nat) : Int)) 18 ((((w ++ [48 + dgv 10 q (m - 1)] ++ cutP q (m - 1)) ++ expT e lt).length : Nat) : Int)) v)) 99 (.inl (g 0, 858, .inl (aI bh20)))) 100 (.inl (g 0, 33, .inl (aI bl21)))) 106 (.inl (g 0, 200, .inl (aI dh22)))) 107 (.inl (g 0, 260, .inl (aI tx61)))) (Eq.trans (congrArg (fun qq : Nat → va_E => va_up (va_up qq 100 (.inl (g 0, 33, .inl (aI bl21)))) 106 (.inl (g 0, 200, .inl (aI dh22)))) (up_cm (by decide))) (Eq.trans (congrArg (fun qq : Nat → va_E => va_up qq 106 (.inl (g 0, 200, .inl (aI dh22)))) (up_cm (by decide))) (up_cm (by decide)))) ?_
        have ehmt63 : ((w ++ [48 + dgv 10 q (m - 1)] ++ cutP q (m - 1)) ++ expT e lt) = w ++ floT (flQ u d m) m sh c (flE u d m) lt := by unfold floT; rw [← hq, ← he, if_pos (by omega)]; exact fl_app2
        have hmt63 : mtx tx61 (w ++ floT (flQ u d m) m sh c (flE u d m) lt) := ehmt63 ▸ hmt62
        refine J_eqF (F2 := va_up (va_up (va_up (va_up (va_up F 98 (oM ad (va_up (va_up f 16 ((m : Nat) : Int)) 18 ((w ++ floT (flQ u d m) m sh c (flE u d m) lt).length : Int)) v)) 99 (.inl (g 0, 858, .inl (aI bh20)))) 100 (.inl (g 0, 33, .inl (aI bl21)))) 106 (.inl (g 0, 200, .inl (aI dh22)))) 107 (.inl (g 0, 260, .inl (aI tx61)))) (congrArg (fun qq : Int => va_up (va_up (va_up (va_up (va_up F 98 (oM ad (va_up (va_up f 16 ((m : Nat) : Int)) 18 qq) v)) 99 (.inl (g 0, 858, .inl (aI bh20)))) 100 (.inl (g 0, 33, .inl (aI bl21)))) 106 (.inl (g 0, 200, .inl (aI dh22)))) 107 (.inl (g 0, 260, .inl (aI tx61)))) (show ((((w ++ [48 + dgv 10 q (m - 1)] ++ cutP q (m - 1)) ++ expT e lt).length : Nat) : Int) = ((w ++ floT (flQ u d m) m sh c (flE u d m) lt).length : Int) from by rw [ehmt63])) ?_
        refine J_vret rfl d_M_sayFloat_74 ⟨by decide, by decide⟩ ?_
        refine ⟨rfl, rfl, rfl, bh20, bl21, (va_up (va_up f 16 ((m : Nat) : Int)) 18 ((w ++ floT (flQ u d m) m sh c (flE u d m) lt).length : Int)), dh22, tx61, W23, hR24, ?_, ?_, (va_up_self ..), hmt63, rfl⟩
        · exact (fun k hk => ((show (W23) k = W23 k from by rfl).trans ((hW25 k (by omega)).trans (show (V) k = V k from by rfl))))
        · exact (fun j h1 h2 => (show (va_up (va_up f 16 ((m : Nat) : Int)) 18 ((w ++ floT (flQ u d m) m sh c (flE u d m) lt).length : Int)) j = f j from by rw [va_up_ne _ _ h2, va_up_ne _ _ h1]))
set_option maxRecDepth 100000 in
set_option maxHeartbeats 4000000 in
theorem c_M_sayGeneral {l : Launch} (hfl : l.flags = flags0) {D : va_G} {g : Nat → ClassId} {ad : Nat → Nat} {N : Nat} {F : Nat → va_E} {hh ll f : Nat → Int} {v : UInt64} {V : Nat → Nat} {br : Nat → Nat} {dh tt : Nat → Int} {w : List Nat} {x y u d p pa lt : Nat} {sh pr : Int}
    (hN : 109 ≤ N) (hO : F 98 = oM ad f v) (hB : F 99 = aB g hh) (hL : F 100 = aL g ll) (hR : reg br hh ll V) (hzz : okB br) (h106 : F 106 = .inl (g 0, 200, .inl (aI dh))) (h107 : F 107 = .inl (g 0, 260, .inl (aI tt))) (hmt : mtx tt w) (hf18 : f 18 = (w.length : Int)) (hx : V 31 = x) (hy : V 28 = y) (hxb : x < 2 ^ 168) (hyb : y < 2 ^ 168) (hy0 : 0 < y) (hd0 : 0 < d) (hxd : x * d = u * y) (hxy : x < 2 ^ 130 * y) (hpr : f 28 = pr) (hprb : -1 ≤ pr ∧ pr ≤ 20) (hp : p = (if pr < 0 then 6 else if pr = 0 then 1 else pr.toNat)) (hpa : f 27 = (pa : Int)) (hpab : pa < 128) (hpa46 : pa ≠ 46) (hsh : f 24 = sh) (hshb : sh = 0 ∨ sh = 1) (hlt : lt < 128) (hwl : w.length ≤ 10) :
    JC l y_M_sayGeneral b_M_sayGeneral 5 (Option.none : Option Jvm.ClassFile.FieldType) rm_M_sayGeneral (0, 0) D jCl (jTys g) ad N F [.ref (ad 98), .int (iI (lt : Int))] (jv ad N (fun F' => ∃ (hh' ll' f' dh' tt' : Nat → Int) (W : Nat → Nat), reg br hh' ll' W ∧ (∀ k, k < 16 ∨ (27 ≤ k ∧ k ≠ 29 ∧ k ≠ 32) → W k = V k) ∧ (∀ j, j ≠ 16 → j ≠ 18 → f' j = f j) ∧ f' 18 = ((w ++ genT u d p pa sh lt).length : Int) ∧ mtx tt' (w ++ genT u d p pa sh lt) ∧ F' = va_up (va_up (va_up (va_up (va_up F 98 (oM ad f' v)) 99 (aB g hh')) 100 (aL g ll')) 106 (.inl (g 0, 200, .inl (aI dh')))) 107 (.inl (g 0, 260, .inl (aI tt'))))) := by
  refine JC.go hfl (own := "NumberTowerModel") (lv := [(0, .ref (ad 98)), (1, .int (iI (lt : Int)))]) rfl (by decide +kernel) (Nat.le_of_ble_eq_true rfl) rfl (fun A => ?_)
  have lab27 : J l rm_M_sayGeneral (0, 0) "NumberTowerModel" b_M_sayGeneral 5 (Option.none : Option Jvm.ClassFile.FieldType) D jCl (jTys g) A (fun _ me => me.name = y_M_sayGeneral.name) (jv ad N (fun F' => ∃ (hh' ll' f' dh' tt' : Nat → Int) (W : Nat → Nat), reg br hh' ll' W ∧ (∀ k, k < 16 ∨ (27 ≤ k ∧ k ≠ 29 ∧ k ≠ 32) → W k = V k) ∧ (∀ j, j ≠ 16 → j ≠ 18 → f' j = f j) ∧ f' 18 = ((w ++ genT u d p pa sh lt).length : Int) ∧ mtx tt' (w ++ genT u d p pa sh lt) ∧ F' = va_up (va_up (va_up (va_up (va_up F 98 (oM ad f' v)) 99 (aB g hh')) 100 (aL g ll')) 106 (.inl (g 0, 200, .inl (aI dh')))) 107 (.inl (g 0, 260, .inl (aI tt'))))) ad N 0 0 27 [(0, .ref (ad 98)), (1, .int (iI (lt : Int)))] [.int (iI (p : Int))] F := by
    have hp1 : 1 ≤ p ∧ p ≤ 20 := by rw [hp]; split; decide; (split; decide; omega)
    refine J_istore_n (lv' := [(2, .int (iI (p : Int))), (0, .ref (ad 98)), (1, .int (iI (lt : Int)))]) d_M_sayGeneral_27 rfl (by decide) rfl ?_
    refine J_aload_n 1 d_M_sayGeneral_28 rfl rfl ?_
    refine J_iload_n 0 d_M_sayGeneral_29 rfl rfl ?_
    refine J_callVi cw_M_351 nh_M_floating pn_M_floating rfl rfl (by omega) hO (As := [.int (iI (p : Int))]) (rest := []) rfl (Nat.le_of_ble_eq_true rfl) ⟨by decide, by decide⟩ rfl ⟨by decide, by decide⟩ d_M_sayGeneral_30 (c_M_floating hfl (x := x) (y := y) (u := u) (d := d) (m := p) (dh := dh) (hh := hh) (ll := ll) (f := f) (v := v) (V := V) (br := br) hN hO hB hL hR hzz h106 (hx) (hy) hxb hyb hy0 hd0 hxd ⟨by omega, by omega⟩) (fun z71 F1 hq => ?_)
    obtain ⟨hz71, hbz71, bh64, bl65, dh66, W67, hR68, hW69, hdd70, eF1⟩ := hq
    refine J_eqF (F2 := va_up (va_up (va_up (va_up F 98 (oM ad (va_up f 16 ((p : Nat) : Int)) v)) 99 (.inl (g 0, 858, .inl (aI bh64)))) 100 (.inl (g 0, 33, .inl (aI bl65)))) 106 (.inl (g 0, 200, .inl (aI dh66)))) eF1 ?_
    refine J_topi (r := (flE u d p)) (congrArg iI hz71) ?_
    rw [hz71] at hbz71
    obtain ⟨e, he⟩ : ∃ e, e = flE u d p := ⟨_, rfl⟩
    rw [← he] at hbz71
    refine J_topi (r := e) (congrArg iI (by rw [he])) ?_
    refine J_istore_n (lv' := [(3, .int (iI e)), (2, .int (iI (p : Int))), (0, .ref (ad 98)), (1, .int (iI (lt : Int)))]) d_M_sayGeneral_33 rfl (by decide) rfl ?_
    refine J_aload_n 2 d_M_sayGeneral_34 rfl rfl ?_
    refine gf_M_265 (by omega) (by rw [va_up_ne _ _ (by decide), va_up_ne _ _ (by decide), va_up_ne _ _ (by decide), va_up_self]) rfl d_M_sayGeneral_35 ?_
    refine J_topi (r := (w.length : Int)) (congrArg iI ((va_up_ne _ _ (by decide)).trans hf18)) ?_
    refine J_istore (lv' := [(4, .int (iI (w.length : Int))), (3, .int (iI e)), (2, .int (iI (p : Int))), (0, .ref (ad 98)), (1, .int (iI (lt : Int)))]) d_M_sayGeneral_38 (by decide) rfl ?_
    refine J_iload_n 1 d_M_sayGeneral_40 rfl rfl ?_
    refine J_bipush d_M_sayGeneral_41 (i8_ok (by decide)) ?_
    refine J_iload_n 2 d_M_sayGeneral_43 rfl rfl ?_
    refine J_iconst d_M_sayGeneral_44 ?_
    refine J_isub d_M_sayGeneral_45 ?_
    refine J_callSi cw_M_138 nh_M_in pn_M_in rfl (As := [.int (iI e), .int (iI (-4)), .int (iI ((p : Int) - 1))]) (rest := []) rfl (Nat.le_of_ble_eq_true rfl) ⟨by decide, by decide⟩ rfl ⟨by decide, by decide⟩ d_M_sayGeneral_46 (c_M_in hfl (a := e) (b := -4) (c := (p : Int) - 1) ⟨by omega, by omega⟩ (by decide) ⟨by omega, by omega⟩) (fun zi F2 hq => ?_)
    obtain ⟨hzi, eF2⟩ := hq
    refine J_eqF eF2 ?_
    refine J_ifne (tgt := 71) d_M_sayGeneral_49 (by decide) ⟨by omega, by omega⟩ (fun c49 => ?_) (fun c49 => ?_)
    · refine J_aload_n 3 d_M_sayGeneral_71 rfl rfl ?_
      refine J_iload_n 2 d_M_sayGeneral_72 rfl rfl ?_
      refine J_iconst d_M_sayGeneral_73 ?_
      refine J_isub d_M_sayGeneral_74 ?_
      refine J_iload_n 1 d_M_sayGeneral_75 rfl rfl ?_
      refine J_isub d_M_sayGeneral_76 ?_
      obtain ⟨n, hn⟩ : ∃ n, n = ((p : Int) - 1 - e).toNat := ⟨_, rfl⟩
      have hxc : x < 2 ^ 176 := Nat.lt_trans hxb (by decide)
      refine J_topi (r := (n : Int)) (congrArg iI (by omega)) ?_
      refine J_callVv cw_M_360 nh_M_sayFixed pn_M_sayFixed rfl rfl (by omega) (by rw [va_up_ne _ _ (by decide), va_up_ne _ _ (by decide), va_up_ne _ _ (by decide), va_up_self]) (As := [.int (iI (n : Int))]) (rest := []) rfl (Nat.le_of_ble_eq_true rfl) ⟨by decide, by decide⟩ rfl ⟨by decide, by decide⟩ d_M_sayGeneral_77 (c_M_sayFixed hfl (dh := dh66) (tt := tt) (w := w) (hh := bh64) (ll := bl65) (f := va_up f 16 ((p : Nat) : Int)) (v := v) (V := W67) (br := br) (x := x) (y := y) (p := n) (pa := pa) (sh := sh) hN (by rw [va_up_ne _ _ (by decide), va_up_ne _ _ (by decide), va_up_ne _ _ (by decide), va_up_self]) (by rw [va_up_ne _ _ (by decide), va_up_ne _ _ (by decide), va_up_self]) (by rw [va_up_ne _ _ (by decide), va_up_self]) hR68 hzz (by rw [va_up_self]) (by rw [va_up_ne _ _ (by decide), va_up_ne _ _ (by decide), va_up_ne _ _ (by decide), va_up_ne _ _ (by decide)]; exact h107) hmt ((va_up_ne _ _ (by decide)).trans hf18) (((hW69 _ (by omega))).trans hx) (((hW69 _ (by omega))).trans hy) hxc hyb hy0 hxy (by omega) ((va_up_ne _ _ (by decide)).trans hpa) hpab ((va_up_ne _ _ (by decide)).trans hsh) hshb hwl) (fun  F3 hq => ?_)
      obtain ⟨bh72, bl73, f77, dh74, tt76, W75, hR78, hW79, hf80, hf1881, hmt82, eF3⟩ := hq
      refine J_eqF (F2 := va_up (va_up (va_up (va_up (va_up F 98 (oM ad f77 v)) 99 (.inl (g 0, 858, .inl (aI bh72)))) 100 (.inl (g 0, 33, .inl (aI bl73)))) 106 (.inl (g 0, 200, .inl (aI dh74)))) 107 (.inl (g 0, 260, .inl (aI tt76)))) (eF3.trans (Eq.trans (Eq.trans (Eq.trans (congrArg (fun qF : Nat → va_E => va_up qF 107 (.inl (g 0, 260, .inl (aI tt76)))) (congrArg (fun qF : Nat → va_E => va_up qF 106 (.inl (g 0, 200, .inl (aI dh74)))) (congrArg (fun qF : Nat → va_E => va_up qF 100 (.inl (g 0, 33, .inl (aI bl73)))) (congrArg (fun qF : Nat → va_E => va_up qF 99 (.inl (g 0, 858, .inl (aI bh72)))) (up_in3 (by decide) (by decide) (by decide)))))) (congrArg (fun qF : Nat → va_E => va_up qF 107 (.inl (g 0, 260, .inl (aI tt76)))) (congrArg (fun qF : Nat → va_E => va_up qF 106 (.inl (g 0, 200, .inl (aI dh74)))) (congrArg (fun qF : Nat → va_E => va_up qF 100 (.inl (g 0, 33, .inl (aI bl73)))) (up_in2 (by decide) (by decide)))))) (congrArg (fun qF : Nat → va_E => va_up qF 107 (.inl (g 0, 260, .inl (aI tt76)))) (congrArg (fun qF : Nat → va_E => va_up qF 106 (.inl (g 0, 200, .inl (aI dh74)))) (up_in1 (by decide))))) (congrArg (fun qF : Nat → va_E => va_up qF 107 (.inl (g 0, 260, .inl (aI tt76)))) (up_in0)))) ?_
      have hrq : rdq x y (n : Int) = rdq u d ((p : Int) - 1 - e) := by rw [rdq_ratio hy0 hd0 hxd, hn, Int.toNat_of_nonneg (by omega)]
      obtain ⟨q, hq⟩ : ∃ q, q = rdq u d ((p : Int) - 1 - e) := ⟨_, rfl⟩
      have hgen : genT u d p pa sh lt = fixA q n pa ++ (if sh ≠ 0 then dotT n sh ++ fixB q n else cutP q n) := by unfold genT; rw [← he, if_pos (by omega), ← hq, ← hn]
      have hA40 : (fixA q n pa).length ≤ 80 := by
        have h9 := rdq_40 (p := n) hy0 hxy
        rw [hrq, ← hq] at h9
        have h8 := (okT_sgr (cap := 0) (grp := 3) (to := n) (dgv_16 q) hpab (ndm 10 (n + 1) q - n)).1
        unfold fixA
        omega
      refine J_eqF (F2 := va_up (va_up (va_up (va_up (va_up F 98 (oM ad (va_up f77 18 (((w ++ fixT (rdq x y (n : Int)) n pa sh).length : Nat) : Int)) v)) 99 (.inl (g 0, 858, .inl (aI bh72)))) 100 (.inl (g 0, 33, .inl (aI bl73)))) 106 (.inl (g 0, 200, .inl (aI dh74)))) 107 (.inl (g 0, 260, .inl (aI tt76)))) (congrArg (fun qq : Nat → Int => va_up (va_up (va_up (va_up (va_up F 98 (oM ad qq v)) 99 (.inl (g 0, 858, .inl (aI bh72)))) 100 (.inl (g 0, 33, .inl (aI bl73)))) 106 (.inl (g 0, 200, .inl (aI dh74)))) 107 (.inl (g 0, 260, .inl (aI tt76)))) (up_same1 (i := 18) (a := (((w ++ fixT (rdq x y (n : Int)) n pa sh).length : Nat) : Int)) (hf1881))) ?_
      have ehmt83 : (w ++ fixT (rdq x y (n : Int)) n pa sh) = w ++ fixT q n pa sh := (by rw [hrq, ← hq])
      have hmt83 : mtx tt76 (w ++ fixT q n pa sh) := ehmt83 ▸ hmt82
      refine J_eqF (F2 := va_up (va_up (va_up (va_up (va_up F 98 (oM ad (va_up f77 18 ((w ++ fixT q n pa sh).length : Int)) v)) 99 (.inl (g 0, 858, .inl (aI bh72)))) 100 (.inl (g 0, 33, .inl (aI bl73)))) 106 (.inl (g 0, 200, .inl (aI dh74)))) 107 (.inl (g 0, 260, .inl (aI tt76)))) (congrArg (fun qq : Int => va_up (va_up (va_up (va_up (va_up F 98 (oM ad (va_up f77 18 qq) v)) 99 (.inl (g 0, 858, .inl (aI bh72)))) 100 (.inl (g 0, 33, .inl (aI bl73)))) 106 (.inl (g 0, 200, .inl (aI dh74)))) 107 (.inl (g 0, 260, .inl (aI tt76)))) (show (((w ++ fixT (rdq x y (n : Int)) n pa sh).length : Nat) : Int) = ((w ++ fixT q n pa sh).length : Int) from by rw [ehmt83])) ?_
      refine J_aload_n 3 d_M_sayGeneral_80 rfl rfl ?_
      refine gf_M_327 (by omega) (by rw [va_up_ne _ _ (by decide), va_up_ne _ _ (by decide), va_up_ne _ _ (by decide), va_up_ne _ _ (by decide), va_up_self]) rfl d_M_sayGeneral_81 ?_
      refine J_topi (r := sh) (congrArg iI ((va_up_ne _ _ (by decide)).trans (((hf80 24 (by decide) (by decide))).trans ((va_up_ne _ _ (by decide)).trans hsh)))) ?_
      refine J_ifne (tgt := 93) d_M_sayGeneral_84 (by decide) ⟨by omega, by omega⟩ (fun c84 => ?_) (fun c84 => ?_)
      · have ehmt84 : (w ++ fixT q n pa sh) = w ++ genT u d p pa sh lt := by rw [hgen, if_pos (by omega)]; unfold fixT; rw [List.append_assoc (fixA q n pa)]
        have hmt84 : mtx tt76 (w ++ genT u d p pa sh lt) := ehmt84 ▸ hmt83
        refine J_eqF (F2 := va_up (va_up (va_up (va_up (va_up F 98 (oM ad (va_up f77 18 ((w ++ genT u d p pa sh lt).length : Int)) v)) 99 (.inl (g 0, 858, .inl (aI bh72)))) 100 (.inl (g 0, 33, .inl (aI bl73)))) 106 (.inl (g 0, 200, .inl (aI dh74)))) 107 (.inl (g 0, 260, .inl (aI tt76)))) (congrArg (fun qq : Int => va_up (va_up (va_up (va_up (va_up F 98 (oM ad (va_up f77 18 qq) v)) 99 (.inl (g 0, 858, .inl (aI bh72)))) 100 (.inl (g 0, 33, .inl (aI bl73)))) 106 (.inl (g 0, 200, .inl (aI dh74)))) 107 (.inl (g 0, 260, .inl (aI tt76)))) (show ((w ++ fixT q n pa sh).length : Int) = ((w ++ genT u d p pa sh lt).length : Int) from by rw [ehmt84])) ?_
        refine J_vret rfl d_M_sayGeneral_93 ⟨by decide, by decide⟩ ?_
        refine ⟨rfl, rfl, rfl, bh72, bl73, (va_up f77 18 ((w ++ genT u d p pa sh lt).length : Int)), dh74, tt76, W75, hR78, ?_, ?_, (va_up_self ..), hmt84, rfl⟩
        · exact (fun k hk => ((show (W75) k = W75 k from by rfl).trans ((hW79 k (by omega)).trans ((show (W67) k = W67 k from by rfl).trans ((hW69 k (by omega)).trans (show (V) k = V k from by rfl))))))
        · exact (fun j h1 h2 => ((show (va_up f77 18 ((w ++ genT u d p pa sh lt).length : Int)) j = f77 j from by rw [va_up_ne _ _ h2]).trans ((hf80 j h1 h2).trans (show (va_up f 16 ((p : Nat) : Int)) j = f j from by rw [va_up_ne _ _ h1]))))
      · refine J_eqF (F2 := va_up (va_up (va_up (va_up (va_up F 98 (oM ad (va_up f77 18 ((w ++ fixT q n pa sh).length : Int)) v)) 107 (.inl (g 0, 260, .inl (aI tt76)))) 99 (.inl (g 0, 858, .inl (aI bh72)))) 100 (.inl (g 0, 33, .inl (aI bl73)))) 106 (.inl (g 0, 200, .inl (aI dh74)))) (Eq.trans (up_cm (by decide)) (Eq.trans (congrArg (fun qq : Nat → va_E => va_up qq 106 (.inl (g 0, 200, .inl (aI dh74)))) (up_cm (by decide))) (congrArg (fun qq : Nat → va_E => va_up (va_up qq 100 (.inl (g 0, 33, .inl (aI bl73)))) 106 (.inl (g 0, 200, .inl (aI dh74)))) (up_cm (by decide))))) ?_
        have hsh0 : sh = 0 := by omega
        have ehmt85 : (w ++ fixT q n pa sh) = w ++ fixA q n pa ++ dot0 n ++ fixB q n := (by unfold fixT; rw [hsh0, dot_cut]; simp only [List.append_assoc])
        have hmt85 : mtx tt76 (w ++ fixA q n pa ++ dot0 n ++ fixB q n) := ehmt85 ▸ hmt83
        refine J_eqF (F2 := va_up (va_up (va_up (va_up (va_up F 98 (oM ad (va_up f77 18 ((w ++ fixA q n pa ++ dot0 n ++ fixB q n).length : Int)) v)) 107 (.inl (g 0, 260, .inl (aI tt76)))) 99 (.inl (g 0, 858, .inl (aI bh72)))) 100 (.inl (g 0, 33, .inl (aI bl73)))) 106 (.inl (g 0, 200, .inl (aI dh74)))) (congrArg (fun qq : Int => va_up (va_up (va_up (va_up (va_up F 98 (oM ad (va_up f77 18 qq) v)) 107 (.inl (g 0, 260, .inl (aI tt76)))) 99 (.inl (g 0, 858, .inl (aI bh72)))) 100 (.inl (g 0, 33, .inl (aI bl73)))) 106 (.inl (g 0, 200, .inl (aI dh74)))) (show ((w ++ fixT q n pa sh).length : Int) = ((w ++ fixA q n pa ++ dot0 n ++ fixB q n).length : Int) from by rw [ehmt85])) ?_
        refine J_aload_n 3 d_M_sayGeneral_87 rfl rfl ?_
        refine J_iload 0 d_M_sayGeneral_88 rfl ?_
        refine J_callVv cw_M_354 nh_M_cut pn_M_cut rfl rfl (by omega) (by rw [va_up_ne _ _ (by decide), va_up_ne _ _ (by decide), va_up_ne _ _ (by decide), va_up_ne _ _ (by decide), va_up_self]) (As := [.int (iI (w.length : Int))]) (rest := []) rfl (Nat.le_of_ble_eq_true rfl) ⟨by decide, by decide⟩ rfl ⟨by decide, by decide⟩ d_M_sayGeneral_90 (c_M_cut hfl (f := va_up f77 18 ((w ++ fixA q n pa ++ dot0 n ++ fixB q n).length : Int)) (v := v) (tt := tt76) (a0 := w) (aa := (fixA q n pa)) (q := q) (p := n) hN (by rw [va_up_ne _ _ (by decide), va_up_ne _ _ (by decide), va_up_ne _ _ (by decide), va_up_ne _ _ (by decide), va_up_self]) (by rw [va_up_ne _ _ (by decide), va_up_ne _ _ (by decide), va_up_ne _ _ (by decide), va_up_self]) hmt85 (va_up_self ..) (by rw [len4]; have h9 : (fixB q n).length = n := sgr_1 _; have h8 := dot0_l n; rw [h9]; omega) (sgr_46 (dgv_16 q) hpa46 hpab _)) (fun  F4 hq => ?_)
        obtain ⟨hmt86, eF4⟩ := hq
        refine J_eqF (F2 := va_up (va_up (va_up (va_up (va_up F 98 (oM ad (va_up f77 18 (((w ++ (fixA q n pa) ++ cutP q n).length : Nat) : Int)) v)) 107 (.inl (g 0, 260, .inl (aI tt76)))) 99 (.inl (g 0, 858, .inl (aI bh72)))) 100 (.inl (g 0, 33, .inl (aI bl73)))) 106 (.inl (g 0, 200, .inl (aI dh74)))) ((eF4.trans (congrArg (fun qq : Nat → Int => va_up (va_up (va_up (va_up (va_up (va_up F 98 (oM ad (va_up f77 18 ((w ++ fixA q n pa ++ dot0 n ++ fixB q n).length : Int)) v)) 107 (.inl (g 0, 260, .inl (aI tt76)))) 99 (.inl (g 0, 858, .inl (aI bh72)))) 100 (.inl (g 0, 33, .inl (aI bl73)))) 106 (.inl (g 0, 200, .inl (aI dh74)))) 98 (oM ad qq v)) (up_in0))).trans (up_in4 (by decide) (by decide) (by decide) (by decide))) ?_
        refine J_eqF (F2 := va_up (va_up (va_up (va_up (va_up F 98 (oM ad (va_up f77 18 (((w ++ (fixA q n pa) ++ cutP q n).length : Nat) : Int)) v)) 99 (.inl (g 0, 858, .inl (aI bh72)))) 100 (.inl (g 0, 33, .inl (aI bl73)))) 106 (.inl (g 0, 200, .inl (aI dh74)))) 107 (.inl (g 0, 260, .inl (aI tt76)))) (Eq.trans (congrArg (fun qq : Nat → va_E => va_up (va_up qq 100 (.inl (g 0, 33, .inl (aI bl73)))) 106 (.inl (g 0, 200, .inl (aI dh74)))) (up_cm (by decide))) (Eq.trans (congrArg (fun qq : Nat → va_E => va_up qq 106 (.inl (g 0, 200, .inl (aI dh74)))) (up_cm (by decide))) (up_cm (by decide)))) ?_
        have ehmt87 : (w ++ (fixA q n pa) ++ cutP q n) = w ++ genT u d p pa sh lt := by rw [hgen, if_neg (by omega), List.append_assoc]
        have hmt87 : mtx tt76 (w ++ genT u d p pa sh lt) := ehmt87 ▸ hmt86
        refine J_eqF (F2 := va_up (va_up (va_up (va_up (va_up F 98 (oM ad (va_up f77 18 ((w ++ genT u d p pa sh lt).length : Int)) v)) 99 (.inl (g 0, 858, .inl (aI bh72)))) 100 (.inl (g 0, 33, .inl (aI bl73)))) 106 (.inl (g 0, 200, .inl (aI dh74)))) 107 (.inl (g 0, 260, .inl (aI tt76)))) (congrArg (fun qq : Int => va_up (va_up (va_up (va_up (va_up F 98 (oM ad (va_up f77 18 qq) v)) 99 (.inl (g 0, 858, .inl (aI bh72)))) 100 (.inl (g 0, 33, .inl (aI bl73)))) 106 (.inl (g 0, 200, .inl (aI dh74)))) 107 (.inl (g 0, 260, .inl (aI tt76)))) (show (((w ++ (fixA q n pa) ++ cutP q n).length : Nat) : Int) = ((w ++ genT u d p pa sh lt).length : Int) from by rw [ehmt87])) ?_
        refine J_vret rfl d_M_sayGeneral_93 ⟨by decide, by decide⟩ ?_
        refine ⟨rfl, rfl, rfl, bh72, bl73, (va_up f77 18 ((w ++ genT u d p pa sh lt).length : Int)), dh74, tt76, W75, hR78, ?_, ?_, (va_up_self ..), hmt87, rfl⟩
        · exact (fun k hk => ((show (W75) k = W75 k from by rfl).trans ((hW79 k (by omega)).trans ((show (W67) k = W67 k from by rfl).trans ((hW69 k (by omega)).trans (show (V) k = V k from by rfl))))))
        · exact (fun j h1 h2 => ((show (va_up f77 18 ((w ++ genT u d p pa sh lt).length : Int)) j = f77 j from by rw [va_up_ne _ _ h2]).trans ((hf80 j h1 h2).trans (show (va_up f 16 ((p : Nat) : Int)) j = f j from by rw [va_up_ne _ _ h1]))))
    · refine J_aload_n 3 d_M_sayGeneral_52 rfl rfl ?_
      refine J_iload_n 2 d_M_sayGeneral_53 rfl rfl ?_
      refine J_aload_n 3 d_M_sayGeneral_54 rfl rfl ?_
      refine gf_M_327 (by omega) (by rw [va_up_ne _ _ (by decide), va_up_ne _ _ (by decide), va_up_ne _ _ (by decide), va_up_self]) rfl d_M_sayGeneral_55 ?_
      refine J_topi (r := sh) (congrArg iI ((va_up_ne _ _ (by decide)).trans hsh)) ?_
      refine J_ifne (tgt := 65) d_M_sayGeneral_58 (by decide) ⟨by omega, by omega⟩ (fun c58 => ?_) (fun c58 => ?_)
      · refine J_iconst d_M_sayGeneral_65 ?_
        refine J_iload_n 4 d_M_sayGeneral_66 rfl rfl ?_
        refine J_callVv cw_M_357 nh_M_sayFloat pn_M_sayFloat rfl rfl (by omega) (by rw [va_up_ne _ _ (by decide), va_up_ne _ _ (by decide), va_up_ne _ _ (by decide), va_up_self]) (As := [.int (iI (p : Int)), .int (iI 0), .int (iI (lt : Int))]) (rest := []) rfl (Nat.le_of_ble_eq_true rfl) ⟨by decide, by decide⟩ rfl ⟨by decide, by decide⟩ d_M_sayGeneral_67 (c_M_sayFloat hfl (dh := dh66) (tt := tt) (w := w) (hh := bh64) (ll := bl65) (f := va_up f 16 ((p : Nat) : Int)) (v := v) (V := W67) (br := br) (x := x) (y := y) (u := u) (d := d) (m := p) (lt := lt) (sh := sh) (c := 0) hN (by rw [va_up_ne _ _ (by decide), va_up_ne _ _ (by decide), va_up_ne _ _ (by decide), va_up_self]) (by rw [va_up_ne _ _ (by decide), va_up_ne _ _ (by decide), va_up_self]) (by rw [va_up_ne _ _ (by decide), va_up_self]) hR68 hzz (by rw [va_up_self]) (by rw [va_up_ne _ _ (by decide), va_up_ne _ _ (by decide), va_up_ne _ _ (by decide), va_up_ne _ _ (by decide)]; exact h107) hmt ((va_up_ne _ _ (by decide)).trans hf18) (((hW69 _ (by omega))).trans hx) (((hW69 _ (by omega))).trans hy) hxb hyb hy0 hd0 hxd ⟨by omega, by omega⟩ ((va_up_ne _ _ (by decide)).trans hsh) hshb (by omega) (by omega) hlt hwl) (fun  F5 hq => ?_)
        obtain ⟨bh88, bl89, f93, dh90, tt92, W91, hR94, hW95, hf96, hf1897, hmt98, eF5⟩ := hq
        refine J_eqF (F2 := va_up (va_up (va_up (va_up (va_up F 98 (oM ad f93 v)) 99 (.inl (g 0, 858, .inl (aI bh88)))) 100 (.inl (g 0, 33, .inl (aI bl89)))) 106 (.inl (g 0, 200, .inl (aI dh90)))) 107 (.inl (g 0, 260, .inl (aI tt92)))) (eF5.trans (Eq.trans (Eq.trans (Eq.trans (congrArg (fun qF : Nat → va_E => va_up qF 107 (.inl (g 0, 260, .inl (aI tt92)))) (congrArg (fun qF : Nat → va_E => va_up qF 106 (.inl (g 0, 200, .inl (aI dh90)))) (congrArg (fun qF : Nat → va_E => va_up qF 100 (.inl (g 0, 33, .inl (aI bl89)))) (congrArg (fun qF : Nat → va_E => va_up qF 99 (.inl (g 0, 858, .inl (aI bh88)))) (up_in3 (by decide) (by decide) (by decide)))))) (congrArg (fun qF : Nat → va_E => va_up qF 107 (.inl (g 0, 260, .inl (aI tt92)))) (congrArg (fun qF : Nat → va_E => va_up qF 106 (.inl (g 0, 200, .inl (aI dh90)))) (congrArg (fun qF : Nat → va_E => va_up qF 100 (.inl (g 0, 33, .inl (aI bl89)))) (up_in2 (by decide) (by decide)))))) (congrArg (fun qF : Nat → va_E => va_up qF 107 (.inl (g 0, 260, .inl (aI tt92)))) (congrArg (fun qF : Nat → va_E => va_up qF 106 (.inl (g 0, 200, .inl (aI dh90)))) (up_in1 (by decide))))) (congrArg (fun qF : Nat → va_E => va_up qF 107 (.inl (g 0, 260, .inl (aI tt92)))) (up_in0)))) ?_
        refine J_eqF (F2 := va_up (va_up (va_up (va_up (va_up F 98 (oM ad (va_up f93 18 (((w ++ floT (flQ u d p) p sh 0 (flE u d p) lt).length : Nat) : Int)) v)) 99 (.inl (g 0, 858, .inl (aI bh88)))) 100 (.inl (g 0, 33, .inl (aI bl89)))) 106 (.inl (g 0, 200, .inl (aI dh90)))) 107 (.inl (g 0, 260, .inl (aI tt92)))) (congrArg (fun qq : Nat → Int => va_up (va_up (va_up (va_up (va_up F 98 (oM ad qq v)) 99 (.inl (g 0, 858, .inl (aI bh88)))) 100 (.inl (g 0, 33, .inl (aI bl89)))) 106 (.inl (g 0, 200, .inl (aI dh90)))) 107 (.inl (g 0, 260, .inl (aI tt92)))) (up_same1 (i := 18) (a := (((w ++ floT (flQ u d p) p sh 0 (flE u d p) lt).length : Nat) : Int)) (hf1897))) ?_
        have ehmt99 : (w ++ floT (flQ u d p) p sh 0 (flE u d p) lt) = w ++ genT u d p pa sh lt := by unfold genT; rw [← he, if_neg (by omega), if_neg (by omega)]
        have hmt99 : mtx tt92 (w ++ genT u d p pa sh lt) := ehmt99 ▸ hmt98
        refine J_eqF (F2 := va_up (va_up (va_up (va_up (va_up F 98 (oM ad (va_up f93 18 ((w ++ genT u d p pa sh lt).length : Int)) v)) 99 (.inl (g 0, 858, .inl (aI bh88)))) 100 (.inl (g 0, 33, .inl (aI bl89)))) 106 (.inl (g 0, 200, .inl (aI dh90)))) 107 (.inl (g 0, 260, .inl (aI tt92)))) (congrArg (fun qq : Int => va_up (va_up (va_up (va_up (va_up F 98 (oM ad (va_up f93 18 qq) v)) 99 (.inl (g 0, 858, .inl (aI bh88)))) 100 (.inl (g 0, 33, .inl (aI bl89)))) 106 (.inl (g 0, 200, .inl (aI dh90)))) 107 (.inl (g 0, 260, .inl (aI tt92)))) (show (((w ++ floT (flQ u d p) p sh 0 (flE u d p) lt).length : Nat) : Int) = ((w ++ genT u d p pa sh lt).length : Int) from by rw [ehmt99])) ?_
        refine J_vret rfl d_M_sayGeneral_70 ⟨by decide, by decide⟩ ?_
        refine ⟨rfl, rfl, rfl, bh88, bl89, (va_up f93 18 ((w ++ genT u d p pa sh lt).length : Int)), dh90, tt92, W91, hR94, ?_, ?_, (va_up_self ..), hmt99, rfl⟩
        · exact (fun k hk => ((show (W91) k = W91 k from by rfl).trans ((hW95 k (by omega)).trans ((show (W67) k = W67 k from by rfl).trans ((hW69 k (by omega)).trans (show (V) k = V k from by rfl))))))
        · exact (fun j h1 h2 => ((show (va_up f93 18 ((w ++ genT u d p pa sh lt).length : Int)) j = f93 j from by rw [va_up_ne _ _ h2]).trans ((hf96 j h1 h2).trans (show (va_up f 16 ((p : Nat) : Int)) j = f j from by rw [va_up_ne _ _ h1]))))
      · refine J_iconst d_M_sayGeneral_61 ?_
        refine J_goto (tgt := 66) d_M_sayGeneral_62 (by decide) ?_
        refine J_iload_n 4 d_M_sayGeneral_66 rfl rfl ?_
        refine J_callVv cw_M_357 nh_M_sayFloat pn_M_sayFloat rfl rfl (by omega) (by rw [va_up_ne _ _ (by decide), va_up_ne _ _ (by decide), va_up_ne _ _ (by decide), va_up_self]) (As := [.int (iI (p : Int)), .int (iI 1), .int (iI (lt : Int))]) (rest := []) rfl (Nat.le_of_ble_eq_true rfl) ⟨by decide, by decide⟩ rfl ⟨by decide, by decide⟩ d_M_sayGeneral_67 (c_M_sayFloat hfl (dh := dh66) (tt := tt) (w := w) (hh := bh64) (ll := bl65) (f := va_up f 16 ((p : Nat) : Int)) (v := v) (V := W67) (br := br) (x := x) (y := y) (u := u) (d := d) (m := p) (lt := lt) (sh := sh) (c := 1) hN (by rw [va_up_ne _ _ (by decide), va_up_ne _ _ (by decide), va_up_ne _ _ (by decide), va_up_self]) (by rw [va_up_ne _ _ (by decide), va_up_ne _ _ (by decide), va_up_self]) (by rw [va_up_ne _ _ (by decide), va_up_self]) hR68 hzz (by rw [va_up_self]) (by rw [va_up_ne _ _ (by decide), va_up_ne _ _ (by decide), va_up_ne _ _ (by decide), va_up_ne _ _ (by decide)]; exact h107) hmt ((va_up_ne _ _ (by decide)).trans hf18) (((hW69 _ (by omega))).trans hx) (((hW69 _ (by omega))).trans hy) hxb hyb hy0 hd0 hxd ⟨by omega, by omega⟩ ((va_up_ne _ _ (by decide)).trans hsh) hshb (by omega) (by omega) hlt hwl) (fun  F6 hq => ?_)
        obtain ⟨bh100, bl101, f105, dh102, tt104, W103, hR106, hW107, hf108, hf18109, hmt110, eF6⟩ := hq
        refine J_eqF (F2 := va_up (va_up (va_up (va_up (va_up F 98 (oM ad f105 v)) 99 (.inl (g 0, 858, .inl (aI bh100)))) 100 (.inl (g 0, 33, .inl (aI bl101)))) 106 (.inl (g 0, 200, .inl (aI dh102)))) 107 (.inl (g 0, 260, .inl (aI tt104)))) (eF6.trans (Eq.trans (Eq.trans (Eq.trans (congrArg (fun qF : Nat → va_E => va_up qF 107 (.inl (g 0, 260, .inl (aI tt104)))) (congrArg (fun qF : Nat → va_E => va_up qF 106 (.inl (g 0, 200, .inl (aI dh102)))) (congrArg (fun qF : Nat → va_E => va_up qF 100 (.inl (g 0, 33, .inl (aI bl101)))) (congrArg (fun qF : Nat → va_E => va_up qF 99 (.inl (g 0, 858, .inl (aI bh100)))) (up_in3 (by decide) (by decide) (by decide)))))) (congrArg (fun qF : Nat → va_E => va_up qF 107 (.inl (g 0, 260, .inl (aI tt104)))) (congrArg (fun qF : Nat → va_E => va_up qF 106 (.inl (g 0, 200, .inl (aI dh102)))) (congrArg (fun qF : Nat → va_E => va_up qF 100 (.inl (g 0, 33, .inl (aI bl101)))) (up_in2 (by decide) (by decide)))))) (congrArg (fun qF : Nat → va_E => va_up qF 107 (.inl (g 0, 260, .inl (aI tt104)))) (congrArg (fun qF : Nat → va_E => va_up qF 106 (.inl (g 0, 200, .inl (aI dh102)))) (up_in1 (by decide))))) (congrArg (fun qF : Nat → va_E => va_up qF 107 (.inl (g 0, 260, .inl (aI tt104)))) (up_in0)))) ?_
        refine J_eqF (F2 := va_up (va_up (va_up (va_up (va_up F 98 (oM ad (va_up f105 18 (((w ++ floT (flQ u d p) p sh 1 (flE u d p) lt).length : Nat) : Int)) v)) 99 (.inl (g 0, 858, .inl (aI bh100)))) 100 (.inl (g 0, 33, .inl (aI bl101)))) 106 (.inl (g 0, 200, .inl (aI dh102)))) 107 (.inl (g 0, 260, .inl (aI tt104)))) (congrArg (fun qq : Nat → Int => va_up (va_up (va_up (va_up (va_up F 98 (oM ad qq v)) 99 (.inl (g 0, 858, .inl (aI bh100)))) 100 (.inl (g 0, 33, .inl (aI bl101)))) 106 (.inl (g 0, 200, .inl (aI dh102)))) 107 (.inl (g 0, 260, .inl (aI tt104)))) (up_same1 (i := 18) (a := (((w ++ floT (flQ u d p) p sh 1 (flE u d p) lt).length : Nat) : Int)) (hf18109))) ?_
        have ehmt111 : (w ++ floT (flQ u d p) p sh 1 (flE u d p) lt) = w ++ genT u d p pa sh lt := by unfold genT; rw [← he, if_neg (by omega), if_pos (by omega)]
        have hmt111 : mtx tt104 (w ++ genT u d p pa sh lt) := ehmt111 ▸ hmt110
        refine J_eqF (F2 := va_up (va_up (va_up (va_up (va_up F 98 (oM ad (va_up f105 18 ((w ++ genT u d p pa sh lt).length : Int)) v)) 99 (.inl (g 0, 858, .inl (aI bh100)))) 100 (.inl (g 0, 33, .inl (aI bl101)))) 106 (.inl (g 0, 200, .inl (aI dh102)))) 107 (.inl (g 0, 260, .inl (aI tt104)))) (congrArg (fun qq : Int => va_up (va_up (va_up (va_up (va_up F 98 (oM ad (va_up f105 18 qq) v)) 99 (.inl (g 0, 858, .inl (aI bh100)))) 100 (.inl (g 0, 33, .inl (aI bl101)))) 106 (.inl (g 0, 200, .inl (aI dh102)))) 107 (.inl (g 0, 260, .inl (aI tt104)))) (show (((w ++ floT (flQ u d p) p sh 1 (flE u d p) lt).length : Nat) : Int) = ((w ++ genT u d p pa sh lt).length : Int) from by rw [ehmt111])) ?_
        refine J_vret rfl d_M_sayGeneral_70 ⟨by decide, by decide⟩ ?_
        refine ⟨rfl, rfl, rfl, bh100, bl101, (va_up f105 18 ((w ++ genT u d p pa sh lt).length : Int)), dh102, tt104, W103, hR106, ?_, ?_, (va_up_self ..), hmt111, rfl⟩
        · exact (fun k hk => ((show (W103) k = W103 k from by rfl).trans ((hW107 k (by omega)).trans ((show (W67) k = W67 k from by rfl).trans ((hW69 k (by omega)).trans (show (V) k = V k from by rfl))))))
        · exact (fun j h1 h2 => ((show (va_up f105 18 ((w ++ genT u d p pa sh lt).length : Int)) j = f105 j from by rw [va_up_ne _ _ h2]).trans ((hf108 j h1 h2).trans (show (va_up f 16 ((p : Nat) : Int)) j = f j from by rw [va_up_ne _ _ h1]))))
  refine J_aload_n 0 d_M_sayGeneral_0 rfl rfl ?_
  refine gf_M_342 (by omega) hO rfl d_M_sayGeneral_1 ?_
  refine J_topi (r := pr) (congrArg iI hpr) ?_
  refine J_ifge (tgt := 12) d_M_sayGeneral_4 (by decide) ⟨by omega, by omega⟩ (fun c4 => ?_) (fun c4 => ?_)
  · refine J_aload_n 0 d_M_sayGeneral_12 rfl rfl ?_
    refine gf_M_342 (by omega) hO rfl d_M_sayGeneral_13 ?_
    refine J_topi (r := pr) (congrArg iI hpr) ?_
    refine J_ifne (tgt := 23) d_M_sayGeneral_16 (by decide) ⟨by omega, by omega⟩ (fun c16 => ?_) (fun c16 => ?_)
    · refine J_aload_n 0 d_M_sayGeneral_23 rfl rfl ?_
      refine gf_M_342 (by omega) hO rfl d_M_sayGeneral_24 ?_
      refine J_topi (r := pr) (congrArg iI hpr) ?_
      refine J_topi (r := (p : Int)) (congrArg iI (by rw [hp, if_neg (by omega), if_neg (by omega)]; omega)) ?_
      exact lab27  
    · refine J_iconst d_M_sayGeneral_19 ?_
      refine J_goto (tgt := 27) d_M_sayGeneral_20 (by decide) ?_
      refine J_topi (r := (p : Int)) (congrArg iI (by rw [hp, if_neg (by omega), if_pos (by omega)]; rfl)) ?_
      exact lab27  
  · refine J_bipush d_M_sayGeneral_7 (i8_ok (by decide)) ?_
    refine J_goto (tgt := 27) d_M_sayGeneral_9 (by decide) ?_
    refine J_topi (r := (p : Int)) (congrArg iI (by rw [hp, if_pos (by omega)]; rfl)) ?_
    exact lab27  
