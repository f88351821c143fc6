/-! the Model: numbers of three kinds -/
theorem fd_same {s : Bool} {m m' : Nat} {e e' : Int} (h : su m e * sd 1 e' = su m' e' * sd 1 e) : fd s m e = fd s m' e' := by
  apply fd_congr
  unfold su sd at h
  rw [Nat.one_mul, Nat.one_mul, Nat.mul_assoc, Nat.mul_assoc, ← Nat.pow_add, ← Nat.pow_add] at h
  by_cases q : e' ≤ e
  · rw [show (e' - e).toNat = 0 by omega, Nat.pow_zero, Nat.mul_one]
    apply Nat.eq_of_mul_eq_mul_right (Nat.two_pow_pos (e'.toNat + (-e).toNat))
    rw [← h, Nat.mul_assoc, ← Nat.pow_add]; congr 2; omega
  · rw [show (e - e').toNat = 0 by omega, Nat.pow_zero, Nat.mul_one]
    apply Nat.eq_of_mul_eq_mul_right (Nat.two_pow_pos (e.toNat + (-e').toNat))
    rw [h, Nat.mul_assoc, ← Nat.pow_add]; congr 2; omega
/-- the double of q * 2^e with q of 53 bits, also where q is 2^53 -/
theorem fd_norm {q : Nat} {e : Int} (h1 : 4503599627370496 ≤ q) (h2 : q ≤ 9007199254740992) : ∃ m e0, fd false q e = fd false m e0 ∧ 4503599627370496 ≤ m ∧ m < 9007199254740992 ∧ e ≤ e0 ∧ e0 ≤ e + 1 ∧ su m e0 * sd 1 e = su q e * sd 1 e0 := by
  by_cases c : q = 9007199254740992
  · have h : su 4503599627370496 (e + 1) * sd 1 e = su q e * sd 1 (e + 1) := by
      unfold su sd
      rw [c, Nat.one_mul, Nat.one_mul, Nat.mul_assoc, Nat.mul_assoc, ← Nat.pow_add, ← Nat.pow_add, show (9007199254740992 : Nat) = 4503599627370496 * 2 ^ 1 by decide, Nat.mul_assoc, ← Nat.pow_add]
      congr 2; omega
    exact ⟨4503599627370496, e + 1, fd_same h.symm, by decide, by decide, by omega, by omega, h⟩
  · exact ⟨q, e, rfl, h1, by omega, by omega, by omega, rfl⟩
theorem pow_of_low {m : Nat} {e : Int} (hm : 0 < m) (he : e ≤ 60) (he2 : -160 ≤ e) (hm2 : m ≤ 9007199254740992) : (∃ k, lowd (su m e) (sd 1 e) = 2 ^ k ∧ k ≤ 160) ∧ rep53 (lowu (su m e) (sd 1 e)) := by
  obtain ⟨t, o, h1, h2⟩ := odd_part hm
  obtain ⟨e1, e2⟩ := low_bin (e := e) h1 h2
  have ht : t ≤ 53 := by
    apply Nat.le_of_not_lt
    intro q
    have a1 : 2 ^ 54 ≤ 2 ^ t := Nat.pow_le_pow_right (by decide) (by omega)
    have a2 : 1 * 2 ^ t ≤ o * 2 ^ t := Nat.mul_le_mul_right _ (by omega)
    omega
  have ho : o ≤ m := by rw [h1]; exact Nat.le_mul_of_pos_right _ (Nat.two_pow_pos _)
  exact ⟨⟨_, e2, by omega⟩, o, (e + t).toNat, e1, by omega, by omega⟩
/-- a real that is in a register -/
theorem real_ok {s s' : Int} {u d : Nat} (h : near s u d = some (2, s', u, d)) (hd : 0 < d) : (∃ k, d = 2 ^ k ∧ k ≤ 160) ∧ rep53 u ∧ ∃ m e0, fd false u (1 - (blen d : Int)) = fd false m e0 ∧ ((m = 0 ∧ e0 = 0) ∨ (4503599627370496 ≤ m ∧ m < 9007199254740992)) ∧ -160 ≤ e0 ∧ e0 ≤ 60 ∧ su m e0 * d = u * sd 1 e0 := by
  by_cases z : u = 0
  · unfold near at h
    rw [if_pos z] at h
    injection h with h; injection h with h1 h; injection h with h2 h; injection h with h3 h4
    subst z
    subst h4
    exact ⟨⟨0, rfl, by decide⟩, ⟨0, 0, rfl, by decide, by decide⟩, 0, 0, rfl, Or.inl ⟨rfl, rfl⟩, by decide, by decide, rfl⟩
  · have hu : 0 < u := by omega
    obtain ⟨n1, n2⟩ := near_isR (s := s) hu hd
    by_cases c : isR (nq u d (ns u d)) (-ns u d)
    · rw [n1 c] at h
      injection h with h; injection h with h1 h; injection h with h2 h; injection h with h3 h4
      obtain ⟨q1, q2⟩ := nq_rng hd (ns_inR hu hd)
      have b1 : blen (nq u d (ns u d)) ≤ 54 := blen_le.mpr (by omega)
      have b2 : ¬ blen (nq u d (ns u d)) ≤ 52 := fun z => by have := blen_le.mp z; omega
      unfold isR at c
      generalize hn : ns u d = n at *
      generalize nq u d n = q at *
      obtain ⟨⟨k, k1, k2⟩, r1⟩ := pow_of_low (m := q) (e := -n) (by omega) (by omega) (by omega) q2
      rw [h4] at k1
      rw [h3] at r1
      obtain ⟨m1, m2⟩ := low_mul (U := su q (-n)) (D := sd 1 (-n))
      rw [h3] at m1
      rw [h4] at m2
      have hr : su q (-n) * d = u * sd 1 (-n) := by
        generalize Nat.gcd (su q (-n)) (sd 1 (-n)) = G at m1 m2
        rw [← m1, ← m2]; ac_rfl
      obtain ⟨m, e0, g1, g2, g3, g4, g5, g6⟩ := fd_norm (e := -n) q1 q2
      have hs1 := sd_pos (show 0 < 1 by decide) (-n)
      have hr2 : su m e0 * d = u * sd 1 e0 := by
        apply Nat.eq_of_mul_eq_mul_right hs1
        have a1 : su m e0 * d * sd 1 (-n) = (su m e0 * sd 1 (-n)) * d := by ac_rfl
        have a2 : u * sd 1 e0 * sd 1 (-n) = u * sd 1 (-n) * sd 1 e0 := by ac_rfl
        rw [a1, a2, g6, ← hr]; ac_rfl
      refine ⟨⟨k, k1, k2⟩, r1, m, e0, ?_, Or.inr ⟨g2, g3⟩, by omega, by omega, hr2⟩
      apply fd_same
      have hb : sd 1 (1 - (blen d : Int)) = d := by
        unfold sd
        rw [k1, blen_pw, show (-(1 - ((k + 1 : Nat) : Int))).toNat = k by omega, Nat.one_mul]
      have hb2 : su u (1 - (blen d : Int)) = u := by
        unfold su
        have : 0 < blen d := blen_pos (by omega)
        rw [show (1 - (blen d : Int)).toNat = 0 by omega, Nat.pow_zero, Nat.mul_one]
      rw [hb, hb2, hr2]
    · rw [n2 c] at h; exact absurd h (by simp)
/-- the register r of the Model holds a number (kind, sign, parts) -/
def mreg (kk bb : Nat → Int) (rr : Nat → UInt64) (V : Nat → Nat) (r : Nat) (kd s : Int) (u d : Nat) : Prop :=
  kk r = kd ∧ bb r = (if s < 0 then 1 else 0) ∧ (kd ≠ 2 → V (2 * r) = u ∧ V (2 * r + 1) = d) ∧ (kd = 2 → V (2 * r) = 0 ∧ V (2 * r + 1) = 0 ∧ rr r = fd false u (1 - (blen d : Int)))
theorem lnw_154 {x : Nat} (h : x < 2 ^ 168) : lnw 28 x ≤ 6 := (lnw_le (by decide)).mpr h
set_option maxRecDepth 100000 in
set_option maxHeartbeats 4000000 in
theorem c_M_fail {l : Launch} (hfl : l.flags = flags0) {D : va_G} {g : Nat → ClassId} {ad : Nat → Nat} {N : Nat} {F : Nat → va_E} {code : Int} {f : Nat → Int} {v : UInt64}
    (hN : 109 ≤ N) (hO : F 98 = oM ad f v) :
    JC l y_M_fail b_M_fail 2 (Option.some Jvm.ClassFile.FieldType.int) rm_M_fail (0, 0) D jCl (jTys g) ad N F [.ref (ad 98), .int (iI code)] (ji ad N (fun z F' => z = 0 ∧ F' = va_up F 98 (oM ad (va_up f 10 code) v))) := by
  refine JC.go hfl (own := "NumberTowerModel") (lv := [(0, .ref (ad 98)), (1, .int (iI code))]) rfl (by decide +kernel) (Nat.le_of_ble_eq_true rfl) rfl (fun A => ?_)
  refine J_aload_n 0 d_M_fail_0 rfl rfl ?_
  refine J_iload_n 1 d_M_fail_1 rfl rfl ?_
  refine pf_M_39 (by omega) hO (Nat.le_of_ble_eq_true rfl) d_M_fail_2 ?_
  refine J_eqF (F2 := va_up F 98 (oM ad (va_up f 10 code) v)) rfl ?_
  refine J_iconst d_M_fail_5 ?_
  refine J_iret rfl rfl d_M_fail_6 ⟨by decide, by decide⟩ ?_
  exact ⟨_, rfl, rfl, rfl, rfl, rfl⟩
set_option maxRecDepth 100000 in
set_option maxHeartbeats 4000000 in
theorem c_M_isNumber {l : Launch} (hfl : l.flags = flags0) {D : va_G} {g : Nat → ClassId} {ad : Nat → Nat} {N : Nat} {F : Nat → va_E} {r : Int} {f kk : Nat → Int} {v : UInt64}
    (hN : 109 ≤ N) (hO : F 98 = oM ad f v) (hKk : F 101 = .inl (g 0, 8, .inl (aI kk))) (hr : inI r) (hk : ∀ j, j < 8 → inI (kk j)) :
    JC l y_M_isNumber b_M_isNumber 2 (Option.some Jvm.ClassFile.FieldType.boolean) rm_M_isNumber (0, 0) D jCl (jTys g) ad N F [.ref (ad 98), .int (iI r)] (ji ad N (fun z F' => ((z = 1 ∧ (0 ≤ r ∧ r ≤ 7) ∧ 0 ≤ kk r.toNat) ∨ (z = 0 ∧ ¬((0 ≤ r ∧ r ≤ 7) ∧ 0 ≤ kk r.toNat))) ∧ F' = F)) := by
  refine JC.go hfl (own := "NumberTowerModel") (lv := [(0, .ref (ad 98)), (1, .int (iI r))]) rfl (by decide +kernel) (Nat.le_of_ble_eq_true rfl) rfl (fun A => ?_)
  refine J_iload_n 1 d_M_isNumber_0 rfl rfl ?_
  refine J_iconst d_M_isNumber_1 ?_
  refine J_bipush d_M_isNumber_2 (i8_ok (by decide)) ?_
  refine J_callSi cw_M_138 nh_M_in pn_M_in rfl (As := [.int (iI r), .int (iI 0), .int (iI 7)]) (rest := []) rfl (Nat.le_of_ble_eq_true rfl) ⟨by decide, by decide⟩ rfl ⟨by decide, by decide⟩ d_M_isNumber_4 (c_M_in hfl (a := r) (b := 0) (c := 7) hr (by decide) (by decide)) (fun zin F1 hq => ?_)
  obtain ⟨hin, eF1⟩ := hq
  refine J_eqF eF1 ?_
  refine J_ifeq (tgt := 23) d_M_isNumber_7 (by decide) ⟨by omega, by omega⟩ (fun c7 => ?_) (fun c7 => ?_)
  · refine J_iconst d_M_isNumber_23 ?_
    refine J_iret rfl (nb01 (by omega)).1 d_M_isNumber_24 ⟨by decide, by decide⟩ ?_
    exact ⟨_, rfl, rfl, rfl, by omega, rfl⟩
  · refine J_aload_n 0 d_M_isNumber_10 rfl rfl ?_
    refine gf_M_16 (by omega) hO rfl d_M_isNumber_11 ?_
    refine J_iload_n 1 d_M_isNumber_14 rfl rfl ?_
    refine J_iaload 0 rfl (by omega) hKk (by omega) d_M_isNumber_15 ?_
    refine J_iflt (tgt := 23) d_M_isNumber_16 (by decide) (hk _ (by omega)) (fun c16 => ?_) (fun c16 => ?_)
    · refine J_iconst d_M_isNumber_23 ?_
      refine J_iret rfl (nb01 (by omega)).1 d_M_isNumber_24 ⟨by decide, by decide⟩ ?_
      exact ⟨_, rfl, rfl, rfl, by omega, rfl⟩
    · refine J_iconst d_M_isNumber_19 ?_
      refine J_goto (tgt := 24) d_M_isNumber_20 (by decide) ?_
      refine J_iret rfl (nb01 (by omega)).1 d_M_isNumber_24 ⟨by decide, by decide⟩ ?_
      exact ⟨_, rfl, rfl, rfl, by omega, rfl⟩
set_option maxRecDepth 100000 in
set_option maxHeartbeats 4000000 in
theorem c_M_grow1 {l : Launch} (hfl : l.flags = flags0) {D : va_G} {g : Nat → ClassId} {ad : Nat → Nat} {N : Nat} {F : Nat → va_E} {hh ll f : Nat → Int} {v : UInt64} {V : Nat → Nat} {br : Nat → Nat} {a x : Nat}
    (hN : 109 ≤ N) (hO : F 98 = oM ad f v) (hB : F 99 = aB g hh) (hL : F 100 = aL g ll) (hR : reg br hh ll V) (hzz : okB br) (ha : a < 32) (bra : br a = 0) (hx : V a = x) (hl : lnw 28 x ≤ 25) :
    JC l y_M_grow1 b_M_grow1 2 (Option.none : Option Jvm.ClassFile.FieldType) rm_M_grow1 (0, 0) D jCl (jTys g) ad N F [.ref (ad 98), .int (iI (a : Int))] (jv ad N (fun F' => ∃ hh' ll' : Nat → Int, reg br hh' ll' (va_up (va_up V 32 1) a (x + 1)) ∧ F' = va_up (va_up F 99 (aB g hh')) 100 (aL g ll'))) := by
  have hl1 : lnw 28 1 = 1 := by decide
  refine JC.go hfl (own := "NumberTowerModel") (lv := [(0, .ref (ad 98)), (1, .int (iI (a : Int)))]) rfl (by decide +kernel) (Nat.le_of_ble_eq_true rfl) rfl (fun A => ?_)
  refine J_aload_n 0 d_M_grow1_0 rfl rfl ?_
  refine J_bipush d_M_grow1_1 (i8_ok (by decide)) ?_
  refine J_lconst (v := 1) d_M_grow1_3 rfl ?_
  refine J_callVv cw_M_82 nh_M_put pn_M_put rfl rfl (by omega) hO (As := [.int (iI 32), .long (lI 1)]) (rest := []) rfl (Nat.le_of_ble_eq_true rfl) ⟨by decide, by decide⟩ rfl ⟨by decide, by decide⟩ d_M_grow1_4 (k_M_put hfl (a := 32) (n := 1) (hh := hh) (ll := ll) (V := V) (br := br) (hN := hN) (hO := hO) (hB := hB) (hL := hL) (hR := hR) (ha := by omega) (hn := by decide)) (fun  F1 hq => ?_)
  obtain ⟨bh1, bl2, hR3, eF1⟩ := hq
  refine J_eqF (F2 := va_up (va_up F 99 (.inl (g 0, 858, .inl (aI bh1)))) 100 (.inl (g 0, 33, .inl (aI bl2)))) eF1 ?_
  have hR6 := reg_w1 (hzz.1 _) hR3
  refine J_aload_n 0 d_M_grow1_7 rfl rfl ?_
  refine J_iload_n 1 d_M_grow1_8 rfl rfl ?_
  refine J_bipush d_M_grow1_9 (i8_ok (by decide)) ?_
  refine J_iload_n 1 d_M_grow1_11 rfl rfl ?_
  refine J_callVv cw_M_155 nh_M_add pn_M_add rfl rfl (by omega) (by rw [va_up_ne _ _ (by decide), va_up_ne _ _ (by decide)]; exact hO) (As := [.int (iI (a : Int)), .int (iI 32), .int (iI (a : Int))]) (rest := []) rfl (Nat.le_of_ble_eq_true rfl) ⟨by decide, by decide⟩ rfl ⟨by decide, by decide⟩ d_M_grow1_12 (k_M_add hfl (a := a) (b := 32) (t := a) (hh := bh1) (ll := bl2) (V := va_up V 32 1) (br := br) (hN := hN) (hO := (by rw [va_up_ne _ _ (by decide), va_up_ne _ _ (by decide)]; exact hO)) (hB := (by rw [va_up_ne _ _ (by decide), va_up_self])) (hL := (by rw [va_up_self])) (hR := hR6) (ha := by omega) (hb := by omega) (ht := by omega) (hxa := ((va_up_ne _ _ (by omega)).trans hx)) (bra := bra) (hxb := (va_up_self ..)) (brb := (hzz.2 32 (by decide) (by decide))) (hla2 := by omega) (hlb2 := by omega)) (fun  F2 hq => ?_)
  obtain ⟨bh7, bl8, hR9, eF2⟩ := hq
  refine J_eqF (F2 := va_up (va_up F 99 (.inl (g 0, 858, .inl (aI bh7)))) 100 (.inl (g 0, 33, .inl (aI bl8)))) (eF2.trans (Eq.trans (congrArg (fun q : Nat → va_E => va_up q 100 (.inl (g 0, 33, .inl (aI bl8)))) (up_in1 (by decide))) (up_in0))) ?_
  have hR12 := reg_w1 (hzz.1 _) hR9
  refine J_vret rfl d_M_grow1_15 ⟨by decide, by decide⟩ ?_
  exact ⟨rfl, rfl, rfl, _, _, hR12, rfl⟩
set_option maxRecDepth 100000 in
set_option maxHeartbeats 4000000 in
theorem c_M_fetch {l : Launch} (hfl : l.flags = flags0) {D : va_G} {g : Nat → ClassId} {ad : Nat → Nat} {N : Nat} {F : Nat → va_E} {hh ll f : Nat → Int} {v : UInt64} {V : Nat → Nat} {br : Nat → Nat}{kk bb : Nat → Int} {rr : Nat → UInt64} {r u d x y : Nat} {kd sg : Int}
    (hN : 109 ≤ N) (hO : F 98 = oM ad f v) (hB : F 99 = aB g hh) (hL : F 100 = aL g ll) (hR : reg br hh ll V) (hzz : okB br) (hKk : F 101 = .inl (g 0, 8, .inl (aI kk))) (hBb : F 102 = .inl (g 2, 8, .inl (aI bb))) (hRr : F 103 = .inl (g 3, 8, .inr (.inr (.inr (.inl rr))))) (hr : r < 8) (hu : 16 ≤ u ∧ u < 33) (hd : 16 ≤ d ∧ d < 33) (bru : br u = 0) (brd : br d = 0) (hud : u ≠ d) (hm : mreg kk bb rr V r kd sg x y) (hd0 : 0 < y) (hkd : 0 ≤ kd ∧ kd ≤ 2) (hb : x < 2 ^ 154 ∧ y < 2 ^ 154) (hre : kd = 2 → ∃ s s', near s x y = some (2, s', x, y)) :
    JC l y_M_fetch b_M_fetch 4 (Option.some Jvm.ClassFile.FieldType.boolean) rm_M_fetch (0, 0) D jCl (jTys g) ad N F [.ref (ad 98), .int (iI (r : Int)), .int (iI (u : Int)), .int (iI (d : Int))] (ji ad N (fun z F' => (z = if sg < 0 then 1 else 0) ∧ ∃ (hh' ll' : Nat → Int) (U Y : Nat), (0 < Y ∧ U * y = x * Y ∧ U < 2 ^ 168 ∧ Y < 2 ^ 168) ∧ ((kd ≠ 2 → U = x ∧ Y = y) ∧ (kd = 2 → ∃ e, Y = 2 ^ e)) ∧ reg br hh' ll' (va_up (va_up V d Y) u U) ∧ F' = va_up (va_up F 99 (aB g hh')) 100 (aL g ll'))) := by
  obtain ⟨hm1, hm2, hm3, hm4⟩ := hm
  have hbr : bb r = if sg < 0 then 1 else 0 := hm2
  have hbr2 : bb r = 0 ∨ bb r = 1 := by rw [hbr]; split <;> omega
  refine JC.go hfl (own := "NumberTowerModel") (lv := [(0, .ref (ad 98)), (1, .int (iI (r : Int))), (2, .int (iI (u : Int))), (3, .int (iI (d : Int)))]) rfl (by decide +kernel) (Nat.le_of_ble_eq_true rfl) rfl (fun A => ?_)
  refine J_aload_n 0 d_M_fetch_0 rfl rfl ?_
  have lab43 : ∀ (e1 : Nat → Int) (e2 : Nat → Int) (U : Nat) (Y : Nat) (hU : 0 < Y ∧ U * y = x * Y ∧ U < 2 ^ 168 ∧ Y < 2 ^ 168) (hU9 : (kd ≠ 2 → U = x ∧ Y = y) ∧ (kd = 2 → ∃ e, Y = 2 ^ e)) (hRL43 : reg br e1 e2 (va_up (va_up V d Y) u U)) , J l rm_M_fetch (0, 0) "NumberTowerModel" b_M_fetch 4 (Option.some Jvm.ClassFile.FieldType.boolean) D jCl (jTys g) A (fun _ me => me.name = y_M_fetch.name) (ji ad N (fun z F' => (z = if sg < 0 then 1 else 0) ∧ ∃ (hh' ll' : Nat → Int) (U Y : Nat), (0 < Y ∧ U * y = x * Y ∧ U < 2 ^ 168 ∧ Y < 2 ^ 168) ∧ ((kd ≠ 2 → U = x ∧ Y = y) ∧ (kd = 2 → ∃ e, Y = 2 ^ e)) ∧ reg br hh' ll' (va_up (va_up V d Y) u U) ∧ F' = va_up (va_up F 99 (aB g hh')) 100 (aL g ll'))) ad N 0 0 43 [(0, .ref (ad 98)), (1, .int (iI (r : Int)))] [] (va_up (va_up F 99 (.inl (g 0, 858, .inl (aI e1)))) 100 (.inl (g 0, 33, .inl (aI e2)))) := by
    intro e1 e2 U Y hU hU9 hRL43
    refine J_aload_n 0 d_M_fetch_43 rfl rfl ?_
    refine gf_M_19 (by omega) (by rw [va_up_ne _ _ (by decide), va_up_ne _ _ (by decide)]; exact hO) rfl d_M_fetch_44 ?_
    refine J_iload_n 1 d_M_fetch_47 rfl rfl ?_
    refine J_zaload 2 rfl (by omega) (by rw [va_up_ne _ _ (by decide), va_up_ne _ _ (by decide)]; exact hBb) (by omega) d_M_fetch_48 ?_
    refine J_topi (r := bb r) (congrArg (fun q => iI (bb q)) (by omega)) ?_
    refine J_iret rfl (nb01 (by omega)).1 d_M_fetch_49 ⟨by decide, by decide⟩ ?_
    exact ⟨_, rfl, rfl, rfl, hbr, e1, e2, U, Y, hU, hU9, hRL43, rfl⟩
  refine gf_M_16 (by omega) hO rfl d_M_fetch_1 ?_
  refine J_iload_n 1 d_M_fetch_4 rfl rfl ?_
  refine J_iaload 0 rfl (by omega) hKk (by omega) d_M_fetch_5 ?_
  refine J_topi (r := kk r) (congrArg (fun q => iI (kk q)) (by omega)) ?_
  refine J_iconst d_M_fetch_6 ?_
  refine J_if_icmpne (tgt := 25) d_M_fetch_7 (by decide) ⟨by omega, by omega⟩ ⟨by omega, by omega⟩ (fun c7 => ?_) (fun c7 => ?_)
  · obtain ⟨hx1, hx2⟩ := hm3 (by omega)
    refine J_aload_n 0 d_M_fetch_25 rfl rfl ?_
    refine J_iconst d_M_fetch_26 ?_
    refine J_iload_n 1 d_M_fetch_27 rfl rfl ?_
    refine J_imul d_M_fetch_28 ?_
    refine J_iload_n 2 d_M_fetch_29 rfl rfl ?_
    refine J_callVv cw_M_58 nh_M_copy pn_M_copy rfl rfl (by omega) hO (As := [.int (iI (2 * (r : Int))), .int (iI (u : Int))]) (rest := []) rfl (Nat.le_of_ble_eq_true rfl) ⟨by decide, by decide⟩ rfl ⟨by decide, by decide⟩ d_M_fetch_30 (k_M_copy hfl (a := 2 * r) (b := u) (hh := hh) (ll := ll) (V := V) (br := br) (hN := hN) (hO := hO) (hB := hB) (hL := hL) (hR := hR) (ha := by omega) (hb := by omega) (hxa := rfl) (bra := (hzz.2 (2 * r) (by omega) (by omega)))) (fun  F1 hq => ?_)
    obtain ⟨bh13, bl14, hR15, eF1⟩ := hq
    refine J_eqF (F2 := va_up (va_up F 99 (.inl (g 0, 858, .inl (aI bh13)))) 100 (.inl (g 0, 33, .inl (aI bl14)))) eF1 ?_
    have hR18 := reg_w1 (hzz.1 _) hR15
    refine J_aload_n 0 d_M_fetch_33 rfl rfl ?_
    refine J_iconst d_M_fetch_34 ?_
    refine J_iload_n 1 d_M_fetch_35 rfl rfl ?_
    refine J_imul d_M_fetch_36 ?_
    refine J_iconst d_M_fetch_37 ?_
    refine J_iadd d_M_fetch_38 ?_
    refine J_iload_n 3 d_M_fetch_39 rfl rfl ?_
    refine J_callVv cw_M_58 nh_M_copy pn_M_copy rfl rfl (by omega) (by rw [va_up_ne _ _ (by decide), va_up_ne _ _ (by decide)]; exact hO) (As := [.int (iI ((2 * (r : Int)) + 1)), .int (iI (d : Int))]) (rest := []) rfl (Nat.le_of_ble_eq_true rfl) ⟨by decide, by decide⟩ rfl ⟨by decide, by decide⟩ d_M_fetch_40 (k_M_copy hfl (a := (2 * r) + 1) (b := d) (hh := bh13) (ll := bl14) (V := va_up V u (V (2 * r))) (br := br) (hN := hN) (hO := (by rw [va_up_ne _ _ (by decide), va_up_ne _ _ (by decide)]; exact hO)) (hB := (by rw [va_up_ne _ _ (by decide), va_up_self])) (hL := (by rw [va_up_self])) (hR := hR18) (ha := by omega) (hb := by omega) (hxa := (va_up_ne _ _ (by omega))) (bra := (hzz.2 ((2 * r) + 1) (by omega) (by omega)))) (fun  F2 hq => ?_)
    obtain ⟨bh19, bl20, hR21, eF2⟩ := hq
    refine J_eqF (F2 := va_up (va_up F 99 (.inl (g 0, 858, .inl (aI bh19)))) 100 (.inl (g 0, 33, .inl (aI bl20)))) (eF2.trans (Eq.trans (congrArg (fun q : Nat → va_E => va_up q 100 (.inl (g 0, 33, .inl (aI bl20)))) (up_in1 (by decide))) (up_in0))) ?_
    have hR24 := reg_w1 (hzz.1 _) hR21
    refine J_pick (lv' := [(0, .ref (ad 98)), (1, .int (iI (r : Int)))]) [0, 1] rfl ?_
    have hR25 := (congrArg (reg _ _ _) (up_cm (by omega))).mp hR24
    exact lab43 bh19 bl20 (V (2 * r)) (V ((2 * r) + 1)) ⟨by rw [hx2]; exact hd0, by rw [hx1, hx2], by omega, by omega⟩ ⟨fun _ => ⟨hx1, hx2⟩, fun e => absurd e (by omega)⟩ hR25
  · have hk2 : kd = 2 := by omega
    obtain ⟨w1, w2, w3⟩ := hm4 hk2
    obtain ⟨sa, sb, hnr⟩ := hre hk2
    obtain ⟨-, -, m, e0, f1, f2, f3, f4, f5⟩ := real_ok hnr hd0
    have hU1 : 0 < sd 1 e0 := sd_pos (by decide) e0
    have hU2 : su m e0 * y = x * sd 1 e0 := f5
    have hU3 : su m e0 < 2 ^ 168 ∧ sd 1 e0 < 2 ^ 168 := by
      constructor
      · unfold su
        have h1 : 2 ^ e0.toNat ≤ 2 ^ 60 := Nat.pow_le_pow_right (by decide) (by omega)
        exact Nat.lt_of_le_of_lt (Nat.mul_le_mul (show m ≤ 9007199254740992 by omega) h1) (by decide)
      · unfold sd
        rw [Nat.one_mul]
        exact Nat.pow_lt_pow_right (by decide) (by omega)
    refine J_aload_n 0 d_M_fetch_10 rfl rfl ?_
    refine J_aload_n 0 d_M_fetch_11 rfl rfl ?_
    refine gf_M_23 (by omega) hO rfl d_M_fetch_12 ?_
    refine J_iload_n 1 d_M_fetch_15 rfl rfl ?_
    refine J_daload 3 rfl (by omega) hRr (by omega) d_M_fetch_16 ?_
    refine J_topd (y := rr r) (congrArg (fun q => rr q) (by omega)) ?_
    refine J_topd (y := (fd false m e0)) (w3.trans f1) ?_
    refine J_iload_n 2 d_M_fetch_17 rfl rfl ?_
    refine J_iload_n 3 d_M_fetch_18 rfl rfl ?_
    refine J_callVv cw_M_114 nh_M_split pn_M_split rfl rfl (by omega) hO (As := [.double (fd false m e0), .int (iI (u : Int)), .int (iI (d : Int))]) (rest := []) rfl (Nat.le_of_ble_eq_true rfl) ⟨by decide, by decide⟩ rfl ⟨by decide, by decide⟩ d_M_fetch_19 (c_M_split hfl (u := u) (d := d) (m := m) (e0 := e0) (hh := hh) (ll := ll) (V := V) (br := br) hN hO hB hL hR hzz (by omega) (by omega) bru brd (by omega) f2 ⟨by omega, by omega⟩) (fun  F3 hq => ?_)
    obtain ⟨bh26, bl27, hR28, eF3⟩ := hq
    refine J_eqF (F2 := va_up (va_up F 99 (.inl (g 0, 858, .inl (aI bh26)))) 100 (.inl (g 0, 33, .inl (aI bl27)))) eF3 ?_
    refine J_goto (tgt := 43) d_M_fetch_22 (by decide) ?_
    refine J_pick (lv' := [(0, .ref (ad 98)), (1, .int (iI (r : Int)))]) [0, 1] rfl ?_
    exact lab43 bh26 bl27 (su m e0) (sd 1 e0) ⟨hU1, hU2, hU3⟩ ⟨fun e => absurd hk2 e, fun _ => ⟨_, Nat.one_mul _⟩⟩ hR28
