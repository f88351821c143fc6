/-! the Model: exponents and leading digits -/

theorem fd_dec {m n : Nat} {e f : Int} (h1 : exD m e) (h2 : exD n f) : (Jvm.FP.dcmp (fd false m e) (fd false n f) = some .eq ↔ su m e * sd 1 f = su n f * sd 1 e) := by
  obtain ⟨c1, c2, c3⟩ := fd_cmp h1 h2 (k := min e f) (by omega) (by omega)
  have key : su m e * sd 1 f = su n f * sd 1 e ↔ m * 2 ^ (e - min e f).toNat = n * 2 ^ (f - min e f).toNat := by
    unfold su sd
    have a1 : m * 2 ^ e.toNat * (1 * 2 ^ (-f).toNat) = m * 2 ^ (e - min e f).toNat * 2 ^ (e.toNat + (-f).toNat - (e - min e f).toNat) := by
      rw [Nat.one_mul, Nat.mul_assoc, Nat.mul_assoc, ← Nat.pow_add, ← Nat.pow_add]; congr 2; omega
    have a2 : n * 2 ^ f.toNat * (1 * 2 ^ (-e).toNat) = n * 2 ^ (f - min e f).toNat * 2 ^ (e.toNat + (-f).toNat - (e - min e f).toNat) := by
      rw [Nat.one_mul, Nat.mul_assoc, Nat.mul_assoc, ← Nat.pow_add, ← Nat.pow_add]; congr 2; omega
    rw [a1, a2]
    exact ⟨fun h => Nat.eq_of_mul_eq_mul_right (Nat.two_pow_pos _) h, fun h => by rw [h]⟩
  rw [key]
  constructor
  · intro h
    rcases Nat.lt_trichotomy (m * 2 ^ (e - min e f).toNat) (n * 2 ^ (f - min e f).toNat) with c | c | c
    · rw [c1 c] at h; exact absurd h (by decide)
    · exact c
    · rw [c3 c] at h; exact absurd h (by decide)
  · exact c2
theorem dcmp_eq {o : Option Ordering} : Op.cmpValue o .l = 0 ↔ o = some .eq := by
  cases o with
  | none => decide
  | some x => cases x <;> decide
/-- a register's real: the double, and what it is worth -/
theorem lead_real {s s' : Int} {u d : Nat} (h : near s u d = some (2, s', u, d)) (hd : 0 < d) (hu : 0 < u) : ∃ (m : Nat) (e0 : Int), fd false u (1 - (blen d : Int)) = fd false m e0 ∧ (4503599627370496 ≤ m ∧ m < 9007199254740992) ∧ (-152 ≤ e0 ∧ e0 ≤ 47) ∧ su m e0 * d = u * sd 1 e0 ∧ u = lowu (su m e0) (sd 1 e0) ∧ d = lowd (su m e0) (sd 1 e0) := by
  obtain ⟨h1, h2, m, e0, h3, h4, h5, h6, h7⟩ := real_ok h hd
  have hm : 4503599627370496 ≤ m ∧ m < 9007199254740992 := by
    rcases h4 with ⟨rfl, rfl⟩ | h4
    · rw [show su 0 0 = 0 from rfl, Nat.zero_mul] at h7
      have := Nat.mul_pos hu (sd_pos (show 0 < 1 by decide) 0)
      omega
    · exact h4
  have hlow := low_ratio (U := su m e0) (D := sd 1 e0) (sd_pos (by decide) _) hd h7
  have hcop := (near_self hd h).2
  obtain ⟨k1, k2⟩ := low_same hcop
  rw [k1, k2] at hlow
  have hne := (near_exact (s := s) hm.1 hm.2 (e := e0)).2.2
  have hnr : near s u d = near s (su m e0) (sd 1 e0) := near_ratio hd (sd_pos (by decide) _) h7.symm
  rw [hnr, hne] at h
  have hrng : -152 ≤ e0 ∧ e0 ≤ 47 := by
    apply Classical.byContradiction
    intro q
    rw [if_neg q] at h
    exact absurd h (by simp)
  exact ⟨m, e0, h3, hm, hrng, h7, hlow.1.symm, hlow.2.symm⟩
/-- equal as doubles, or not: leading -/
theorem lead_dc {u d m X Y : Nat} {e0 : Int} {z : UInt64} {b : Int} (hX : X ≠ 0) (hY : 0 < Y) (hm : 4503599627370496 ≤ m ∧ m < 9007199254740992) (he : -152 ≤ e0 ∧ e0 ≤ 47) (hu : u = lowu (su m e0) (sd 1 e0)) (hd : d = lowd (su m e0) (sd 1 e0))
    (h : (X ≠ 0 ∧ ¬ isR (nq X Y (ns X Y)) (-ns X Y) ∧ b = 1 ∧ z = fd false 0 0) ∨ (X = 0 ∧ b = 0 ∧ z = fd false 0 0) ∨ (X ≠ 0 ∧ isR (nq X Y (ns X Y)) (-ns X Y) ∧ b = 0 ∧ z = fd false (nq X Y (ns X Y)) (-ns X Y))) :
    (b = 0 ∧ Op.cmpValue (Jvm.FP.dcmp z (fd false m e0)) .l = 0) ↔ near 1 X Y = some (2, 1, u, d) := by
  obtain ⟨n1, n2⟩ := near_isR (s := 1) (show 0 < X by omega) hY
  rcases h with ⟨-, h2, rfl, rfl⟩ | ⟨h1, -⟩ | ⟨-, h2, rfl, rfl⟩
  · rw [n2 h2]
    exact ⟨fun w => absurd w.1 (by decide), fun w => absurd w (by simp)⟩
  · exact absurd h1 hX
  · rw [n1 h2, dcmp_eq]
    obtain ⟨q1, q2⟩ := nq_rng hY (ns_inR (show 0 < X by omega) hY)
    have hb : -500 ≤ -ns X Y ∧ -ns X Y ≤ 500 := by
      have b1 : blen (nq X Y (ns X Y)) ≤ 54 := blen_le.mpr (by omega)
      unfold isR at h2; omega
    rw [fd_dec ⟨q2, hb.1, hb.2⟩ ⟨by omega, by omega, by omega⟩]
    rw [← low_iff (sd_pos (by decide) _) (sd_pos (by decide) _)]
    rw [hu, hd]
    constructor
    · rintro ⟨-, w1, w2⟩
      rw [w1, w2]
    · intro w
      injection w with w; injection w with w1 w; injection w with w2 w; injection w with w3 w4
      exact ⟨rfl, w3, w4⟩
theorem u168 {u p k : Nat} (h : u < 2 ^ 168) (hp : p ≤ k) : u * 10 ^ p < 2 ^ 168 * 10 ^ k := Nat.mul_lt_mul_of_lt_of_le h (Nat.pow_le_pow_right (by decide) hp) (Nat.pow_pos (by decide))
theorem l168 {u p : Nat} (h : u < 2 ^ 168) (hp : p ≤ 100) : lnw 28 (u * 10 ^ p) ≤ 18 := (lnw_le (by decide)).mpr (Nat.lt_of_lt_of_le (u168 h hp) (by decide +kernel))
theorem b168 {u p : Nat} (h : u < 2 ^ 168) (hp : p ≤ 100) : blen (u * 10 ^ p) ≤ 504 := blen_le.mpr (Nat.lt_of_lt_of_le (u168 h hp) (by decide +kernel))
theorem tdiv_b {a : Int} (h : -5100000 ≤ a ∧ a ≤ 5100000) : -51 ≤ a.tdiv 100000 ∧ a.tdiv 100000 ≤ 51 := by
  by_cases c : 0 ≤ a
  · rw [Int.tdiv_eq_ediv_of_nonneg c]; omega
  · have : a.tdiv 100000 = -((-a).tdiv 100000) := by rw [Int.neg_tdiv]; omega
    rw [this, Int.tdiv_eq_ediv_of_nonneg (by omega)]; omega
theorem e10 {x p : Nat} (h : p = 0) : x = x * 10 ^ p := by rw [h, Nat.pow_zero, Nat.mul_one]
set_option maxRecDepth 100000 in
set_option maxHeartbeats 4000000 in
theorem c_M_nearest2 {l : Launch} (hfl : l.flags = flags0) {D : va_G} {g : Nat → ClassId} {ad : Nat → Nat} {N : Nat} {F : Nat → va_E} {hh ll f : Nat → Int} {v : UInt64} {V : Nat → Nat} {br : Nat → Nat} {u d X Y : Nat}
    (hN : 109 ≤ N) (hO : F 98 = oM ad f v) (hB : F 99 = aB g hh) (hL : F 100 = aL g ll) (hR : reg br hh ll V) (hzz : okB br) (hu : u < 24) (hd : d < 24) (bru : br u = 0) (brd : br d = 0) (hX : V u = X) (hY : V d = Y) (hY0 : 0 < Y) (hlX : lnw 28 X ≤ 18) (hlY : lnw 28 Y ≤ 18) (hbX : blen X ≤ 504) (hbY : blen Y ≤ 504) :
    JC l y_M_nearest b_M_nearest 10 (Option.some Jvm.ClassFile.FieldType.double) rm_M_nearest (0, 0) D jCl (jTys g) ad N F [.ref (ad 98), .int (iI (u : Int)), .int (iI (d : Int))] (jd ad N (fun z F' => ∃ (hh' ll' : Nat → Int) (W : Nat → Nat) (b : Int), reg br hh' ll' W ∧ (∀ k, ¬(24 ≤ k ∧ k ≤ 30 ∧ k ≠ 27 ∧ k ≠ 28) → W k = V k) ∧ ((X ≠ 0 ∧ ¬ isR (nq X Y (ns X Y)) (-ns X Y) ∧ b = 1 ∧ z = fd false 0 0) ∨ (X = 0 ∧ b = 0 ∧ z = fd false 0 0) ∨ (X ≠ 0 ∧ isR (nq X Y (ns X Y)) (-ns X Y) ∧ b = 0 ∧ z = fd false (nq X Y (ns X Y)) (-ns X Y))) ∧ F' = va_up (va_up (va_up F 98 (oM ad (va_up f 8 b) v)) 99 (aB g hh')) 100 (aL g ll'))) := by
  refine JC.go hfl (own := "NumberTowerModel") (lv := [(0, .ref (ad 98)), (1, .int (iI (u : Int))), (2, .int (iI (d : Int)))]) rfl (by decide +kernel) (Nat.le_of_ble_eq_true rfl) rfl (fun A => ?_)
  refine J_aload_n 0 d_M_nearest_0 rfl rfl ?_
  refine J_iconst d_M_nearest_1 ?_
  refine pf_M_94 (by omega) hO (Nat.le_of_ble_eq_true rfl) (nb01 (by omega)) d_M_nearest_2 ?_
  refine J_eqF (F2 := va_up F 98 (oM ad (va_up f 8 0) v)) rfl ?_
  refine J_aload_n 0 d_M_nearest_5 rfl rfl ?_
  refine J_iload_n 1 d_M_nearest_6 rfl rfl ?_
  refine J_callVi cw_M_75 nh_M_zero pn_M_zero rfl rfl (by omega) (by rw [va_up_self]) (As := [.int (iI (u : Int))]) (rest := []) rfl (Nat.le_of_ble_eq_true rfl) ⟨by decide, by decide⟩ rfl ⟨by decide, by decide⟩ d_M_nearest_7 (k_M_zero hfl (a := u) (hh := hh) (ll := ll) (V := V) (br := br) (hN := hN) (hO := (by rw [va_up_self])) (hB := (by rw [va_up_ne _ _ (by decide)]; exact hB)) (hL := (by rw [va_up_ne _ _ (by decide)]; exact hL)) (hR := hR) (ha := by omega) (hxa := hX) (bra := bru)) (fun z44 F15 hq => ?_)
  obtain ⟨hz44, eF15⟩ := hq
  refine J_eqF eF15 ?_
  refine J_ifeq (tgt := 15) d_M_nearest_10 (by decide) ⟨by omega, by omega⟩ (fun c10 => ?_) (fun c10 => ?_)
  · refine J_bipush d_M_nearest_15 (i8_ok (by decide)) ?_
    refine J_aload_n 0 d_M_nearest_17 rfl rfl ?_
    refine J_iload_n 1 d_M_nearest_18 rfl rfl ?_
    refine J_callVi cw_M_62 nh_M_bits pn_M_bits rfl rfl (by omega) (by rw [va_up_self]) (As := [.int (iI (u : Int))]) (rest := [.int (iI 53)]) rfl (Nat.le_of_ble_eq_true rfl) ⟨by decide, by decide⟩ rfl ⟨by decide, by decide⟩ d_M_nearest_19 (k_M_bits hfl (a := u) (hh := hh) (ll := ll) (V := V) (br := br) (hN := hN) (hO := (by rw [va_up_self])) (hB := (by rw [va_up_ne _ _ (by decide)]; exact hB)) (hL := (by rw [va_up_ne _ _ (by decide)]; exact hL)) (hR := hR) (ha := by omega) (hxa := hX) (bra := bru)) (fun z45 F16 hq => ?_)
    obtain ⟨hz45, eF16⟩ := hq
    refine J_eqF eF16 ?_
    refine J_topi (r := (((blen X : Nat)) : Int)) (congrArg iI hz45) ?_
    refine J_isub d_M_nearest_22 ?_
    refine J_aload_n 0 d_M_nearest_23 rfl rfl ?_
    refine J_iload_n 2 d_M_nearest_24 rfl rfl ?_
    refine J_callVi cw_M_62 nh_M_bits pn_M_bits rfl rfl (by omega) (by rw [va_up_self]) (As := [.int (iI (d : Int))]) (rest := [.int (iI (53 - (((blen X : Nat)) : Int)))]) rfl (Nat.le_of_ble_eq_true rfl) ⟨by decide, by decide⟩ rfl ⟨by decide, by decide⟩ d_M_nearest_25 (k_M_bits hfl (a := d) (hh := hh) (ll := ll) (V := V) (br := br) (hN := hN) (hO := (by rw [va_up_self])) (hB := (by rw [va_up_ne _ _ (by decide)]; exact hB)) (hL := (by rw [va_up_ne _ _ (by decide)]; exact hL)) (hR := hR) (ha := by omega) (hxa := hY) (bra := brd)) (fun z46 F17 hq => ?_)
    obtain ⟨hz46, eF17⟩ := hq
    refine J_eqF eF17 ?_
    refine J_topi (r := (((blen Y : Nat)) : Int)) (congrArg iI hz46) ?_
    refine J_iadd d_M_nearest_28 ?_
    obtain ⟨b0, hb0⟩ : ∃ b : Int, b = 53 + blen Y - blen X := ⟨_, rfl⟩
    have hX0 : X ≠ 0 := by omega
    have hns : ns X Y = if 9007199254740992 * sd Y b0 ≤ su X b0 then b0 - 1 else b0 := by
      unfold ns; rw [← hb0]; split <;> omega
    refine J_topi (r := b0) (congrArg iI (by omega)) ?_
    refine J_istore_n (lv' := [(3, .int (iI b0)), (0, .ref (ad 98)), (1, .int (iI (u : Int))), (2, .int (iI (d : Int)))]) d_M_nearest_29 rfl (by decide) rfl ?_
    refine J_aload_n 1 d_M_nearest_30 rfl rfl ?_
    have lab49 : ∀ (bb : Int) (hbb : (bb = 1 ∧ (160 < b0 ∨ b0 < -60)) ∨ (bb = 0 ∧ -60 ≤ b0 ∧ b0 ≤ 160)) , J l rm_M_nearest (0, 0) "NumberTowerModel" b_M_nearest 10 (Option.some Jvm.ClassFile.FieldType.double) D jCl (jTys g) A (fun _ me => me.name = y_M_nearest.name) (jd ad N (fun z F' => ∃ (hh' ll' : Nat → Int) (W : Nat → Nat) (b : Int), reg br hh' ll' W ∧ (∀ k, ¬(24 ≤ k ∧ k ≤ 30 ∧ k ≠ 27 ∧ k ≠ 28) → W k = V k) ∧ ((X ≠ 0 ∧ ¬ isR (nq X Y (ns X Y)) (-ns X Y) ∧ b = 1 ∧ z = fd false 0 0) ∨ (X = 0 ∧ b = 0 ∧ z = fd false 0 0) ∨ (X ≠ 0 ∧ isR (nq X Y (ns X Y)) (-ns X Y) ∧ b = 0 ∧ z = fd false (nq X Y (ns X Y)) (-ns X Y))) ∧ F' = va_up (va_up (va_up F 98 (oM ad (va_up f 8 b) v)) 99 (aB g hh')) 100 (aL g ll'))) ad N 0 0 49 [(0, .ref (ad 98)), (1, .int (iI (u : Int))), (2, .int (iI (d : Int))), (3, .int (iI b0))] [.int (iI bb), .ref (ad 98)] (va_up F 98 (oM ad (va_up f 8 0) v)) := by
      intro bb hbb
      refine pf_M_94 (by omega) (by rw [va_up_self]) (Nat.le_of_ble_eq_true rfl) (nb01 (by omega)) d_M_nearest_49 ?_
      refine J_eqF (F2 := va_up (va_up F 98 (oM ad (va_up f 8 0) v)) 98 (oM ad (va_up f 8 bb) v)) rfl ?_
      refine J_eqF (F2 := va_up F 98 (oM ad (va_up f 8 bb) v)) (up_in0) ?_
      refine J_aload_n 0 d_M_nearest_52 rfl rfl ?_
      refine gf_M_94 (by omega) (by rw [va_up_self]) rfl d_M_nearest_53 ?_
      refine J_topi (r := bb) (congrArg iI (va_up_self ..)) ?_
      refine J_ifeq (tgt := 61) d_M_nearest_56 (by decide) ⟨by omega, by omega⟩ (fun c56 => ?_) (fun c56 => ?_)
      · refine J_aload_n 0 d_M_nearest_61 rfl rfl ?_
        refine J_iload_n 1 d_M_nearest_62 rfl rfl ?_
        refine J_iload_n 2 d_M_nearest_63 rfl rfl ?_
        refine J_iload_n 3 d_M_nearest_64 rfl rfl ?_
        refine J_callVv cw_M_98 nh_M_quotient pn_M_quotient rfl rfl (by omega) (by rw [va_up_self]) (As := [.int (iI (u : Int)), .int (iI (d : Int)), .int (iI b0)]) (rest := []) rfl (Nat.le_of_ble_eq_true rfl) ⟨by decide, by decide⟩ rfl ⟨by decide, by decide⟩ d_M_nearest_65 (k_M_quotient hfl (u := u) (d := d) (s := b0) (hh := hh) (ll := ll) (V := V) (xu := X) (xd := Y) (hN := hN) (hO := (by rw [va_up_self])) (hB := (by rw [va_up_ne _ _ (by decide)]; exact hB)) (hL := (by rw [va_up_ne _ _ (by decide)]; exact hL)) (hR := hR) (hzz := hzz) (bru := bru) (brd := brd) (hu := by omega) (hd := by omega) (hu2 := by omega) (hd2 := by omega) (hs := by omega) (hd0 := by omega) (hlu := by omega) (hld := by omega) (hxu := hX) (hxd := hY)) (fun  F18 hq => ?_)
        obtain ⟨bh47, bl48, j49, hR50, eF18⟩ := hq
        refine J_eqF (F2 := va_up (va_up (va_up F 98 (oM ad (va_up f 8 bb) v)) 99 (.inl (g 0, 858, .inl (aI bh47)))) 100 (.inl (g 0, 33, .inl (aI bl48)))) eF18 ?_
        have hR51 := (congrArg (fun qq : Nat => reg _ _ _ (va_up (va_up (va_up (va_up (va_up V 29 qq) 30 (Y * 2 ^ (-b0).toNat)) 26 j49) 25 (X * 2 ^ (b0).toNat % (Y * 2 ^ (-b0).toNat))) 24 (X * 2 ^ (b0).toNat / (Y * 2 ^ (-b0).toNat)))) (show (X * 2 ^ (b0).toNat) = (su X b0) from rfl)).mp hR50
        have hR52 := (congrArg (fun qq : Nat => reg _ _ _ (va_up (va_up (va_up (va_up (va_up V 29 (su X b0)) 30 qq) 26 j49) 25 (X * 2 ^ (b0).toNat % (Y * 2 ^ (-b0).toNat))) 24 (X * 2 ^ (b0).toNat / (Y * 2 ^ (-b0).toNat)))) (show (Y * 2 ^ (-b0).toNat) = (sd Y b0) from rfl)).mp hR51
        have hR53 := (congrArg (fun qq : Nat => reg _ _ _ (va_up (va_up (va_up (va_up (va_up V 29 (su X b0)) 30 (sd Y b0)) 26 j49) 25 qq) 24 (X * 2 ^ (b0).toNat / (Y * 2 ^ (-b0).toNat)))) (show (X * 2 ^ (b0).toNat % (Y * 2 ^ (-b0).toNat)) = (su X b0 % sd Y b0) from rfl)).mp hR52
        have hR54 := (congrArg (fun qq : Nat => reg _ _ _ (va_up (va_up (va_up (va_up (va_up V 29 (su X b0)) 30 (sd Y b0)) 26 j49) 25 (su X b0 % sd Y b0)) 24 qq)) (show (X * 2 ^ (b0).toNat / (Y * 2 ^ (-b0).toNat)) = (su X b0 / sd Y b0) from rfl)).mp hR53
        have hsp := sd_pos hY0 b0
        have hq0 : blen (su X b0 / sd Y b0) ≤ 53 ↔ ¬ 9007199254740992 * sd Y b0 ≤ su X b0 := by
          rw [blen_le, Nat.div_lt_iff_lt_mul hsp]; omega
        have hq54 : blen (su X b0 / sd Y b0) ≤ 54 := by
          rw [blen_le, Nat.div_lt_iff_lt_mul hsp]
          have h := (s_rng (U := X) (D := Y) (by omega) hY0).2
          rw [← hb0] at h
          exact h
        refine J_aload_n 0 d_M_nearest_68 rfl rfl ?_
        refine J_bipush d_M_nearest_69 (i8_ok (by decide)) ?_
        refine J_callVi cw_M_62 nh_M_bits pn_M_bits rfl rfl (by omega) (by rw [va_up_ne _ _ (by decide), va_up_ne _ _ (by decide), va_up_self]) (As := [.int (iI 24)]) (rest := []) rfl (Nat.le_of_ble_eq_true rfl) ⟨by decide, by decide⟩ rfl ⟨by decide, by decide⟩ d_M_nearest_71 (k_M_bits hfl (a := 24) (hh := bh47) (ll := bl48) (V := va_up (va_up (va_up (va_up (va_up V 29 (su X b0)) 30 (sd Y b0)) 26 j49) 25 (su X b0 % sd Y b0)) 24 (su X b0 / sd Y b0)) (br := br) (hN := hN) (hO := (by rw [va_up_ne _ _ (by decide), va_up_ne _ _ (by decide), va_up_self])) (hB := (by rw [va_up_ne _ _ (by decide), va_up_self])) (hL := (by rw [va_up_self])) (hR := hR54) (ha := by omega) (hxa := (va_up_self ..)) (bra := (hzz.2 24 (by decide) (by decide)))) (fun z55 F19 hq => ?_)
        obtain ⟨hz55, eF19⟩ := hq
        refine J_eqF eF19 ?_
        refine J_topi (r := (((blen (su X b0 / sd Y b0) : Nat)) : Int)) (congrArg iI hz55) ?_
        refine J_bipush d_M_nearest_74 (i8_ok (by decide)) ?_
        refine J_if_icmple (tgt := 89) d_M_nearest_76 (by decide) ⟨by omega, by omega⟩ ⟨by omega, by omega⟩ (fun c76 => ?_) (fun c76 => ?_)
        · refine J_pick (lv' := [(0, .ref (ad 98)), (3, .int (iI b0))]) [0, 3] rfl ?_
          have lab89 : ∀ (n : Int) (j3 : Nat) (w29 : Nat) (e1 : Nat → Int) (e2 : Nat → Int) (hn : n = ns X Y) (hRL89 : reg br e1 e2 (va_up (va_up (va_up (va_up (va_up V 29 w29) 30 (sd Y n)) 26 j3) 25 (su X n % sd Y n)) 24 (su X n / sd Y n))) , J l rm_M_nearest (0, 0) "NumberTowerModel" b_M_nearest 10 (Option.some Jvm.ClassFile.FieldType.double) D jCl (jTys g) A (fun _ me => me.name = y_M_nearest.name) (jd ad N (fun z F' => ∃ (hh' ll' : Nat → Int) (W : Nat → Nat) (b : Int), reg br hh' ll' W ∧ (∀ k, ¬(24 ≤ k ∧ k ≤ 30 ∧ k ≠ 27 ∧ k ≠ 28) → W k = V k) ∧ ((X ≠ 0 ∧ ¬ isR (nq X Y (ns X Y)) (-ns X Y) ∧ b = 1 ∧ z = fd false 0 0) ∨ (X = 0 ∧ b = 0 ∧ z = fd false 0 0) ∨ (X ≠ 0 ∧ isR (nq X Y (ns X Y)) (-ns X Y) ∧ b = 0 ∧ z = fd false (nq X Y (ns X Y)) (-ns X Y))) ∧ F' = va_up (va_up (va_up F 98 (oM ad (va_up f 8 b) v)) 99 (aB g hh')) 100 (aL g ll'))) ad N 0 0 89 [(0, .ref (ad 98)), (3, .int (iI n))] [] (va_up (va_up (va_up F 98 (oM ad (va_up f 8 bb) v)) 99 (.inl (g 0, 858, .inl (aI e1)))) 100 (.inl (g 0, 33, .inl (aI e2)))) := by
            intro n j3 w29 e1 e2 hn hRL89
            have hnb : b0 - 1 ≤ n ∧ n ≤ b0 := by rw [hn, hns]; split <;> omega
            obtain ⟨i1, i2⟩ := ns_inR (Nat.pos_of_ne_zero hX0) hY0
            rw [← hn] at i1 i2
            have hsp := sd_pos hY0 n
            obtain ⟨q1, q2⟩ := nq_rng hY0 (ns_inR (Nat.pos_of_ne_zero hX0) hY0)
            have hqb : su X n / sd Y n < 9007199254740992 := by rw [Nat.div_lt_iff_lt_mul hsp]; exact i2
            have hrb := Nat.mod_lt (su X n) hsp
            have hsl : lnw 28 (sd Y n) ≤ 25 := by
              unfold sd
              exact Nat.le_trans lnw_up8 (by omega)
            have hrl : lnw 28 (su X n % sd Y n) ≤ 25 := Nat.le_trans (lnw_mono8 (Nat.le_of_lt hrb)) hsl
            have hc1 := cmpN_gt (a := su X n % sd Y n * 2 ^ 1) (b := sd Y n)
            have hc2 := cmpN_0 (a := su X n % sd Y n * 2 ^ 1) (b := sd Y n)
            have hc3 := cmpN_rng (su X n % sd Y n * 2 ^ 1) (sd Y n)
            have hnq := nq_rnd (X := X) (Y := Y) (n := n)
            have hq53 : exD (nq X Y (ns X Y)) 0 := ⟨q2, by decide, by decide⟩
            refine J_aload_n 0 d_M_nearest_89 rfl rfl ?_
            refine J_bipush d_M_nearest_90 (i8_ok (by decide)) ?_
            refine J_callVl cw_M_101 nh_M_low pn_M_low rfl rfl (by omega) (by rw [va_up_ne _ _ (by decide), va_up_ne _ _ (by decide), va_up_self]) (As := [.int (iI 24)]) (rest := []) rfl (Nat.le_of_ble_eq_true rfl) ⟨by decide, by decide⟩ rfl ⟨by decide, by decide⟩ d_M_nearest_92 (k_M_low hfl (a := 24) (hh := e1) (ll := e2) (V := va_up (va_up (va_up (va_up (va_up V 29 w29) 30 (sd Y n)) 26 j3) 25 (su X n % sd Y n)) 24 (su X n / sd Y n)) (br := br) (hN := hN) (hO := (by rw [va_up_ne _ _ (by decide), va_up_ne _ _ (by decide), va_up_self])) (hB := (by rw [va_up_ne _ _ (by decide), va_up_self])) (hL := (by rw [va_up_self])) (hR := hRL89) (ha := by omega) (hxa := (va_up_self ..)) (bra := (hzz.2 24 (by decide) (by decide)))) (fun z56 F20 hq => ?_)
            obtain ⟨hz56, eF20⟩ := hq
            refine J_eqF eF20 ?_
            refine J_topl (r := (((su X n / sd Y n) % 18446744073709551616 : Nat) : Int)) (congrArg lI hz56) ?_
            refine J_topl (r := ((su X n / sd Y n : Nat) : Int)) (congrArg lI (by rw [Nat.mod_eq_of_lt (Nat.lt_trans hqb (by decide))])) ?_
            refine J_lstore (lv' := [(4, .long (lI ((su X n / sd Y n : Nat) : Int))), (0, .ref (ad 98)), (3, .int (iI n))]) d_M_nearest_95 (by decide) rfl ?_
            refine J_aload_n 1 d_M_nearest_97 rfl rfl ?_
            refine J_bipush d_M_nearest_98 (i8_ok (by decide)) ?_
            refine J_iconst d_M_nearest_100 ?_
            refine J_callVv cw_M_66 nh_M_up pn_M_up rfl rfl (by omega) (by rw [va_up_ne _ _ (by decide), va_up_ne _ _ (by decide), va_up_self]) (As := [.int (iI 25), .int (iI 1)]) (rest := []) rfl (Nat.le_of_ble_eq_true rfl) ⟨by decide, by decide⟩ rfl ⟨by decide, by decide⟩ d_M_nearest_101 (k_M_up hfl (a := 25) (n := 1) (hh := e1) (ll := e2) (V := va_up (va_up (va_up (va_up (va_up V 29 w29) 30 (sd Y n)) 26 j3) 25 (su X n % sd Y n)) 24 (su X n / sd Y n)) (br := br) (hN := hN) (hO := (by rw [va_up_ne _ _ (by decide), va_up_ne _ _ (by decide), va_up_self])) (hB := (by rw [va_up_ne _ _ (by decide), va_up_self])) (hL := (by rw [va_up_self])) (hR := hRL89) (ha := by omega) (hxa := ((va_up_ne _ _ (by decide)).trans (va_up_self ..))) (bra := (hzz.2 25 (by decide) (by decide))) (hn := by omega) (hT := Or.inr (by omega))) (fun  F21 hq => ?_)
            obtain ⟨bh57, bl58, hR59, eF21⟩ := hq
            refine J_eqF (F2 := va_up (va_up (va_up F 98 (oM ad (va_up f 8 bb) v)) 99 (.inl (g 0, 858, .inl (aI bh57)))) 100 (.inl (g 0, 33, .inl (aI bl58)))) (eF21.trans (Eq.trans (congrArg (fun q : Nat → va_E => va_up q 100 (.inl (g 0, 33, .inl (aI bl58)))) (up_in1 (by decide))) (up_in0))) ?_
            have hR62 := reg_w1 (hzz.1 _) hR59
            have hR63 := (congrArg (fun qq : Nat → Nat => reg _ _ _ (qq)) (up_in1 (by decide))).mp hR62
            refine J_aload_n 1 d_M_nearest_104 rfl rfl ?_
            refine J_bipush d_M_nearest_105 (i8_ok (by decide)) ?_
            refine J_bipush d_M_nearest_107 (i8_ok (by decide)) ?_
            refine J_callVi cw_M_105 nh_M_order pn_M_order rfl rfl (by omega) (by rw [va_up_ne _ _ (by decide), va_up_ne _ _ (by decide), va_up_self]) (As := [.int (iI 25), .int (iI 30)]) (rest := []) rfl (Nat.le_of_ble_eq_true rfl) ⟨by decide, by decide⟩ rfl ⟨by decide, by decide⟩ d_M_nearest_109 (k_M_order hfl (a := 25) (b := 30) (hh := bh57) (ll := bl58) (V := va_up (va_up (va_up (va_up (va_up V 29 w29) 30 (sd Y n)) 26 j3) 25 ((su X n % sd Y n) * 2 ^ 1)) 24 (su X n / sd Y n)) (br := br) (hN := hN) (hO := (by rw [va_up_ne _ _ (by decide), va_up_ne _ _ (by decide), va_up_self])) (hB := (by rw [va_up_ne _ _ (by decide), va_up_self])) (hL := (by rw [va_up_self])) (hR := hR63) (ha := by omega) (hb := by omega) (hxa := ((va_up_ne _ _ (by decide)).trans (va_up_self ..))) (bra := (hzz.2 25 (by decide) (by decide))) (hxb := ((va_up_ne _ _ (by decide)).trans ((va_up_ne _ _ (by decide)).trans ((va_up_ne _ _ (by decide)).trans (va_up_self ..))))) (brb := (hzz.2 30 (by decide) (by decide)))) (fun z64 F22 hq => ?_)
            obtain ⟨hz64, eF22⟩ := hq
            refine J_eqF eF22 ?_
            refine J_topi (r := cmpN ((su X n % sd Y n) * 2 ^ 1) (sd Y n)) (congrArg iI hz64) ?_
            refine J_istore (lv' := [(6, .int (iI (cmpN ((su X n % sd Y n) * 2 ^ 1) (sd Y n)))), (4, .long (lI ((su X n / sd Y n : Nat) : Int))), (0, .ref (ad 98)), (3, .int (iI n))]) d_M_nearest_112 (by decide) rfl ?_
            have lab139 : ∀ (qq : Nat) (hqq : qq = nq X Y n) , J l rm_M_nearest (0, 0) "NumberTowerModel" b_M_nearest 10 (Option.some Jvm.ClassFile.FieldType.double) D jCl (jTys g) A (fun _ me => me.name = y_M_nearest.name) (jd ad N (fun z F' => ∃ (hh' ll' : Nat → Int) (W : Nat → Nat) (b : Int), reg br hh' ll' W ∧ (∀ k, ¬(24 ≤ k ∧ k ≤ 30 ∧ k ≠ 27 ∧ k ≠ 28) → W k = V k) ∧ ((X ≠ 0 ∧ ¬ isR (nq X Y (ns X Y)) (-ns X Y) ∧ b = 1 ∧ z = fd false 0 0) ∨ (X = 0 ∧ b = 0 ∧ z = fd false 0 0) ∨ (X ≠ 0 ∧ isR (nq X Y (ns X Y)) (-ns X Y) ∧ b = 0 ∧ z = fd false (nq X Y (ns X Y)) (-ns X Y))) ∧ F' = va_up (va_up (va_up F 98 (oM ad (va_up f 8 b) v)) 99 (aB g hh')) 100 (aL g ll'))) ad N 0 0 139 [(0, .ref (ad 98)), (3, .int (iI n)), (4, .long (lI (qq : Int)))] [] (va_up (va_up (va_up F 98 (oM ad (va_up f 8 bb) v)) 99 (.inl (g 0, 858, .inl (aI bh57)))) 100 (.inl (g 0, 33, .inl (aI bl58)))) := by
              intro qq hqq
              have hqb2 : qq ≤ 9007199254740992 := by rw [hqq, hn]; exact q2
              refine J_lload 2 d_M_nearest_139 rfl ?_
              refine J_l2d d_M_nearest_141 ?_
              refine J_topd (y := (fd false qq (-0))) (by rw [show Jvm.FP.l2d (lI (qq : Int)) = _ from fd_l2d (by omega)]; rfl) ?_
              refine J_dstore (lv' := [(7, .double (fd false qq (-0))), (0, .ref (ad 98)), (3, .int (iI n)), (4, .long (lI (qq : Int)))]) d_M_nearest_142 (by decide) rfl ?_
              refine J_iconst d_M_nearest_144 ?_
              refine J_istore (lv' := [(9, .int (iI 0)), (7, .double (fd false qq (-0))), (0, .ref (ad 98)), (3, .int (iI n)), (4, .long (lI (qq : Int)))]) d_M_nearest_145 (by decide) rfl ?_
              refine J_pick (lv' := [(0, .ref (ad 98)), (3, .int (iI n)), (7, .double (fd false qq (-0))), (9, .int (iI 0))]) [2, 3, 1, 0] rfl ?_
              have loop147 : ∀ (fuel : Nat) (k : Int) (hk : 0 ≤ k ∧ (k = 0 ∨ k ≤ n)) (hfu : (n - k).toNat < fuel), J l rm_M_nearest (0, 0) "NumberTowerModel" b_M_nearest 10 (Option.some Jvm.ClassFile.FieldType.double) D jCl (jTys g) A (fun _ me => me.name = y_M_nearest.name) (jd ad N (fun z F' => ∃ (hh' ll' : Nat → Int) (W : Nat → Nat) (b : Int), reg br hh' ll' W ∧ (∀ k, ¬(24 ≤ k ∧ k ≤ 30 ∧ k ≠ 27 ∧ k ≠ 28) → W k = V k) ∧ ((X ≠ 0 ∧ ¬ isR (nq X Y (ns X Y)) (-ns X Y) ∧ b = 1 ∧ z = fd false 0 0) ∨ (X = 0 ∧ b = 0 ∧ z = fd false 0 0) ∨ (X ≠ 0 ∧ isR (nq X Y (ns X Y)) (-ns X Y) ∧ b = 0 ∧ z = fd false (nq X Y (ns X Y)) (-ns X Y))) ∧ F' = va_up (va_up (va_up F 98 (oM ad (va_up f 8 b) v)) 99 (aB g hh')) 100 (aL g ll'))) ad N 0 0 147 [(0, .ref (ad 98)), (3, .int (iI n)), (7, .double (fd false qq (-k))), (9, .int (iI k))] [] (va_up (va_up (va_up F 98 (oM ad (va_up f 8 bb) v)) 99 (.inl (g 0, 858, .inl (aI bh57)))) 100 (.inl (g 0, 33, .inl (aI bl58)))) := by
                intro fuel
                induction fuel with
                | zero => intro k hk hfu; exact absurd hfu (Nat.not_lt_zero _)
                | succ fuel ih =>
                  intro k hk hfu
                  refine J_iload 3 d_M_nearest_147 rfl ?_
                  refine J_iload_n 1 d_M_nearest_149 rfl rfl ?_
                  refine J_if_icmpge (tgt := 167) d_M_nearest_150 (by decide) ⟨by omega, by omega⟩ ⟨by omega, by omega⟩ (fun c150 => ?_) (fun c150 => ?_)
                  · obtain ⟨p, hp⟩ : ∃ p : Int, p = k := ⟨_, rfl⟩
                    refine J_iconst d_M_nearest_167 ?_
                    refine J_istore (lv' := [(9, .int (iI 0)), (0, .ref (ad 98)), (3, .int (iI n)), (7, .double (fd false qq (-k)))]) d_M_nearest_168 (by decide) rfl ?_
                    refine J_pick (lv' := [(0, .ref (ad 98)), (3, .int (iI n)), (7, .double (fd false qq (-k))), (9, .int (iI 0))]) [1, 2, 3, 0] rfl ?_
                    have loop170 : ∀ (fuel : Nat) (k : Int) (dv : UInt64) (hk2 : k ≤ 0 ∧ (k = 0 ∨ n ≤ k)) (hdv : dv = fd false qq (-p - k)) (hfu : (k - n).toNat < fuel), J l rm_M_nearest (0, 0) "NumberTowerModel" b_M_nearest 10 (Option.some Jvm.ClassFile.FieldType.double) D jCl (jTys g) A (fun _ me => me.name = y_M_nearest.name) (jd ad N (fun z F' => ∃ (hh' ll' : Nat → Int) (W : Nat → Nat) (b : Int), reg br hh' ll' W ∧ (∀ k, ¬(24 ≤ k ∧ k ≤ 30 ∧ k ≠ 27 ∧ k ≠ 28) → W k = V k) ∧ ((X ≠ 0 ∧ ¬ isR (nq X Y (ns X Y)) (-ns X Y) ∧ b = 1 ∧ z = fd false 0 0) ∨ (X = 0 ∧ b = 0 ∧ z = fd false 0 0) ∨ (X ≠ 0 ∧ isR (nq X Y (ns X Y)) (-ns X Y) ∧ b = 0 ∧ z = fd false (nq X Y (ns X Y)) (-ns X Y))) ∧ F' = va_up (va_up (va_up F 98 (oM ad (va_up f 8 b) v)) 99 (aB g hh')) 100 (aL g ll'))) ad N 0 0 170 [(0, .ref (ad 98)), (3, .int (iI n)), (7, .double dv), (9, .int (iI k))] [] (va_up (va_up (va_up F 98 (oM ad (va_up f 8 bb) v)) 99 (.inl (g 0, 858, .inl (aI bh57)))) 100 (.inl (g 0, 33, .inl (aI bl58)))) := by
                      intro fuel
                      induction fuel with
                      | zero => intro k dv hk2 hdv hfu; exact absurd hfu (Nat.not_lt_zero _)
                      | succ fuel ih =>
                        intro k dv hk2 hdv hfu
                        refine J_iload 3 d_M_nearest_170 rfl ?_
                        refine J_iload_n 1 d_M_nearest_172 rfl rfl ?_
                        refine J_if_icmple (tgt := 190) d_M_nearest_173 (by decide) ⟨by omega, by omega⟩ ⟨by omega, by omega⟩ (fun c173 => ?_) (fun c173 => ?_)
                        · have hpk : -p - k = -n := by omega
                          have hqe : qq = nq X Y (ns X Y) := by rw [hqq, hn]
                          have hfv : fd false qq (-p - k) = fd false (nq X Y (ns X Y)) (-ns X Y) := by rw [hpk, hqe, hn]
                          refine J_aload_n 0 d_M_nearest_190 rfl rfl ?_
                          have lab204 : ∀ (b2 : Int) (hb2 : (b2 = 0 ∧ isR (nq X Y (ns X Y)) (-ns X Y)) ∨ (b2 = 1 ∧ ¬ isR (nq X Y (ns X Y)) (-ns X Y))) , J l rm_M_nearest (0, 0) "NumberTowerModel" b_M_nearest 10 (Option.some Jvm.ClassFile.FieldType.double) D jCl (jTys g) A (fun _ me => me.name = y_M_nearest.name) (jd ad N (fun z F' => ∃ (hh' ll' : Nat → Int) (W : Nat → Nat) (b : Int), reg br hh' ll' W ∧ (∀ k, ¬(24 ≤ k ∧ k ≤ 30 ∧ k ≠ 27 ∧ k ≠ 28) → W k = V k) ∧ ((X ≠ 0 ∧ ¬ isR (nq X Y (ns X Y)) (-ns X Y) ∧ b = 1 ∧ z = fd false 0 0) ∨ (X = 0 ∧ b = 0 ∧ z = fd false 0 0) ∨ (X ≠ 0 ∧ isR (nq X Y (ns X Y)) (-ns X Y) ∧ b = 0 ∧ z = fd false (nq X Y (ns X Y)) (-ns X Y))) ∧ F' = va_up (va_up (va_up F 98 (oM ad (va_up f 8 b) v)) 99 (aB g hh')) 100 (aL g ll'))) ad N 0 0 204 [(0, .ref (ad 98)), (7, .double dv)] [.int (iI b2), .ref (ad 98)] (va_up (va_up (va_up F 98 (oM ad (va_up f 8 bb) v)) 99 (.inl (g 0, 858, .inl (aI bh57)))) 100 (.inl (g 0, 33, .inl (aI bl58)))) := by
                            intro b2 hb2
                            refine pf_M_94 (by omega) (by rw [va_up_ne _ _ (by decide), va_up_ne _ _ (by decide), va_up_self]) (Nat.le_of_ble_eq_true rfl) (nb01 (by omega)) d_M_nearest_204 ?_
                            refine J_eqF (F2 := va_up (va_up (va_up (va_up F 98 (oM ad (va_up f 8 bb) v)) 99 (.inl (g 0, 858, .inl (aI bh57)))) 100 (.inl (g 0, 33, .inl (aI bl58)))) 98 (oM ad (va_up f 8 b2) v)) rfl ?_
                            refine J_eqF (F2 := va_up (va_up (va_up F 98 (oM ad (va_up f 8 b2) v)) 99 (.inl (g 0, 858, .inl (aI bh57)))) 100 (.inl (g 0, 33, .inl (aI bl58)))) (up_in2 (by decide) (by decide)) ?_
                            refine J_aload_n 0 d_M_nearest_207 rfl rfl ?_
                            refine gf_M_94 (by omega) (by rw [va_up_ne _ _ (by decide), va_up_ne _ _ (by decide), va_up_self]) rfl d_M_nearest_208 ?_
                            refine J_topi (r := b2) (congrArg iI (va_up_self ..)) ?_
                            refine J_ifeq (tgt := 218) d_M_nearest_211 (by decide) ⟨by omega, by omega⟩ (fun c211 => ?_) (fun c211 => ?_)
                            · refine J_dload 1 d_M_nearest_218 rfl ?_
                              refine J_dret rfl d_M_nearest_220 ⟨by decide, by decide⟩ ?_
                              exact ⟨_, rfl, rfl, rfl, _, _, _, b2, hR63, fun k hk => by rw [va_up_ne _ _ (by omega), va_up_ne _ _ (by omega), va_up_ne _ _ (by omega), va_up_ne _ _ (by omega), va_up_ne _ _ (by omega)], Or.inr (Or.inr ⟨by omega, by rcases hb2 with ⟨w1, w2⟩ | ⟨w1, w2⟩; exact w2; omega, by omega, hdv.trans hfv⟩), rfl⟩
                            · refine J_dconst0 d_M_nearest_214 ?_
                              refine J_goto (tgt := 220) d_M_nearest_215 (by decide) ?_
                              refine J_dret rfl d_M_nearest_220 ⟨by decide, by decide⟩ ?_
                              exact ⟨_, rfl, rfl, rfl, _, _, _, b2, hR63, fun k hk => by rw [va_up_ne _ _ (by omega), va_up_ne _ _ (by omega), va_up_ne _ _ (by omega), va_up_ne _ _ (by omega), va_up_ne _ _ (by omega)], Or.inl ⟨by omega, by rcases hb2 with ⟨w1, w2⟩ | ⟨w1, w2⟩; omega; exact w2, by omega, c_d0⟩, rfl⟩
                          refine J_dload 2 d_M_nearest_191 rfl ?_
                          refine J_topd (y := (fd false (nq X Y (ns X Y)) (-ns X Y))) (hdv.trans hfv) ?_
                          refine J_callSi cw_M_108 nh_M_isReal pn_M_isReal rfl (As := [.double (fd false (nq X Y (ns X Y)) (-ns X Y))]) (rest := [.ref (ad 98)]) rfl (Nat.le_of_ble_eq_true rfl) ⟨by decide, by decide⟩ rfl ⟨by decide, by decide⟩ d_M_nearest_193 (c_M_isReal hfl (q := nq X Y (ns X Y)) (e := -ns X Y) ⟨by omega, by omega, by omega⟩ ⟨by omega, by omega⟩) (fun ir F23 hq => ?_)
                          obtain ⟨hir, eF23⟩ := hq
                          refine J_eqF eF23 ?_
                          refine J_ifne (tgt := 203) d_M_nearest_196 (by decide) ⟨by omega, by omega⟩ (fun c196 => ?_) (fun c196 => ?_)
                          · refine J_iconst d_M_nearest_203 ?_
                            refine J_pick (lv' := [(0, .ref (ad 98)), (7, .double dv)]) [0, 2] rfl ?_
                            exact lab204 (0 : Int) (by rcases hir with ⟨w1, w2⟩ | ⟨w1, w2⟩ <;> first | exact Or.inl ⟨rfl, w2⟩ | exact Or.inr ⟨rfl, w2⟩ | omega)
                          · refine J_iconst d_M_nearest_199 ?_
                            refine J_goto (tgt := 204) d_M_nearest_200 (by decide) ?_
                            refine J_pick (lv' := [(0, .ref (ad 98)), (7, .double dv)]) [0, 2] rfl ?_
                            exact lab204 (1 : Int) (by rcases hir with ⟨w1, w2⟩ | ⟨w1, w2⟩ <;> first | exact Or.inl ⟨rfl, w2⟩ | exact Or.inr ⟨rfl, w2⟩ | omega)
                        · refine J_dload 2 d_M_nearest_176 rfl ?_
                          refine J_topd (y := (fd false qq (-p - k))) hdv ?_
                          refine J_ldc2d d_M_nearest_178 wd_1156 ?_
                          refine J_topd (y := (fd false 1 1)) c_two ?_
                          refine J_dmul (r := (fd false qq (-p - k + 1))) d_M_nearest_181 (fd_two ⟨by omega, by omega, by omega⟩) (fd_n64 _ _ _) ?_
                          refine J_topd (y := (fd false qq (-p - (k - 1)))) (by rw [show -p - (k - 1) = -p - k + 1 by omega]) ?_
                          refine J_dstore (lv' := [(7, .double (fd false qq (-p - (k - 1)))), (0, .ref (ad 98)), (3, .int (iI n)), (9, .int (iI k))]) d_M_nearest_182 (by decide) rfl ?_
                          refine J_iinc (j := 3) (b := k - 1) (lv' := [(9, .int (iI (k - 1))), (7, .double (fd false qq (-p - (k - 1)))), (0, .ref (ad 98)), (3, .int (iI n))]) d_M_nearest_184 rfl (by omega) (by decide) rfl ?_
                          refine J_goto (tgt := 170) d_M_nearest_187 (by decide) ?_
                          refine J_pick (lv' := [(0, .ref (ad 98)), (3, .int (iI n)), (7, .double (fd false qq (-p - (k - 1)))), (9, .int (iI (k - 1)))]) [2, 3, 1, 0] rfl ?_
                          exact ih (k - 1) (fd false qq (-p - (k - 1))) (by omega) rfl (by omega)
                    exact loop170 ((((0 : Int) - n).toNat) + 1) (0 : Int) (fd false qq (-k)) (by omega) (by rw [hp, Int.sub_zero]) (Nat.lt_succ_self _)
                  · refine J_dload 2 d_M_nearest_153 rfl ?_
                    refine J_ldc2d d_M_nearest_155 wd_1155 ?_
                    refine J_topd (y := (fd false 1 (-1))) c_half ?_
                    refine J_dmul (r := (fd false qq (-k - 1))) d_M_nearest_158 (fd_half ⟨by omega, by omega, by omega⟩) (fd_n64 _ _ _) ?_
                    refine J_topd (y := (fd false qq (-(k + 1)))) (by rw [show -(k + 1) = -k - 1 by omega]) ?_
                    refine J_dstore (lv' := [(7, .double (fd false qq (-(k + 1)))), (0, .ref (ad 98)), (3, .int (iI n)), (9, .int (iI k))]) d_M_nearest_159 (by decide) rfl ?_
                    refine J_iinc (j := 3) (b := k + 1) (lv' := [(9, .int (iI (k + 1))), (7, .double (fd false qq (-(k + 1)))), (0, .ref (ad 98)), (3, .int (iI n))]) d_M_nearest_161 rfl (by omega) (by decide) rfl ?_
                    refine J_goto (tgt := 147) d_M_nearest_164 (by decide) ?_
                    refine J_pick (lv' := [(0, .ref (ad 98)), (3, .int (iI n)), (7, .double (fd false qq (-(k + 1)))), (9, .int (iI (k + 1)))]) [2, 3, 1, 0] rfl ?_
                    exact ih (k + 1) (by omega) (by omega)
              exact loop147 (((n - (0 : Int)).toNat) + 1) (0 : Int) (by omega) (Nat.lt_succ_self _)
            refine J_iload 0 d_M_nearest_114 rfl ?_
            refine J_ifgt (tgt := 133) d_M_nearest_116 (by decide) ⟨by omega, by omega⟩ (fun c116 => ?_) (fun c116 => ?_)
            · refine J_lload 1 d_M_nearest_133 rfl ?_
              refine J_lconst (v := 1) d_M_nearest_135 rfl ?_
              refine J_ladd d_M_nearest_136 ?_
              refine J_topl (r := ((su X n / sd Y n + 1 : Nat) : Int)) (congrArg lI (by omega)) ?_
              refine J_lstore (lv' := [(4, .long (lI ((su X n / sd Y n + 1 : Nat) : Int))), (6, .int (iI (cmpN ((su X n % sd Y n) * 2 ^ 1) (sd Y n)))), (0, .ref (ad 98)), (3, .int (iI n))]) d_M_nearest_137 (by decide) rfl ?_
              refine J_pick (lv' := [(0, .ref (ad 98)), (3, .int (iI n)), (4, .long (lI ((su X n / sd Y n + 1 : Nat) : Int)))]) [2, 3, 0] rfl ?_
              exact lab139 (su X n / sd Y n + 1) (by rw [hnq]; first | rw [if_pos (by omega)] | rw [if_neg (by omega)])
            · refine J_iload 0 d_M_nearest_119 rfl ?_
              refine J_ifne (tgt := 139) d_M_nearest_121 (by decide) ⟨by omega, by omega⟩ (fun c121 => ?_) (fun c121 => ?_)
              · refine J_pick (lv' := [(0, .ref (ad 98)), (3, .int (iI n)), (4, .long (lI ((su X n / sd Y n : Nat) : Int)))]) [2, 3, 1] rfl ?_
                exact lab139 (su X n / sd Y n) (by rw [hnq]; first | rw [if_pos (by omega)] | rw [if_neg (by omega)])
              · refine J_lload 1 d_M_nearest_124 rfl ?_
                refine J_lconst (v := 1) d_M_nearest_126 rfl ?_
                refine J_land (r := (((su X n / sd Y n) % 2 : Nat) : Int)) d_M_nearest_127 (lI_andn 1 (by decide)) ?_
                refine J_lconst (v := 1) d_M_nearest_128 rfl ?_
                refine J_lcmpne (tgt := 139) d_M_nearest_129 d_M_nearest_130 (by decide) ⟨by omega, by omega⟩ ⟨by omega, by omega⟩ (fun c129 => ?_) (fun c129 => ?_)
                · refine J_pick (lv' := [(0, .ref (ad 98)), (3, .int (iI n)), (4, .long (lI ((su X n / sd Y n : Nat) : Int)))]) [2, 3, 1] rfl ?_
                  exact lab139 (su X n / sd Y n) (by rw [hnq]; first | rw [if_pos (by omega)] | rw [if_neg (by omega)])
                · refine J_lload 1 d_M_nearest_133 rfl ?_
                  refine J_lconst (v := 1) d_M_nearest_135 rfl ?_
                  refine J_ladd d_M_nearest_136 ?_
                  refine J_topl (r := ((su X n / sd Y n + 1 : Nat) : Int)) (congrArg lI (by omega)) ?_
                  refine J_lstore (lv' := [(4, .long (lI ((su X n / sd Y n + 1 : Nat) : Int))), (6, .int (iI (cmpN ((su X n % sd Y n) * 2 ^ 1) (sd Y n)))), (0, .ref (ad 98)), (3, .int (iI n))]) d_M_nearest_137 (by decide) rfl ?_
                  refine J_pick (lv' := [(0, .ref (ad 98)), (3, .int (iI n)), (4, .long (lI ((su X n / sd Y n + 1 : Nat) : Int)))]) [2, 3, 0] rfl ?_
                  exact lab139 (su X n / sd Y n + 1) (by rw [hnq]; first | rw [if_pos (by omega)] | rw [if_neg (by omega)])
          exact lab89 b0 j49 (su X b0) bh47 bl48 (by rw [hns]; first | rw [if_pos (by omega)] | rw [if_neg (by omega)]) hR54
        · refine J_iinc (j := 3) (b := b0 - 1) (lv' := [(3, .int (iI (b0 - 1))), (0, .ref (ad 98)), (1, .int (iI (u : Int))), (2, .int (iI (d : Int)))]) d_M_nearest_79 rfl (by omega) (by decide) rfl ?_
          refine J_aload_n 1 d_M_nearest_82 rfl rfl ?_
          refine J_iload_n 2 d_M_nearest_83 rfl rfl ?_
          refine J_iload_n 3 d_M_nearest_84 rfl rfl ?_
          refine J_iload_n 0 d_M_nearest_85 rfl rfl ?_
          refine J_callVv cw_M_98 nh_M_quotient pn_M_quotient rfl rfl (by omega) (by rw [va_up_ne _ _ (by decide), va_up_ne _ _ (by decide), va_up_self]) (As := [.int (iI (u : Int)), .int (iI (d : Int)), .int (iI (b0 - 1))]) (rest := []) rfl (Nat.le_of_ble_eq_true rfl) ⟨by decide, by decide⟩ rfl ⟨by decide, by decide⟩ d_M_nearest_86 (k_M_quotient hfl (u := u) (d := d) (s := b0 - 1) (hh := bh47) (ll := bl48) (V := va_up (va_up (va_up (va_up (va_up V 29 (su X b0)) 30 (sd Y b0)) 26 j49) 25 (su X b0 % sd Y b0)) 24 (su X b0 / sd Y b0)) (xu := X) (xd := Y) (hN := hN) (hO := (by rw [va_up_ne _ _ (by decide), va_up_ne _ _ (by decide), va_up_self])) (hB := (by rw [va_up_ne _ _ (by decide), va_up_self])) (hL := (by rw [va_up_self])) (hR := hR54) (hzz := hzz) (bru := bru) (brd := brd) (hu := by omega) (hd := by omega) (hu2 := by omega) (hd2 := by omega) (hs := by omega) (hd0 := by omega) (hlu := by omega) (hld := by omega) (hxu := ((va_up_ne _ _ (by omega)).trans ((va_up_ne _ _ (by omega)).trans ((va_up_ne _ _ (by omega)).trans ((va_up_ne _ _ (by omega)).trans ((va_up_ne _ _ (by omega)).trans hX)))))) (hxd := ((va_up_ne _ _ (by omega)).trans ((va_up_ne _ _ (by omega)).trans ((va_up_ne _ _ (by omega)).trans ((va_up_ne _ _ (by omega)).trans ((va_up_ne _ _ (by omega)).trans hY))))))) (fun  F24 hq => ?_)
          obtain ⟨bh65, bl66, j67, hR68, eF24⟩ := hq
          refine J_eqF (F2 := va_up (va_up (va_up F 98 (oM ad (va_up f 8 bb) v)) 99 (.inl (g 0, 858, .inl (aI bh65)))) 100 (.inl (g 0, 33, .inl (aI bl66)))) (eF24.trans (Eq.trans (congrArg (fun q : Nat → va_E => va_up q 100 (.inl (g 0, 33, .inl (aI bl66)))) (up_in1 (by decide))) (up_in0))) ?_
          have hR69 := (congrArg (fun qq : Nat → Nat => reg _ _ _ (va_up (va_up (va_up (va_up (qq) 30 (Y * 2 ^ (-(b0 - 1)).toNat)) 26 j67) 25 (X * 2 ^ (b0 - 1).toNat % (Y * 2 ^ (-(b0 - 1)).toNat))) 24 (X * 2 ^ (b0 - 1).toNat / (Y * 2 ^ (-(b0 - 1)).toNat)))) (up_in4 (by decide) (by decide) (by decide) (by decide))).mp hR68
          have hR70 := (congrArg (fun qq : Nat → Nat => reg _ _ _ (va_up (va_up (va_up (qq) 26 j67) 25 (X * 2 ^ (b0 - 1).toNat % (Y * 2 ^ (-(b0 - 1)).toNat))) 24 (X * 2 ^ (b0 - 1).toNat / (Y * 2 ^ (-(b0 - 1)).toNat)))) (up_in3 (by decide) (by decide) (by decide))).mp hR69
          have hR71 := (congrArg (fun qq : Nat → Nat => reg _ _ _ (va_up (va_up (qq) 25 (X * 2 ^ (b0 - 1).toNat % (Y * 2 ^ (-(b0 - 1)).toNat))) 24 (X * 2 ^ (b0 - 1).toNat / (Y * 2 ^ (-(b0 - 1)).toNat)))) (up_in2 (by decide) (by decide))).mp hR70
          have hR72 := (congrArg (fun qq : Nat → Nat => reg _ _ _ (va_up (qq) 24 (X * 2 ^ (b0 - 1).toNat / (Y * 2 ^ (-(b0 - 1)).toNat)))) (up_in1 (by decide))).mp hR71
          have hR73 := (congrArg (fun qq : Nat → Nat => reg _ _ _ (qq)) (up_in0)).mp hR72
          have hR74 := (congrArg (fun qq : Nat => reg _ _ _ (va_up (va_up (va_up (va_up (va_up V 29 qq) 30 (Y * 2 ^ (-(b0 - 1)).toNat)) 26 j67) 25 (X * 2 ^ (b0 - 1).toNat % (Y * 2 ^ (-(b0 - 1)).toNat))) 24 (X * 2 ^ (b0 - 1).toNat / (Y * 2 ^ (-(b0 - 1)).toNat)))) (show (X * 2 ^ (b0 - 1).toNat) = (su X (b0 - 1)) from rfl)).mp hR73
          have hR75 := (congrArg (fun qq : Nat => reg _ _ _ (va_up (va_up (va_up (va_up (va_up V 29 (su X (b0 - 1))) 30 qq) 26 j67) 25 (X * 2 ^ (b0 - 1).toNat % (Y * 2 ^ (-(b0 - 1)).toNat))) 24 (X * 2 ^ (b0 - 1).toNat / (Y * 2 ^ (-(b0 - 1)).toNat)))) (show (Y * 2 ^ (-(b0 - 1)).toNat) = (sd Y (b0 - 1)) from rfl)).mp hR74
          have hR76 := (congrArg (fun qq : Nat => reg _ _ _ (va_up (va_up (va_up (va_up (va_up V 29 (su X (b0 - 1))) 30 (sd Y (b0 - 1))) 26 j67) 25 qq) 24 (X * 2 ^ (b0 - 1).toNat / (Y * 2 ^ (-(b0 - 1)).toNat)))) (show (X * 2 ^ (b0 - 1).toNat % (Y * 2 ^ (-(b0 - 1)).toNat)) = (su X (b0 - 1) % sd Y (b0 - 1)) from rfl)).mp hR75
          have hR77 := (congrArg (fun qq : Nat => reg _ _ _ (va_up (va_up (va_up (va_up (va_up V 29 (su X (b0 - 1))) 30 (sd Y (b0 - 1))) 26 j67) 25 (su X (b0 - 1) % sd Y (b0 - 1))) 24 qq)) (show (X * 2 ^ (b0 - 1).toNat / (Y * 2 ^ (-(b0 - 1)).toNat)) = (su X (b0 - 1) / sd Y (b0 - 1)) from rfl)).mp hR76
          refine J_pick (lv' := [(0, .ref (ad 98)), (3, .int (iI (b0 - 1)))]) [1, 0] rfl ?_
          have lab89 : ∀ (n : Int) (j3 : Nat) (w29 : Nat) (e1 : Nat → Int) (e2 : Nat → Int) (hn : n = ns X Y) (hRL89 : reg br e1 e2 (va_up (va_up (va_up (va_up (va_up V 29 w29) 30 (sd Y n)) 26 j3) 25 (su X n % sd Y n)) 24 (su X n / sd Y n))) , J l rm_M_nearest (0, 0) "NumberTowerModel" b_M_nearest 10 (Option.some Jvm.ClassFile.FieldType.double) D jCl (jTys g) A (fun _ me => me.name = y_M_nearest.name) (jd ad N (fun z F' => ∃ (hh' ll' : Nat → Int) (W : Nat → Nat) (b : Int), reg br hh' ll' W ∧ (∀ k, ¬(24 ≤ k ∧ k ≤ 30 ∧ k ≠ 27 ∧ k ≠ 28) → W k = V k) ∧ ((X ≠ 0 ∧ ¬ isR (nq X Y (ns X Y)) (-ns X Y) ∧ b = 1 ∧ z = fd false 0 0) ∨ (X = 0 ∧ b = 0 ∧ z = fd false 0 0) ∨ (X ≠ 0 ∧ isR (nq X Y (ns X Y)) (-ns X Y) ∧ b = 0 ∧ z = fd false (nq X Y (ns X Y)) (-ns X Y))) ∧ F' = va_up (va_up (va_up F 98 (oM ad (va_up f 8 b) v)) 99 (aB g hh')) 100 (aL g ll'))) ad N 0 0 89 [(0, .ref (ad 98)), (3, .int (iI n))] [] (va_up (va_up (va_up F 98 (oM ad (va_up f 8 bb) v)) 99 (.inl (g 0, 858, .inl (aI e1)))) 100 (.inl (g 0, 33, .inl (aI e2)))) := by
            intro n j3 w29 e1 e2 hn hRL89
            have hnb : b0 - 1 ≤ n ∧ n ≤ b0 := by rw [hn, hns]; split <;> omega
            obtain ⟨i1, i2⟩ := ns_inR (Nat.pos_of_ne_zero hX0) hY0
            rw [← hn] at i1 i2
            have hsp := sd_pos hY0 n
            obtain ⟨q1, q2⟩ := nq_rng hY0 (ns_inR (Nat.pos_of_ne_zero hX0) hY0)
            have hqb : su X n / sd Y n < 9007199254740992 := by rw [Nat.div_lt_iff_lt_mul hsp]; exact i2
            have hrb := Nat.mod_lt (su X n) hsp
            have hsl : lnw 28 (sd Y n) ≤ 25 := by
              unfold sd
              exact Nat.le_trans lnw_up8 (by omega)
            have hrl : lnw 28 (su X n % sd Y n) ≤ 25 := Nat.le_trans (lnw_mono8 (Nat.le_of_lt hrb)) hsl
            have hc1 := cmpN_gt (a := su X n % sd Y n * 2 ^ 1) (b := sd Y n)
            have hc2 := cmpN_0 (a := su X n % sd Y n * 2 ^ 1) (b := sd Y n)
            have hc3 := cmpN_rng (su X n % sd Y n * 2 ^ 1) (sd Y n)
            have hnq := nq_rnd (X := X) (Y := Y) (n := n)
            have hq53 : exD (nq X Y (ns X Y)) 0 := ⟨q2, by decide, by decide⟩
            refine J_aload_n 0 d_M_nearest_89 rfl rfl ?_
            refine J_bipush d_M_nearest_90 (i8_ok (by decide)) ?_
            refine J_callVl cw_M_101 nh_M_low pn_M_low rfl rfl (by omega) (by rw [va_up_ne _ _ (by decide), va_up_ne _ _ (by decide), va_up_self]) (As := [.int (iI 24)]) (rest := []) rfl (Nat.le_of_ble_eq_true rfl) ⟨by decide, by decide⟩ rfl ⟨by decide, by decide⟩ d_M_nearest_92 (k_M_low hfl (a := 24) (hh := e1) (ll := e2) (V := va_up (va_up (va_up (va_up (va_up V 29 w29) 30 (sd Y n)) 26 j3) 25 (su X n % sd Y n)) 24 (su X n / sd Y n)) (br := br) (hN := hN) (hO := (by rw [va_up_ne _ _ (by decide), va_up_ne _ _ (by decide), va_up_self])) (hB := (by rw [va_up_ne _ _ (by decide), va_up_self])) (hL := (by rw [va_up_self])) (hR := hRL89) (ha := by omega) (hxa := (va_up_self ..)) (bra := (hzz.2 24 (by decide) (by decide)))) (fun z78 F25 hq => ?_)
            obtain ⟨hz78, eF25⟩ := hq
            refine J_eqF eF25 ?_
            refine J_topl (r := (((su X n / sd Y n) % 18446744073709551616 : Nat) : Int)) (congrArg lI hz78) ?_
            refine J_topl (r := ((su X n / sd Y n : Nat) : Int)) (congrArg lI (by rw [Nat.mod_eq_of_lt (Nat.lt_trans hqb (by decide))])) ?_
            refine J_lstore (lv' := [(4, .long (lI ((su X n / sd Y n : Nat) : Int))), (0, .ref (ad 98)), (3, .int (iI n))]) d_M_nearest_95 (by decide) rfl ?_
            refine J_aload_n 1 d_M_nearest_97 rfl rfl ?_
            refine J_bipush d_M_nearest_98 (i8_ok (by decide)) ?_
            refine J_iconst d_M_nearest_100 ?_
            refine J_callVv cw_M_66 nh_M_up pn_M_up rfl rfl (by omega) (by rw [va_up_ne _ _ (by decide), va_up_ne _ _ (by decide), va_up_self]) (As := [.int (iI 25), .int (iI 1)]) (rest := []) rfl (Nat.le_of_ble_eq_true rfl) ⟨by decide, by decide⟩ rfl ⟨by decide, by decide⟩ d_M_nearest_101 (k_M_up hfl (a := 25) (n := 1) (hh := e1) (ll := e2) (V := va_up (va_up (va_up (va_up (va_up V 29 w29) 30 (sd Y n)) 26 j3) 25 (su X n % sd Y n)) 24 (su X n / sd Y n)) (br := br) (hN := hN) (hO := (by rw [va_up_ne _ _ (by decide), va_up_ne _ _ (by decide), va_up_self])) (hB := (by rw [va_up_ne _ _ (by decide), va_up_self])) (hL := (by rw [va_up_self])) (hR := hRL89) (ha := by omega) (hxa := ((va_up_ne _ _ (by decide)).trans (va_up_self ..))) (bra := (hzz.2 25 (by decide) (by decide))) (hn := by omega) (hT := Or.inr (by omega))) (fun  F26 hq => ?_)
            obtain ⟨bh79, bl80, hR81, eF26⟩ := hq
            refine J_eqF (F2 := va_up (va_up (va_up F 98 (oM ad (va_up f 8 bb) v)) 99 (.inl (g 0, 858, .inl (aI bh79)))) 100 (.inl (g 0, 33, .inl (aI bl80)))) (eF26.trans (Eq.trans (congrArg (fun q : Nat → va_E => va_up q 100 (.inl (g 0, 33, .inl (aI bl80)))) (up_in1 (by decide))) (up_in0))) ?_
            have hR84 := reg_w1 (hzz.1 _) hR81
            have hR85 := (congrArg (fun qq : Nat → Nat => reg _ _ _ (qq)) (up_in1 (by decide))).mp hR84
            refine J_aload_n 1 d_M_nearest_104 rfl rfl ?_
            refine J_bipush d_M_nearest_105 (i8_ok (by decide)) ?_
            refine J_bipush d_M_nearest_107 (i8_ok (by decide)) ?_
            refine J_callVi cw_M_105 nh_M_order pn_M_order rfl rfl (by omega) (by rw [va_up_ne _ _ (by decide), va_up_ne _ _ (by decide), va_up_self]) (As := [.int (iI 25), .int (iI 30)]) (rest := []) rfl (Nat.le_of_ble_eq_true rfl) ⟨by decide, by decide⟩ rfl ⟨by decide, by decide⟩ d_M_nearest_109 (k_M_order hfl (a := 25) (b := 30) (hh := bh79) (ll := bl80) (V := va_up (va_up (va_up (va_up (va_up V 29 w29) 30 (sd Y n)) 26 j3) 25 ((su X n % sd Y n) * 2 ^ 1)) 24 (su X n / sd Y n)) (br := br) (hN := hN) (hO := (by rw [va_up_ne _ _ (by decide), va_up_ne _ _ (by decide), va_up_self])) (hB := (by rw [va_up_ne _ _ (by decide), va_up_self])) (hL := (by rw [va_up_self])) (hR := hR85) (ha := by omega) (hb := by omega) (hxa := ((va_up_ne _ _ (by decide)).trans (va_up_self ..))) (bra := (hzz.2 25 (by decide) (by decide))) (hxb := ((va_up_ne _ _ (by decide)).trans ((va_up_ne _ _ (by decide)).trans ((va_up_ne _ _ (by decide)).trans (va_up_self ..))))) (brb := (hzz.2 30 (by decide) (by decide)))) (fun z86 F27 hq => ?_)
            obtain ⟨hz86, eF27⟩ := hq
            refine J_eqF eF27 ?_
            refine J_topi (r := cmpN ((su X n % sd Y n) * 2 ^ 1) (sd Y n)) (congrArg iI hz86) ?_
            refine J_istore (lv' := [(6, .int (iI (cmpN ((su X n % sd Y n) * 2 ^ 1) (sd Y n)))), (4, .long (lI ((su X n / sd Y n : Nat) : Int))), (0, .ref (ad 98)), (3, .int (iI n))]) d_M_nearest_112 (by decide) rfl ?_
            have lab139 : ∀ (qq : Nat) (hqq : qq = nq X Y n) , J l rm_M_nearest (0, 0) "NumberTowerModel" b_M_nearest 10 (Option.some Jvm.ClassFile.FieldType.double) D jCl (jTys g) A (fun _ me => me.name = y_M_nearest.name) (jd ad N (fun z F' => ∃ (hh' ll' : Nat → Int) (W : Nat → Nat) (b : Int), reg br hh' ll' W ∧ (∀ k, ¬(24 ≤ k ∧ k ≤ 30 ∧ k ≠ 27 ∧ k ≠ 28) → W k = V k) ∧ ((X ≠ 0 ∧ ¬ isR (nq X Y (ns X Y)) (-ns X Y) ∧ b = 1 ∧ z = fd false 0 0) ∨ (X = 0 ∧ b = 0 ∧ z = fd false 0 0) ∨ (X ≠ 0 ∧ isR (nq X Y (ns X Y)) (-ns X Y) ∧ b = 0 ∧ z = fd false (nq X Y (ns X Y)) (-ns X Y))) ∧ F' = va_up (va_up (va_up F 98 (oM ad (va_up f 8 b) v)) 99 (aB g hh')) 100 (aL g ll'))) ad N 0 0 139 [(0, .ref (ad 98)), (3, .int (iI n)), (4, .long (lI (qq : Int)))] [] (va_up (va_up (va_up F 98 (oM ad (va_up f 8 bb) v)) 99 (.inl (g 0, 858, .inl (aI bh79)))) 100 (.inl (g 0, 33, .inl (aI bl80)))) := by
              intro qq hqq
              have hqb2 : qq ≤ 9007199254740992 := by rw [hqq, hn]; exact q2
              refine J_lload 2 d_M_nearest_139 rfl ?_
              refine J_l2d d_M_nearest_141 ?_
              refine J_topd (y := (fd false qq (-0))) (by rw [show Jvm.FP.l2d (lI (qq : Int)) = _ from fd_l2d (by omega)]; rfl) ?_
              refine J_dstore (lv' := [(7, .double (fd false qq (-0))), (0, .ref (ad 98)), (3, .int (iI n)), (4, .long (lI (qq : Int)))]) d_M_nearest_142 (by decide) rfl ?_
              refine J_iconst d_M_nearest_144 ?_
              refine J_istore (lv' := [(9, .int (iI 0)), (7, .double (fd false qq (-0))), (0, .ref (ad 98)), (3, .int (iI n)), (4, .long (lI (qq : Int)))]) d_M_nearest_145 (by decide) rfl ?_
              refine J_pick (lv' := [(0, .ref (ad 98)), (3, .int (iI n)), (7, .double (fd false qq (-0))), (9, .int (iI 0))]) [2, 3, 1, 0] rfl ?_
              have loop147 : ∀ (fuel : Nat) (k : Int) (hk : 0 ≤ k ∧ (k = 0 ∨ k ≤ n)) (hfu : (n - k).toNat < fuel), J l rm_M_nearest (0, 0) "NumberTowerModel" b_M_nearest 10 (Option.some Jvm.ClassFile.FieldType.double) D jCl (jTys g) A (fun _ me => me.name = y_M_nearest.name) (jd ad N (fun z F' => ∃ (hh' ll' : Nat → Int) (W : Nat → Nat) (b : Int), reg br hh' ll' W ∧ (∀ k, ¬(24 ≤ k ∧ k ≤ 30 ∧ k ≠ 27 ∧ k ≠ 28) → W k = V k) ∧ ((X ≠ 0 ∧ ¬ isR (nq X Y (ns X Y)) (-ns X Y) ∧ b = 1 ∧ z = fd false 0 0) ∨ (X = 0 ∧ b = 0 ∧ z = fd false 0 0) ∨ (X ≠ 0 ∧ isR (nq X Y (ns X Y)) (-ns X Y) ∧ b = 0 ∧ z = fd false (nq X Y (ns X Y)) (-ns X Y))) ∧ F' = va_up (va_up (va_up F 98 (oM ad (va_up f 8 b) v)) 99 (aB g hh')) 100 (aL g ll'))) ad N 0 0 147 [(0, .ref (ad 98)), (3, .int (iI n)), (7, .double (fd false qq (-k))), (9, .int (iI k))] [] (va_up (va_up (va_up F 98 (oM ad (va_up f 8 bb) v)) 99 (.inl (g 0, 858, .inl (aI bh79)))) 100 (.inl (g 0, 33, .inl (aI bl80)))) := by
                intro fuel
                induction fuel with
                | zero => intro k hk hfu; exact absurd hfu (Nat.not_lt_zero _)
                | succ fuel ih =>
                  intro k hk hfu
                  refine J_iload 3 d_M_nearest_147 rfl ?_
                  refine J_iload_n 1 d_M_nearest_149 rfl rfl ?_
                  refine J_if_icmpge (tgt := 167) d_M_nearest_150 (by decide) ⟨by omega, by omega⟩ ⟨by omega, by omega⟩ (fun c150 => ?_) (fun c150 => ?_)
                  · obtain ⟨p, hp⟩ : ∃ p : Int, p = k := ⟨_, rfl⟩
                    refine J_iconst d_M_nearest_167 ?_
                    refine J_istore (lv' := [(9, .int (iI 0)), (0, .ref (ad 98)), (3, .int (iI n)), (7, .double (fd false qq (-k)))]) d_M_nearest_168 (by decide) rfl ?_
                    refine J_pick (lv' := [(0, .ref (ad 98)), (3, .int (iI n)), (7, .double (fd false qq (-k))), (9, .int (iI 0))]) [1, 2, 3, 0] rfl ?_
                    have loop170 : ∀ (fuel : Nat) (k : Int) (dv : UInt64) (hk2 : k ≤ 0 ∧ (k = 0 ∨ n ≤ k)) (hdv : dv = fd false qq (-p - k)) (hfu : (k - n).toNat < fuel), J l rm_M_nearest (0, 0) "NumberTowerModel" b_M_nearest 10 (Option.some Jvm.ClassFile.FieldType.double) D jCl (jTys g) A (fun _ me => me.name = y_M_nearest.name) (jd ad N (fun z F' => ∃ (hh' ll' : Nat → Int) (W : Nat → Nat) (b : Int), reg br hh' ll' W ∧ (∀ k, ¬(24 ≤ k ∧ k ≤ 30 ∧ k ≠ 27 ∧ k ≠ 28) → W k = V k) ∧ ((X ≠ 0 ∧ ¬ isR (nq X Y (ns X Y)) (-ns X Y) ∧ b = 1 ∧ z = fd false 0 0) ∨ (X = 0 ∧ b = 0 ∧ z = fd false 0 0) ∨ (X ≠ 0 ∧ isR (nq X Y (ns X Y)) (-ns X Y) ∧ b = 0 ∧ z = fd false (nq X Y (ns X Y)) (-ns X Y))) ∧ F' = va_up (va_up (va_up F 98 (oM ad (va_up f 8 b) v)) 99 (aB g hh')) 100 (aL g ll'))) ad N 0 0 170 [(0, .ref (ad 98)), (3, .int (iI n)), (7, .double dv), (9, .int (iI k))] [] (va_up (va_up (va_up F 98 (oM ad (va_up f 8 bb) v)) 99 (.inl (g 0, 858, .inl (aI bh79)))) 100 (.inl (g 0, 33, .inl (aI bl80)))) := by
                      intro fuel
                      induction fuel with
                      | zero => intro k dv hk2 hdv hfu; exact absurd hfu (Nat.not_lt_zero _)
                      | succ fuel ih =>
                        intro k dv hk2 hdv hfu
                        refine J_iload 3 d_M_nearest_170 rfl ?_
                        refine J_iload_n 1 d_M_nearest_172 rfl rfl ?_
                        refine J_if_icmple (tgt := 190) d_M_nearest_173 (by decide) ⟨by omega, by omega⟩ ⟨by omega, by omega⟩ (fun c173 => ?_) (fun c173 => ?_)
                        · have hpk : -p - k = -n := by omega
                          have hqe : qq = nq X Y (ns X Y) := by rw [hqq, hn]
                          have hfv : fd false qq (-p - k) = fd false (nq X Y (ns X Y)) (-ns X Y) := by rw [hpk, hqe, hn]
                          refine J_aload_n 0 d_M_nearest_190 rfl rfl ?_
                          have lab204 : ∀ (b2 : Int) (hb2 : (b2 = 0 ∧ isR (nq X Y (ns X Y)) (-ns X Y)) ∨ (b2 = 1 ∧ ¬ isR (nq X Y (ns X Y)) (-ns X Y))) , J l rm_M_nearest (0, 0) "NumberTowerModel" b_M_nearest 10 (Option.some Jvm.ClassFile.FieldType.double) D jCl (jTys g) A (fun _ me => me.name = y_M_nearest.name) (jd ad N (fun z F' => ∃ (hh' ll' : Nat → Int) (W : Nat → Nat) (b : Int), reg br hh' ll' W ∧ (∀ k, ¬(24 ≤ k ∧ k ≤ 30 ∧ k ≠ 27 ∧ k ≠ 28) → W k = V k) ∧ ((X ≠ 0 ∧ ¬ isR (nq X Y (ns X Y)) (-ns X Y) ∧ b = 1 ∧ z = fd false 0 0) ∨ (X = 0 ∧ b = 0 ∧ z = fd false 0 0) ∨ (X ≠ 0 ∧ isR (nq X Y (ns X Y)) (-ns X Y) ∧ b = 0 ∧ z = fd false (nq X Y (ns X Y)) (-ns X Y))) ∧ F' = va_up (va_up (va_up F 98 (oM ad (va_up f 8 b) v)) 99 (aB g hh')) 100 (aL g ll'))) ad N 0 0 204 [(0, .ref (ad 98)), (7, .double dv)] [.int (iI b2), .ref (ad 98)] (va_up (va_up (va_up F 98 (oM ad (va_up f 8 bb) v)) 99 (.inl (g 0, 858, .inl (aI bh79)))) 100 (.inl (g 0, 33, .inl (aI bl80)))) := by
                            intro b2 hb2
                            refine pf_M_94 (by omega) (by rw [va_up_ne _ _ (by decide), va_up_ne _ _ (by decide), va_up_self]) (Nat.le_of_ble_eq_true rfl) (nb01 (by omega)) d_M_nearest_204 ?_
                            refine J_eqF (F2 := va_up (va_up (va_up (va_up F 98 (oM ad (va_up f 8 bb) v)) 99 (.inl (g 0, 858, .inl (aI bh79)))) 100 (.inl (g 0, 33, .inl (aI bl80)))) 98 (oM ad (va_up f 8 b2) v)) rfl ?_
                            refine J_eqF (F2 := va_up (va_up (va_up F 98 (oM ad (va_up f 8 b2) v)) 99 (.inl (g 0, 858, .inl (aI bh79)))) 100 (.inl (g 0, 33, .inl (aI bl80)))) (up_in2 (by decide) (by decide)) ?_
                            refine J_aload_n 0 d_M_nearest_207 rfl rfl ?_
                            refine gf_M_94 (by omega) (by rw [va_up_ne _ _ (by decide), va_up_ne _ _ (by decide), va_up_self]) rfl d_M_nearest_208 ?_
                            refine J_topi (r := b2) (congrArg iI (va_up_self ..)) ?_
                            refine J_ifeq (tgt := 218) d_M_nearest_211 (by decide) ⟨by omega, by omega⟩ (fun c211 => ?_) (fun c211 => ?_)
                            · refine J_dload 1 d_M_nearest_218 rfl ?_
                              refine J_dret rfl d_M_nearest_220 ⟨by decide, by decide⟩ ?_
                              exact ⟨_, rfl, rfl, rfl, _, _, _, b2, hR85, fun k hk => by rw [va_up_ne _ _ (by omega), va_up_ne _ _ (by omega), va_up_ne _ _ (by omega), va_up_ne _ _ (by omega), va_up_ne _ _ (by omega)], Or.inr (Or.inr ⟨by omega, by rcases hb2 with ⟨w1, w2⟩ | ⟨w1, w2⟩; exact w2; omega, by omega, hdv.trans hfv⟩), rfl⟩
                            · refine J_dconst0 d_M_nearest_214 ?_
                              refine J_goto (tgt := 220) d_M_nearest_215 (by decide) ?_
                              refine J_dret rfl d_M_nearest_220 ⟨by decide, by decide⟩ ?_
                              exact ⟨_, rfl, rfl, rfl, _, _, _, b2, hR85, fun k hk => by rw [va_up_ne _ _ (by omega), va_up_ne _ _ (by omega), va_up_ne _ _ (by omega), va_up_ne _ _ (by omega), va_up_ne _ _ (by omega)], Or.inl ⟨by omega, by rcases hb2 with ⟨w1, w2⟩ | ⟨w1, w2⟩; omega; exact w2, by omega, c_d0⟩, rfl⟩
                          refine J_dload 2 d_M_nearest_191 rfl ?_
                          refine J_topd (y := (fd false (nq X Y (ns X Y)) (-ns X Y))) (hdv.trans hfv) ?_
                          refine J_callSi cw_M_108 nh_M_isReal pn_M_isReal rfl (As := [.double (fd false (nq X Y (ns X Y)) (-ns X Y))]) (rest := [.ref (ad 98)]) rfl (Nat.le_of_ble_eq_true rfl) ⟨by decide, by decide⟩ rfl ⟨by decide, by decide⟩ d_M_nearest_193 (c_M_isReal hfl (q := nq X Y (ns X Y)) (e := -ns X Y) ⟨by omega, by omega, by omega⟩ ⟨by omega, by omega⟩) (fun ir F28 hq => ?_)
                          obtain ⟨hir, eF28⟩ := hq
                          refine J_eqF eF28 ?_
                          refine J_ifne (tgt := 203) d_M_nearest_196 (by decide) ⟨by omega, by omega⟩ (fun c196 => ?_) (fun c196 => ?_)
                          · refine J_iconst d_M_nearest_203 ?_
                            refine J_pick (lv' := [(0, .ref (ad 98)), (7, .double dv)]) [0, 2] rfl ?_
                            exact lab204 (0 : Int) (by rcases hir with ⟨w1, w2⟩ | ⟨w1, w2⟩ <;> first | exact Or.inl ⟨rfl, w2⟩ | exact Or.inr ⟨rfl, w2⟩ | omega)
                          · refine J_iconst d_M_nearest_199 ?_
                            refine J_goto (tgt := 204) d_M_nearest_200 (by decide) ?_
                            refine J_pick (lv' := [(0, .ref (ad 98)), (7, .double dv)]) [0, 2] rfl ?_
                            exact lab204 (1 : Int) (by rcases hir with ⟨w1, w2⟩ | ⟨w1, w2⟩ <;> first | exact Or.inl ⟨rfl, w2⟩ | exact Or.inr ⟨rfl, w2⟩ | omega)
                        · refine J_dload 2 d_M_nearest_176 rfl ?_
                          refine J_topd (y := (fd false qq (-p - k))) hdv ?_
                          refine J_ldc2d d_M_nearest_178 wd_1156 ?_
                          refine J_topd (y := (fd false 1 1)) c_two ?_
                          refine J_dmul (r := (fd false qq (-p - k + 1))) d_M_nearest_181 (fd_two ⟨by omega, by omega, by omega⟩) (fd_n64 _ _ _) ?_
                          refine J_topd (y := (fd false qq (-p - (k - 1)))) (by rw [show -p - (k - 1) = -p - k + 1 by omega]) ?_
                          refine J_dstore (lv' := [(7, .double (fd false qq (-p - (k - 1)))), (0, .ref (ad 98)), (3, .int (iI n)), (9, .int (iI k))]) d_M_nearest_182 (by decide) rfl ?_
                          refine J_iinc (j := 3) (b := k - 1) (lv' := [(9, .int (iI (k - 1))), (7, .double (fd false qq (-p - (k - 1)))), (0, .ref (ad 98)), (3, .int (iI n))]) d_M_nearest_184 rfl (by omega) (by decide) rfl ?_
                          refine J_goto (tgt := 170) d_M_nearest_187 (by decide) ?_
                          refine J_pick (lv' := [(0, .ref (ad 98)), (3, .int (iI n)), (7, .double (fd false qq (-p - (k - 1)))), (9, .int (iI (k - 1)))]) [2, 3, 1, 0] rfl ?_
                          exact ih (k - 1) (fd false qq (-p - (k - 1))) (by omega) rfl (by omega)
                    exact loop170 ((((0 : Int) - n).toNat) + 1) (0 : Int) (fd false qq (-k)) (by omega) (by rw [hp, Int.sub_zero]) (Nat.lt_succ_self _)
                  · refine J_dload 2 d_M_nearest_153 rfl ?_
                    refine J_ldc2d d_M_nearest_155 wd_1155 ?_
                    refine J_topd (y := (fd false 1 (-1))) c_half ?_
                    refine J_dmul (r := (fd false qq (-k - 1))) d_M_nearest_158 (fd_half ⟨by omega, by omega, by omega⟩) (fd_n64 _ _ _) ?_
                    refine J_topd (y := (fd false qq (-(k + 1)))) (by rw [show -(k + 1) = -k - 1 by omega]) ?_
                    refine J_dstore (lv' := [(7, .double (fd false qq (-(k + 1)))), (0, .ref (ad 98)), (3, .int (iI n)), (9, .int (iI k))]) d_M_nearest_159 (by decide) rfl ?_
                    refine J_iinc (j := 3) (b := k + 1) (lv' := [(9, .int (iI (k + 1))), (7, .double (fd false qq (-(k + 1)))), (0, .ref (ad 98)), (3, .int (iI n))]) d_M_nearest_161 rfl (by omega) (by decide) rfl ?_
                    refine J_goto (tgt := 147) d_M_nearest_164 (by decide) ?_
                    refine J_pick (lv' := [(0, .ref (ad 98)), (3, .int (iI n)), (7, .double (fd false qq (-(k + 1)))), (9, .int (iI (k + 1)))]) [2, 3, 1, 0] rfl ?_
                    exact ih (k + 1) (by omega) (by omega)
              exact loop147 (((n - (0 : Int)).toNat) + 1) (0 : Int) (by omega) (Nat.lt_succ_self _)
            refine J_iload 0 d_M_nearest_114 rfl ?_
            refine J_ifgt (tgt := 133) d_M_nearest_116 (by decide) ⟨by omega, by omega⟩ (fun c116 => ?_) (fun c116 => ?_)
            · refine J_lload 1 d_M_nearest_133 rfl ?_
              refine J_lconst (v := 1) d_M_nearest_135 rfl ?_
              refine J_ladd d_M_nearest_136 ?_
              refine J_topl (r := ((su X n / sd Y n + 1 : Nat) : Int)) (congrArg lI (by omega)) ?_
              refine J_lstore (lv' := [(4, .long (lI ((su X n / sd Y n + 1 : Nat) : Int))), (6, .int (iI (cmpN ((su X n % sd Y n) * 2 ^ 1) (sd Y n)))), (0, .ref (ad 98)), (3, .int (iI n))]) d_M_nearest_137 (by decide) rfl ?_
              refine J_pick (lv' := [(0, .ref (ad 98)), (3, .int (iI n)), (4, .long (lI ((su X n / sd Y n + 1 : Nat) : Int)))]) [2, 3, 0] rfl ?_
              exact lab139 (su X n / sd Y n + 1) (by rw [hnq]; first | rw [if_pos (by omega)] | rw [if_neg (by omega)])
            · refine J_iload 0 d_M_nearest_119 rfl ?_
              refine J_ifne (tgt := 139) d_M_nearest_121 (by decide) ⟨by omega, by omega⟩ (fun c121 => ?_) (fun c121 => ?_)
              · refine J_pick (lv' := [(0, .ref (ad 98)), (3, .int (iI n)), (4, .long (lI ((su X n / sd Y n : Nat) : Int)))]) [2, 3, 1] rfl ?_
                exact lab139 (su X n / sd Y n) (by rw [hnq]; first | rw [if_pos (by omega)] | rw [if_neg (by omega)])
              · refine J_lload 1 d_M_nearest_124 rfl ?_
                refine J_lconst (v := 1) d_M_nearest_126 rfl ?_
                refine J_land (r := (((su X n / sd Y n) % 2 : Nat) : Int)) d_M_nearest_127 (lI_andn 1 (by decide)) ?_
                refine J_lconst (v := 1) d_M_nearest_128 rfl ?_
                refine J_lcmpne (tgt := 139) d_M_nearest_129 d_M_nearest_130 (by decide) ⟨by omega, by omega⟩ ⟨by omega, by omega⟩ (fun c129 => ?_) (fun c129 => ?_)
                · refine J_pick (lv' := [(0, .ref (ad 98)), (3, .int (iI n)), (4, .long (lI ((su X n / sd Y n : Nat) : Int)))]) [2, 3, 1] rfl ?_
                  exact lab139 (su X n / sd Y n) (by rw [hnq]; first | rw [if_pos (by omega)] | rw [if_neg (by omega)])
                · refine J_lload 1 d_M_nearest_133 rfl ?_
                  refine J_lconst (v := 1) d_M_nearest_135 rfl ?_
                  refine J_ladd d_M_nearest_136 ?_
                  refine J_topl (r := ((su X n / sd Y n + 1 : Nat) : Int)) (congrArg lI (by omega)) ?_
                  refine J_lstore (lv' := [(4, .long (lI ((su X n / sd Y n + 1 : Nat) : Int))), (6, .int (iI (cmpN ((su X n % sd Y n) * 2 ^ 1) (sd Y n)))), (0, .ref (ad 98)), (3, .int (iI n))]) d_M_nearest_137 (by decide) rfl ?_
                  refine J_pick (lv' := [(0, .ref (ad 98)), (3, .int (iI n)), (4, .long (lI ((su X n / sd Y n + 1 : Nat) : Int)))]) [2, 3, 0] rfl ?_
                  exact lab139 (su X n / sd Y n + 1) (by rw [hnq]; first | rw [if_pos (by omega)] | rw [if_neg (by omega)])
          exact lab89 (b0 - 1) j67 (su X (b0 - 1)) bh65 bl66 (by rw [hns]; first | rw [if_pos (by omega)] | rw [if_neg (by omega)]) hR77
      · refine J_dconst0 d_M_nearest_59 ?_
        refine J_eqF (F2 := va_up (va_up F 98 (oM ad (va_up f 8 bb) v)) 99 (.inl (g 0, 858, .inl (aI hh)))) (up_same1 (by rw [va_up_ne _ _ (by decide)]; exact hB)) ?_
        refine J_eqF (F2 := va_up (va_up (va_up F 98 (oM ad (va_up f 8 bb) v)) 99 (.inl (g 0, 858, .inl (aI hh)))) 100 (.inl (g 0, 33, .inl (aI ll)))) (up_same1 (by rw [va_up_ne _ _ (by decide), va_up_ne _ _ (by decide)]; exact hL)) ?_
        refine J_dret rfl d_M_nearest_60 ⟨by decide, by decide⟩ ?_
        exact ⟨_, rfl, rfl, rfl, hh, ll, V, bb, hR, fun _ _ => rfl, Or.inl ⟨by omega, far_isR (by omega) hY0 hb0 (by omega), by omega, c_d0⟩, rfl⟩
    refine J_iload_n 0 d_M_nearest_31 rfl rfl ?_
    refine J_sipush d_M_nearest_32 (i16_ok (by decide)) ?_
    refine J_if_icmpgt (tgt := 44) d_M_nearest_35 (by decide) ⟨by omega, by omega⟩ ⟨by omega, by omega⟩ (fun c35 => ?_) (fun c35 => ?_)
    · refine J_iconst d_M_nearest_44 ?_
      refine J_goto (tgt := 49) d_M_nearest_45 (by decide) ?_
      refine J_pick (lv' := [(0, .ref (ad 98)), (1, .int (iI (u : Int))), (2, .int (iI (d : Int))), (3, .int (iI b0))]) [1, 2, 3, 0] rfl ?_
      exact lab49 (1 : Int) (by omega)
    · refine J_iload_n 0 d_M_nearest_38 rfl rfl ?_
      refine J_bipush d_M_nearest_39 (i8_ok (by decide)) ?_
      refine J_if_icmpge (tgt := 48) d_M_nearest_41 (by decide) ⟨by omega, by omega⟩ ⟨by omega, by omega⟩ (fun c41 => ?_) (fun c41 => ?_)
      · refine J_iconst d_M_nearest_48 ?_
        refine J_pick (lv' := [(0, .ref (ad 98)), (1, .int (iI (u : Int))), (2, .int (iI (d : Int))), (3, .int (iI b0))]) [1, 2, 3, 0] rfl ?_
        exact lab49 (0 : Int) (by omega)
      · refine J_iconst d_M_nearest_44 ?_
        refine J_goto (tgt := 49) d_M_nearest_45 (by decide) ?_
        refine J_pick (lv' := [(0, .ref (ad 98)), (1, .int (iI (u : Int))), (2, .int (iI (d : Int))), (3, .int (iI b0))]) [1, 2, 3, 0] rfl ?_
        exact lab49 (1 : Int) (by omega)
  · refine J_dconst0 d_M_nearest_13 ?_
    refine J_eqF (F2 := va_up (va_up F 98 (oM ad (va_up f 8 0) v)) 99 (.inl (g 0, 858, .inl (aI hh)))) (up_same1 (by rw [va_up_ne _ _ (by decide)]; exact hB)) ?_
    refine J_eqF (F2 := va_up (va_up (va_up F 98 (oM ad (va_up f 8 0) v)) 99 (.inl (g 0, 858, .inl (aI hh)))) 100 (.inl (g 0, 33, .inl (aI ll)))) (up_same1 (by rw [va_up_ne _ _ (by decide), va_up_ne _ _ (by decide)]; exact hL)) ?_
    refine J_dret rfl d_M_nearest_14 ⟨by decide, by decide⟩ ?_
    exact ⟨_, rfl, rfl, rfl, hh, ll, V, 0, hR, fun _ _ => rfl, Or.inr (Or.inl ⟨by omega, rfl, c_d0⟩), rfl⟩
set_option maxRecDepth 100000 in
set_option maxHeartbeats 4000000 in
theorem c_M_reaches {l : Launch} (hfl : l.flags = flags0) {D : va_G} {g : Nat → ClassId} {ad : Nat → Nat} {N : Nat} {F : Nat → va_E} {hh ll f : Nat → Int} {v : UInt64} {V : Nat → Nat} {br : Nat → Nat} {x y : Nat} {e : Int}
    (hN : 109 ≤ N) (hO : F 98 = oM ad f v) (hB : F 99 = aB g hh) (hL : F 100 = aL g ll) (hR : reg br hh ll V) (hzz : okB br) (hx : V 31 = x) (hy : V 28 = y) (hxb : x < 2 ^ 168) (hyb : y < 2 ^ 168) (he : -99 ≤ e ∧ e ≤ 99) :
    JC l y_M_reaches b_M_reaches 2 (Option.some Jvm.ClassFile.FieldType.boolean) rm_M_reaches (0, 0) D jCl (jTys g) ad N F [.ref (ad 98), .int (iI e)] (ji ad N (fun z F' => ((z = 1 ∧ rch x y e) ∨ (z = 0 ∧ ¬ rch x y e)) ∧ ∃ hh' ll' : Nat → Int, reg (va_up (va_up br 22 0) 23 0) hh' ll' (va_up (va_up V 22 (x * 10 ^ (-e).toNat)) 23 (y * 10 ^ e.toNat)) ∧ F' = va_up (va_up F 99 (aB g hh')) 100 (aL g ll'))) := by
  refine JC.go hfl (own := "NumberTowerModel") (lv := [(0, .ref (ad 98)), (1, .int (iI e))]) rfl (by decide +kernel) (Nat.le_of_ble_eq_true rfl) rfl (fun A => ?_)
  refine J_aload_n 0 d_M_reaches_0 rfl rfl ?_
  refine J_bipush d_M_reaches_1 (i8_ok (by decide)) ?_
  refine J_bipush d_M_reaches_3 (i8_ok (by decide)) ?_
  refine J_callVv cw_M_58 nh_M_copy pn_M_copy rfl rfl (by omega) hO (As := [.int (iI 31), .int (iI 22)]) (rest := []) rfl (Nat.le_of_ble_eq_true rfl) ⟨by decide, by decide⟩ rfl ⟨by decide, by decide⟩ d_M_reaches_5 (k_M_copy hfl (a := 31) (b := 22) (hh := hh) (ll := ll) (V := V) (br := br) (hN := hN) (hO := hO) (hB := hB) (hL := hL) (hR := hR) (ha := by omega) (hb := by omega) (hxa := hx) (bra := (hzz.2 31 (by decide) (by decide)))) (fun  F1 hq => ?_)
  obtain ⟨bh87, bl88, hR89, eF1⟩ := hq
  refine J_eqF (F2 := va_up (va_up F 99 (.inl (g 0, 858, .inl (aI bh87)))) 100 (.inl (g 0, 33, .inl (aI bl88)))) eF1 ?_
  refine J_aload_n 0 d_M_reaches_8 rfl rfl ?_
  refine J_bipush d_M_reaches_9 (i8_ok (by decide)) ?_
  refine J_bipush d_M_reaches_11 (i8_ok (by decide)) ?_
  refine J_callVv cw_M_58 nh_M_copy pn_M_copy rfl rfl (by omega) (by rw [va_up_ne _ _ (by decide), va_up_ne _ _ (by decide)]; exact hO) (As := [.int (iI 28), .int (iI 23)]) (rest := []) rfl (Nat.le_of_ble_eq_true rfl) ⟨by decide, by decide⟩ rfl ⟨by decide, by decide⟩ d_M_reaches_13 (k_M_copy hfl (a := 28) (b := 23) (hh := bh87) (ll := bl88) (V := va_up V 22 x) (br := va_up br 22 0) (hN := hN) (hO := (by rw [va_up_ne _ _ (by decide), va_up_ne _ _ (by decide)]; exact hO)) (hB := (by rw [va_up_ne _ _ (by decide), va_up_self])) (hL := (by rw [va_up_self])) (hR := hR89) (ha := by omega) (hb := by omega) (hxa := ((va_up_ne _ _ (by decide)).trans hy)) (bra := ((va_up_ne _ _ (by decide)).trans (hzz.2 28 (by decide) (by decide))))) (fun  F2 hq => ?_)
  obtain ⟨bh92, bl93, hR94, eF2⟩ := hq
  refine J_eqF (F2 := va_up (va_up F 99 (.inl (g 0, 858, .inl (aI bh92)))) 100 (.inl (g 0, 33, .inl (aI bl93)))) (eF2.trans (Eq.trans (congrArg (fun q : Nat → va_E => va_up q 100 (.inl (g 0, 33, .inl (aI bl93)))) (up_in1 (by decide))) (up_in0))) ?_
  refine J_iload_n 1 d_M_reaches_16 rfl rfl ?_
  refine J_ifle (tgt := 30) d_M_reaches_17 (by decide) ⟨by omega, by omega⟩ (fun c17 => ?_) (fun c17 => ?_)
  · refine J_aload_n 0 d_M_reaches_30 rfl rfl ?_
    refine J_bipush d_M_reaches_31 (i8_ok (by decide)) ?_
    refine J_iload_n 1 d_M_reaches_33 rfl rfl ?_
    refine J_ineg d_M_reaches_34 ?_
    refine J_callVv cw_M_208 nh_M_tens pn_M_tens rfl rfl (by omega) (by rw [va_up_ne _ _ (by decide), va_up_ne _ _ (by decide)]; exact hO) (As := [.int (iI 22), .int (iI (-e))]) (rest := []) rfl (Nat.le_of_ble_eq_true rfl) ⟨by decide, by decide⟩ rfl ⟨by decide, by decide⟩ d_M_reaches_35 (k_M_tens hfl (a := 22) (n := -e) (hh := bh92) (ll := bl93) (V := va_up (va_up V 22 x) 23 y) (br := va_up (va_up br 22 0) 23 0) (hN := hN) (hO := (by rw [va_up_ne _ _ (by decide), va_up_ne _ _ (by decide)]; exact hO)) (hB := (by rw [va_up_ne _ _ (by decide), va_up_self])) (hL := (by rw [va_up_self])) (hR := hR94) (ha := by omega) (hxa := ((va_up_ne _ _ (by decide)).trans (va_up_self ..))) (bra := ((va_up_ne _ _ (by decide)).trans (va_up_self ..))) (hn := ⟨by omega, by omega⟩) (hT := Nat.le_trans (l168 hxb (by omega)) (by decide))) (fun  F3 hq => ?_)
    obtain ⟨bh97, bl98, hR99, eF3⟩ := hq
    refine J_eqF (F2 := va_up (va_up F 99 (.inl (g 0, 858, .inl (aI bh97)))) 100 (.inl (g 0, 33, .inl (aI bl98)))) (eF3.trans (Eq.trans (congrArg (fun q : Nat → va_E => va_up q 100 (.inl (g 0, 33, .inl (aI bl98)))) (up_in1 (by decide))) (up_in0))) ?_
    have hR102 := (congrArg (fun q => reg q _ _ _) (up_in1 (by decide))).mp hR99
    have hR103 := (congrArg (fun qq : Nat → Nat => reg _ _ _ (qq)) (up_in1 (by decide))).mp hR102
    have hR104 := (congrArg (fun qq : Nat => reg _ _ _ (va_up (va_up V 22 (x * 10 ^ ((-e).toNat))) 23 qq)) (show (y) = (y * 10 ^ e.toNat) from e10 (by omega))).mp hR103
    refine J_aload_n 0 d_M_reaches_38 rfl rfl ?_
    refine J_bipush d_M_reaches_39 (i8_ok (by decide)) ?_
    refine J_bipush d_M_reaches_41 (i8_ok (by decide)) ?_
    refine J_callVi cw_M_105 nh_M_order pn_M_order rfl rfl (by omega) (by rw [va_up_ne _ _ (by decide), va_up_ne _ _ (by decide)]; exact hO) (As := [.int (iI 22), .int (iI 23)]) (rest := []) rfl (Nat.le_of_ble_eq_true rfl) ⟨by decide, by decide⟩ rfl ⟨by decide, by decide⟩ d_M_reaches_43 (k_M_order hfl (a := 22) (b := 23) (hh := bh97) (ll := bl98) (V := va_up (va_up V 22 (x * 10 ^ ((-e).toNat))) 23 (y * 10 ^ e.toNat)) (br := va_up (va_up br 22 0) 23 0) (hN := hN) (hO := (by rw [va_up_ne _ _ (by decide), va_up_ne _ _ (by decide)]; exact hO)) (hB := (by rw [va_up_ne _ _ (by decide), va_up_self])) (hL := (by rw [va_up_self])) (hR := hR104) (ha := by omega) (hb := by omega) (hxa := ((va_up_ne _ _ (by decide)).trans (va_up_self ..))) (bra := ((va_up_ne _ _ (by decide)).trans (va_up_self ..))) (hxb := (va_up_self ..)) (brb := (va_up_self ..))) (fun z105 F4 hq => ?_)
    obtain ⟨hz105, eF4⟩ := hq
    refine J_eqF eF4 ?_
    refine J_topi (r := cmpN (x * 10 ^ ((-e).toNat)) (y * 10 ^ e.toNat)) (congrArg iI hz105) ?_
    have hcv := cmpN_val (x * 10 ^ (-e).toNat) (y * 10 ^ e.toNat)
    have hcr := cmpN_rng (x * 10 ^ (-e).toNat) (y * 10 ^ e.toNat)
    refine J_iflt (tgt := 53) d_M_reaches_46 (by decide) ⟨by omega, by omega⟩ (fun c46 => ?_) (fun c46 => ?_)
    · refine J_iconst d_M_reaches_53 ?_
      refine J_iret rfl (nb01 (by omega)).1 d_M_reaches_54 ⟨by decide, by decide⟩ ?_
      exact ⟨_, rfl, rfl, rfl, by unfold rch; omega, _, _, hR104, rfl⟩
    · refine J_iconst d_M_reaches_49 ?_
      refine J_goto (tgt := 54) d_M_reaches_50 (by decide) ?_
      refine J_iret rfl (nb01 (by omega)).1 d_M_reaches_54 ⟨by decide, by decide⟩ ?_
      exact ⟨_, rfl, rfl, rfl, by unfold rch; omega, _, _, hR104, rfl⟩
  · refine J_aload_n 0 d_M_reaches_20 rfl rfl ?_
    refine J_bipush d_M_reaches_21 (i8_ok (by decide)) ?_
    refine J_iload_n 1 d_M_reaches_23 rfl rfl ?_
    refine J_callVv cw_M_208 nh_M_tens pn_M_tens rfl rfl (by omega) (by rw [va_up_ne _ _ (by decide), va_up_ne _ _ (by decide)]; exact hO) (As := [.int (iI 23), .int (iI e)]) (rest := []) rfl (Nat.le_of_ble_eq_true rfl) ⟨by decide, by decide⟩ rfl ⟨by decide, by decide⟩ d_M_reaches_24 (k_M_tens hfl (a := 23) (n := e) (hh := bh92) (ll := bl93) (V := va_up (va_up V 22 x) 23 y) (br := va_up (va_up br 22 0) 23 0) (hN := hN) (hO := (by rw [va_up_ne _ _ (by decide), va_up_ne _ _ (by decide)]; exact hO)) (hB := (by rw [va_up_ne _ _ (by decide), va_up_self])) (hL := (by rw [va_up_self])) (hR := hR94) (ha := by omega) (hxa := (va_up_self ..)) (bra := (va_up_self ..)) (hn := ⟨by omega, by omega⟩) (hT := Nat.le_trans (l168 hyb (by omega)) (by decide))) (fun  F5 hq => ?_)
    obtain ⟨bh106, bl107, hR108, eF5⟩ := hq
    refine J_eqF (F2 := va_up (va_up F 99 (.inl (g 0, 858, .inl (aI bh106)))) 100 (.inl (g 0, 33, .inl (aI bl107)))) (eF5.trans (Eq.trans (congrArg (fun q : Nat → va_E => va_up q 100 (.inl (g 0, 33, .inl (aI bl107)))) (up_in1 (by decide))) (up_in0))) ?_
    have hR111 := (congrArg (fun q => reg q _ _ _) up_in0).mp hR108
    have hR112 := (congrArg (fun qq : Nat → Nat => reg _ _ _ (qq)) (up_in0)).mp hR111
    refine J_goto (tgt := 38) d_M_reaches_27 (by decide) ?_
    have hR113 := (congrArg (fun qq : Nat => reg _ _ _ (va_up (va_up V 22 qq) 23 (y * 10 ^ e.toNat))) (show (x) = (x * 10 ^ (-e).toNat) from e10 (by omega))).mp hR112
    refine J_aload_n 0 d_M_reaches_38 rfl rfl ?_
    refine J_bipush d_M_reaches_39 (i8_ok (by decide)) ?_
    refine J_bipush d_M_reaches_41 (i8_ok (by decide)) ?_
    refine J_callVi cw_M_105 nh_M_order pn_M_order rfl rfl (by omega) (by rw [va_up_ne _ _ (by decide), va_up_ne _ _ (by decide)]; exact hO) (As := [.int (iI 22), .int (iI 23)]) (rest := []) rfl (Nat.le_of_ble_eq_true rfl) ⟨by decide, by decide⟩ rfl ⟨by decide, by decide⟩ d_M_reaches_43 (k_M_order hfl (a := 22) (b := 23) (hh := bh106) (ll := bl107) (V := va_up (va_up V 22 (x * 10 ^ (-e).toNat)) 23 (y * 10 ^ e.toNat)) (br := va_up (va_up br 22 0) 23 0) (hN := hN) (hO := (by rw [va_up_ne _ _ (by decide), va_up_ne _ _ (by decide)]; exact hO)) (hB := (by rw [va_up_ne _ _ (by decide), va_up_self])) (hL := (by rw [va_up_self])) (hR := hR113) (ha := by omega) (hb := by omega) (hxa := ((va_up_ne _ _ (by decide)).trans (va_up_self ..))) (bra := ((va_up_ne _ _ (by decide)).trans (va_up_self ..))) (hxb := (va_up_self ..)) (brb := (va_up_self ..))) (fun z114 F6 hq => ?_)
    obtain ⟨hz114, eF6⟩ := hq
    refine J_eqF eF6 ?_
    refine J_topi (r := cmpN (x * 10 ^ (-e).toNat) (y * 10 ^ e.toNat)) (congrArg iI hz114) ?_
    have hcv := cmpN_val (x * 10 ^ (-e).toNat) (y * 10 ^ e.toNat)
    have hcr := cmpN_rng (x * 10 ^ (-e).toNat) (y * 10 ^ e.toNat)
    refine J_iflt (tgt := 53) d_M_reaches_46 (by decide) ⟨by omega, by omega⟩ (fun c46 => ?_) (fun c46 => ?_)
    · refine J_iconst d_M_reaches_53 ?_
      refine J_iret rfl (nb01 (by omega)).1 d_M_reaches_54 ⟨by decide, by decide⟩ ?_
      exact ⟨_, rfl, rfl, rfl, by unfold rch; omega, _, _, hR113, rfl⟩
    · refine J_iconst d_M_reaches_49 ?_
      refine J_goto (tgt := 54) d_M_reaches_50 (by decide) ?_
      refine J_iret rfl (nb01 (by omega)).1 d_M_reaches_54 ⟨by decide, by decide⟩ ?_
      exact ⟨_, rfl, rfl, rfl, by unfold rch; omega, _, _, hR113, rfl⟩
set_option maxRecDepth 100000 in
set_option maxHeartbeats 4000000 in
theorem c_M_moved {l : Launch} (hfl : l.flags = flags0) {D : va_G} {g : Nat → ClassId} {ad : Nat → Nat} {N : Nat} {F : Nat → va_E} {hh ll f : Nat → Int} {v : UInt64} {V : Nat → Nat} {br : Nat → Nat} {x y : Nat} {n : Int}
    (hN : 109 ≤ N) (hO : F 98 = oM ad f v) (hB : F 99 = aB g hh) (hL : F 100 = aL g ll) (hR : reg br hh ll V) (hzz : okB br) (hx : V 31 = x) (hy : V 28 = y) (hxb : x < 2 ^ 168) (hyb : y < 2 ^ 168) (he : -99 ≤ n ∧ n ≤ 99) :
    JC l y_M_moved b_M_moved 2 (Option.none : Option Jvm.ClassFile.FieldType) rm_M_moved (0, 0) D jCl (jTys g) ad N F [.ref (ad 98), .int (iI n)] (jv ad N (fun F' => ∃ hh' ll' : Nat → Int, reg (va_up (va_up br 22 0) 23 0) hh' ll' (va_up (va_up V 22 (x * 10 ^ n.toNat)) 23 (y * 10 ^ (-n).toNat)) ∧ F' = va_up (va_up F 99 (aB g hh')) 100 (aL g ll'))) := by
  refine JC.go hfl (own := "NumberTowerModel") (lv := [(0, .ref (ad 98)), (1, .int (iI n))]) rfl (by decide +kernel) (Nat.le_of_ble_eq_true rfl) rfl (fun A => ?_)
  refine J_aload_n 0 d_M_moved_0 rfl rfl ?_
  refine J_bipush d_M_moved_1 (i8_ok (by decide)) ?_
  refine J_bipush d_M_moved_3 (i8_ok (by decide)) ?_
  refine J_callVv cw_M_58 nh_M_copy pn_M_copy rfl rfl (by omega) hO (As := [.int (iI 31), .int (iI 22)]) (rest := []) rfl (Nat.le_of_ble_eq_true rfl) ⟨by decide, by decide⟩ rfl ⟨by decide, by decide⟩ d_M_moved_5 (k_M_copy hfl (a := 31) (b := 22) (hh := hh) (ll := ll) (V := V) (br := br) (hN := hN) (hO := hO) (hB := hB) (hL := hL) (hR := hR) (ha := by omega) (hb := by omega) (hxa := hx) (bra := (hzz.2 31 (by decide) (by decide)))) (fun  F1 hq => ?_)
  obtain ⟨bh115, bl116, hR117, eF1⟩ := hq
  refine J_eqF (F2 := va_up (va_up F 99 (.inl (g 0, 858, .inl (aI bh115)))) 100 (.inl (g 0, 33, .inl (aI bl116)))) eF1 ?_
  refine J_aload_n 0 d_M_moved_8 rfl rfl ?_
  refine J_bipush d_M_moved_9 (i8_ok (by decide)) ?_
  refine J_bipush d_M_moved_11 (i8_ok (by decide)) ?_
  refine J_callVv cw_M_58 nh_M_copy pn_M_copy rfl rfl (by omega) (by rw [va_up_ne _ _ (by decide), va_up_ne _ _ (by decide)]; exact hO) (As := [.int (iI 28), .int (iI 23)]) (rest := []) rfl (Nat.le_of_ble_eq_true rfl) ⟨by decide, by decide⟩ rfl ⟨by decide, by decide⟩ d_M_moved_13 (k_M_copy hfl (a := 28) (b := 23) (hh := bh115) (ll := bl116) (V := va_up V 22 x) (br := va_up br 22 0) (hN := hN) (hO := (by rw [va_up_ne _ _ (by decide), va_up_ne _ _ (by decide)]; exact hO)) (hB := (by rw [va_up_ne _ _ (by decide), va_up_self])) (hL := (by rw [va_up_self])) (hR := hR117) (ha := by omega) (hb := by omega) (hxa := ((va_up_ne _ _ (by decide)).trans hy)) (bra := ((va_up_ne _ _ (by decide)).trans (hzz.2 28 (by decide) (by decide))))) (fun  F2 hq => ?_)
  obtain ⟨bh120, bl121, hR122, eF2⟩ := hq
  refine J_eqF (F2 := va_up (va_up F 99 (.inl (g 0, 858, .inl (aI bh120)))) 100 (.inl (g 0, 33, .inl (aI bl121)))) (eF2.trans (Eq.trans (congrArg (fun q : Nat → va_E => va_up q 100 (.inl (g 0, 33, .inl (aI bl121)))) (up_in1 (by decide))) (up_in0))) ?_
  refine J_iload_n 1 d_M_moved_16 rfl rfl ?_
  refine J_ifle (tgt := 30) d_M_moved_17 (by decide) ⟨by omega, by omega⟩ (fun c17 => ?_) (fun c17 => ?_)
  · refine J_aload_n 0 d_M_moved_30 rfl rfl ?_
    refine J_bipush d_M_moved_31 (i8_ok (by decide)) ?_
    refine J_iload_n 1 d_M_moved_33 rfl rfl ?_
    refine J_ineg d_M_moved_34 ?_
    refine J_callVv cw_M_208 nh_M_tens pn_M_tens rfl rfl (by omega) (by rw [va_up_ne _ _ (by decide), va_up_ne _ _ (by decide)]; exact hO) (As := [.int (iI 23), .int (iI (-n))]) (rest := []) rfl (Nat.le_of_ble_eq_true rfl) ⟨by decide, by decide⟩ rfl ⟨by decide, by decide⟩ d_M_moved_35 (k_M_tens hfl (a := 23) (n := -n) (hh := bh120) (ll := bl121) (V := va_up (va_up V 22 x) 23 y) (br := va_up (va_up br 22 0) 23 0) (hN := hN) (hO := (by rw [va_up_ne _ _ (by decide), va_up_ne _ _ (by decide)]; exact hO)) (hB := (by rw [va_up_ne _ _ (by decide), va_up_self])) (hL := (by rw [va_up_self])) (hR := hR122) (ha := by omega) (hxa := (va_up_self ..)) (bra := (va_up_self ..)) (hn := ⟨by omega, by omega⟩) (hT := Nat.le_trans (l168 hyb (by omega)) (by decide))) (fun  F3 hq => ?_)
    obtain ⟨bh125, bl126, hR127, eF3⟩ := hq
    refine J_eqF (F2 := va_up (va_up F 99 (.inl (g 0, 858, .inl (aI bh125)))) 100 (.inl (g 0, 33, .inl (aI bl126)))) (eF3.trans (Eq.trans (congrArg (fun q : Nat → va_E => va_up q 100 (.inl (g 0, 33, .inl (aI bl126)))) (up_in1 (by decide))) (up_in0))) ?_
    have hR130 := (congrArg (fun q => reg q _ _ _) up_in0).mp hR127
    have hR131 := (congrArg (fun qq : Nat → Nat => reg _ _ _ (qq)) (up_in0)).mp hR130
    have hR132 := (congrArg (fun qq : Nat => reg _ _ _ (va_up (va_up V 22 qq) 23 (y * 10 ^ ((-n).toNat)))) (show (x) = (x * 10 ^ n.toNat) from e10 (by omega))).mp hR131
    refine J_vret rfl d_M_moved_38 ⟨by decide, by decide⟩ ?_
    exact ⟨rfl, rfl, rfl, _, _, hR132, rfl⟩
  · refine J_aload_n 0 d_M_moved_20 rfl rfl ?_
    refine J_bipush d_M_moved_21 (i8_ok (by decide)) ?_
    refine J_iload_n 1 d_M_moved_23 rfl rfl ?_
    refine J_callVv cw_M_208 nh_M_tens pn_M_tens rfl rfl (by omega) (by rw [va_up_ne _ _ (by decide), va_up_ne _ _ (by decide)]; exact hO) (As := [.int (iI 22), .int (iI n)]) (rest := []) rfl (Nat.le_of_ble_eq_true rfl) ⟨by decide, by decide⟩ rfl ⟨by decide, by decide⟩ d_M_moved_24 (k_M_tens hfl (a := 22) (n := n) (hh := bh120) (ll := bl121) (V := va_up (va_up V 22 x) 23 y) (br := va_up (va_up br 22 0) 23 0) (hN := hN) (hO := (by rw [va_up_ne _ _ (by decide), va_up_ne _ _ (by decide)]; exact hO)) (hB := (by rw [va_up_ne _ _ (by decide), va_up_self])) (hL := (by rw [va_up_self])) (hR := hR122) (ha := by omega) (hxa := ((va_up_ne _ _ (by decide)).trans (va_up_self ..))) (bra := ((va_up_ne _ _ (by decide)).trans (va_up_self ..))) (hn := ⟨by omega, by omega⟩) (hT := Nat.le_trans (l168 hxb (by omega)) (by decide))) (fun  F4 hq => ?_)
    obtain ⟨bh133, bl134, hR135, eF4⟩ := hq
    refine J_eqF (F2 := va_up (va_up F 99 (.inl (g 0, 858, .inl (aI bh133)))) 100 (.inl (g 0, 33, .inl (aI bl134)))) (eF4.trans (Eq.trans (congrArg (fun q : Nat → va_E => va_up q 100 (.inl (g 0, 33, .inl (aI bl134)))) (up_in1 (by decide))) (up_in0))) ?_
    have hR138 := (congrArg (fun q => reg q _ _ _) (up_in1 (by decide))).mp hR135
    have hR139 := (congrArg (fun qq : Nat → Nat => reg _ _ _ (qq)) (up_in1 (by decide))).mp hR138
    refine J_goto (tgt := 38) d_M_moved_27 (by decide) ?_
    have hR140 := (congrArg (fun qq : Nat => reg _ _ _ (va_up (va_up V 22 (x * 10 ^ n.toNat)) 23 qq)) (show (y) = (y * 10 ^ (-n).toNat) from e10 (by omega))).mp hR139
    refine J_vret rfl d_M_moved_38 ⟨by decide, by decide⟩ ?_
    exact ⟨rfl, rfl, rfl, _, _, hR140, rfl⟩
set_option maxRecDepth 100000 in
set_option maxHeartbeats 4000000 in
theorem c_M_exponent {l : Launch} (hfl : l.flags = flags0) {D : va_G} {g : Nat → ClassId} {ad : Nat → Nat} {N : Nat} {F : Nat → va_E} {hh ll f : Nat → Int} {v : UInt64} {V : Nat → Nat} {br : Nat → Nat} {x y : Nat}
    (hN : 109 ≤ N) (hO : F 98 = oM ad f v) (hB : F 99 = aB g hh) (hL : F 100 = aL g ll) (hR : reg br hh ll V) (hzz : okB br) (hx : V 31 = x) (hy : V 28 = y) (hxb : x < 2 ^ 168) (hyb : y < 2 ^ 168) (hx0 : 0 < x) (hy0 : 0 < y) :
    JC l y_M_exponent b_M_exponent 2 (Option.some Jvm.ClassFile.FieldType.int) rm_M_exponent (0, 0) D jCl (jTys g) ad N F [.ref (ad 98)] (ji ad N (fun z F' => isX x y z ∧ (-60 ≤ z ∧ z < 60) ∧ ∃ (hh' ll' : Nat → Int) (W : Nat → Nat), reg br hh' ll' W ∧ (∀ k, k ≠ 22 → k ≠ 23 → W k = V k) ∧ F' = va_up (va_up F 99 (aB g hh')) 100 (aL g ll'))) := by
  refine JC.go hfl (own := "NumberTowerModel") (lv := [(0, .ref (ad 98))]) rfl (by decide +kernel) (Nat.le_of_ble_eq_true rfl) rfl (fun A => ?_)
  refine J_aload_n 0 d_M_exponent_0 rfl rfl ?_
  obtain ⟨e0, he1, he2, he3⟩ := isX_b hx0 hy0 hxb hyb
  have hxl : blen x ≤ 168 := blen_le.mpr hxb
  have hyl : blen y ≤ 168 := blen_le.mpr hyb
  refine J_bipush d_M_exponent_1 (i8_ok (by decide)) ?_
  refine J_callVi cw_M_62 nh_M_bits pn_M_bits rfl rfl (by omega) hO (As := [.int (iI 31)]) (rest := []) rfl (Nat.le_of_ble_eq_true rfl) ⟨by decide, by decide⟩ rfl ⟨by decide, by decide⟩ d_M_exponent_3 (k_M_bits hfl (a := 31) (hh := hh) (ll := ll) (V := V) (br := br) (hN := hN) (hO := hO) (hB := hB) (hL := hL) (hR := hR) (ha := by omega) (hxa := hx) (bra := (hzz.2 31 (by decide) (by decide)))) (fun z141 F1 hq => ?_)
  obtain ⟨hz141, eF1⟩ := hq
  refine J_eqF eF1 ?_
  refine J_topi (r := (((blen x : Nat)) : Int)) (congrArg iI hz141) ?_
  refine J_aload_n 0 d_M_exponent_6 rfl rfl ?_
  refine J_bipush d_M_exponent_7 (i8_ok (by decide)) ?_
  refine J_callVi cw_M_62 nh_M_bits pn_M_bits rfl rfl (by omega) hO (As := [.int (iI 28)]) (rest := [.int (iI (((blen x : Nat)) : Int))]) rfl (Nat.le_of_ble_eq_true rfl) ⟨by decide, by decide⟩ rfl ⟨by decide, by decide⟩ d_M_exponent_9 (k_M_bits hfl (a := 28) (hh := hh) (ll := ll) (V := V) (br := br) (hN := hN) (hO := hO) (hB := hB) (hL := hL) (hR := hR) (ha := by omega) (hxa := hy) (bra := (hzz.2 28 (by decide) (by decide)))) (fun z142 F2 hq => ?_)
  obtain ⟨hz142, eF2⟩ := hq
  refine J_eqF eF2 ?_
  refine J_topi (r := (((blen y : Nat)) : Int)) (congrArg iI hz142) ?_
  refine J_isub d_M_exponent_12 ?_
  refine J_sipush d_M_exponent_13 (i16_ok (by decide)) ?_
  refine J_imul d_M_exponent_16 ?_
  refine J_ldcw (z := 100000) d_M_exponent_17 wd_1364 (by decide) ?_
  refine J_idiv d_M_exponent_20 (by omega) (by omega) ?_
  obtain ⟨ei, hei⟩ : ∃ ei : Int, ei = (((((blen x : Nat)) : Int) - (((blen y : Nat)) : Int)) * 30103).tdiv 100000 := ⟨_, rfl⟩
  have heb : -51 ≤ ei ∧ ei ≤ 51 := by rw [hei]; exact tdiv_b (by omega)
  refine J_topi (r := ei) (congrArg iI hei.symm) ?_
  refine J_istore_n (lv' := [(1, .int (iI ei)), (0, .ref (ad 98))]) d_M_exponent_21 rfl (by decide) rfl ?_
  refine J_pick (lv' := [(0, .ref (ad 98)), (1, .int (iI ei))]) [1, 0] rfl ?_
  refine J_eqF (F2 := va_up F 99 (.inl (g 0, 858, .inl (aI hh)))) (up_same1 hB) ?_
  refine J_eqF (F2 := va_up (va_up F 99 (.inl (g 0, 858, .inl (aI hh)))) 100 (.inl (g 0, 33, .inl (aI ll)))) (up_same1 (by rw [va_up_ne _ _ (by decide)]; exact hL)) ?_
  have loop22 : ∀ (fuel : Nat) (e : Int) (e1 : Nat → Int) (e2 : Nat → Int) (j1 : Nat) (j2 : Nat) (heb : -60 ≤ e ∧ e ≤ 51 ∧ e0 ≤ 60) (hRL22 : reg br e1 e2 (va_up (va_up V 22 j1) 23 j2)) (hfu : (e + 61).toNat < fuel), J l rm_M_exponent (0, 0) "NumberTowerModel" b_M_exponent 2 (Option.some Jvm.ClassFile.FieldType.int) D jCl (jTys g) A (fun _ me => me.name = y_M_exponent.name) (ji ad N (fun z F' => isX x y z ∧ (-60 ≤ z ∧ z < 60) ∧ ∃ (hh' ll' : Nat → Int) (W : Nat → Nat), reg br hh' ll' W ∧ (∀ k, k ≠ 22 → k ≠ 23 → W k = V k) ∧ F' = va_up (va_up F 99 (aB g hh')) 100 (aL g ll'))) ad N 0 0 22 [(0, .ref (ad 98)), (1, .int (iI e))] [] (va_up (va_up F 99 (.inl (g 0, 858, .inl (aI e1)))) 100 (.inl (g 0, 33, .inl (aI e2)))) := by
    intro fuel
    induction fuel with
    | zero => intro e e1 e2 j1 j2 heb hRL22 hfu; exact absurd hfu (Nat.not_lt_zero _)
    | succ fuel ih =>
      intro e e1 e2 j1 j2 heb hRL22 hfu
      refine J_aload_n 0 d_M_exponent_22 rfl rfl ?_
      refine J_iload_n 1 d_M_exponent_23 rfl rfl ?_
      refine J_callVi cw_M_282 nh_M_reaches pn_M_reaches rfl rfl (by omega) (by rw [va_up_ne _ _ (by decide), va_up_ne _ _ (by decide)]; exact hO) (As := [.int (iI e)]) (rest := []) rfl (Nat.le_of_ble_eq_true rfl) ⟨by decide, by decide⟩ rfl ⟨by decide, by decide⟩ d_M_exponent_24 (c_M_reaches hfl (x := x) (y := y) (e := e) (hh := e1) (ll := e2) (f := f) (v := v) (V := va_up (va_up V 22 j1) 23 j2) (br := br) hN (by rw [va_up_ne _ _ (by decide), va_up_ne _ _ (by decide)]; exact hO) (by rw [va_up_ne _ _ (by decide), va_up_self]) (by rw [va_up_self]) hRL22 hzz ((va_up_ne _ _ (by decide)).trans ((va_up_ne _ _ (by decide)).trans hx)) ((va_up_ne _ _ (by decide)).trans ((va_up_ne _ _ (by decide)).trans hy)) hxb hyb ⟨by omega, by omega⟩) (fun z143 F3 hq => ?_)
      obtain ⟨hz143, bh144, bl145, hR146, eF3⟩ := hq
      refine J_eqF (F2 := va_up (va_up F 99 (.inl (g 0, 858, .inl (aI bh144)))) 100 (.inl (g 0, 33, .inl (aI bl145)))) (eF3.trans (Eq.trans (congrArg (fun q : Nat → va_E => va_up q 100 (.inl (g 0, 33, .inl (aI bl145)))) (up_in1 (by decide))) (up_in0))) ?_
      have hR147 := (congrArg (fun qq : Nat → Nat => reg _ _ _ (va_up (qq) 23 (y * 10 ^ (e).toNat))) (up_in1 (by decide))).mp hR146
      have hR148 := (congrArg (fun qq : Nat → Nat => reg _ _ _ (qq)) (up_in0)).mp hR147
      have hR149 := (reg_w1 (hzz.1 _) (reg_w1 ((hzz_up hzz).1 _) hR148))
      have hrz := hz143
      refine J_ifne (tgt := 36) d_M_exponent_27 (by decide) ⟨by omega, by omega⟩ (fun c27 => ?_) (fun c27 => ?_)
      · have loop36 : ∀ (fuel : Nat) (e : Int) (e1 : Nat → Int) (e2 : Nat → Int) (j1 : Nat) (j2 : Nat) (heb : -60 ≤ e ∧ e ≤ 60) (hrc : rch x y e) (hRL36 : reg br e1 e2 (va_up (va_up V 22 j1) 23 j2)) (hfu : (60 - e).toNat < fuel), J l rm_M_exponent (0, 0) "NumberTowerModel" b_M_exponent 2 (Option.some Jvm.ClassFile.FieldType.int) D jCl (jTys g) A (fun _ me => me.name = y_M_exponent.name) (ji ad N (fun z F' => isX x y z ∧ (-60 ≤ z ∧ z < 60) ∧ ∃ (hh' ll' : Nat → Int) (W : Nat → Nat), reg br hh' ll' W ∧ (∀ k, k ≠ 22 → k ≠ 23 → W k = V k) ∧ F' = va_up (va_up F 99 (aB g hh')) 100 (aL g ll'))) ad N 0 0 36 [(0, .ref (ad 98)), (1, .int (iI e))] [] (va_up (va_up F 99 (.inl (g 0, 858, .inl (aI e1)))) 100 (.inl (g 0, 33, .inl (aI e2)))) := by
          intro fuel
          induction fuel with
          | zero => intro e e1 e2 j1 j2 heb hrc hRL36 hfu; exact absurd hfu (Nat.not_lt_zero _)
          | succ fuel ih =>
            intro e e1 e2 j1 j2 heb hrc hRL36 hfu
            have hle : e ≤ e0 := by
              apply Classical.byContradiction
              intro w
              exact he3.2 (rch_mono hx0 (by omega) hrc)
            refine J_aload_n 0 d_M_exponent_36 rfl rfl ?_
            refine J_iload_n 1 d_M_exponent_37 rfl rfl ?_
            refine J_iconst d_M_exponent_38 ?_
            refine J_iadd d_M_exponent_39 ?_
            refine J_callVi cw_M_282 nh_M_reaches pn_M_reaches rfl rfl (by omega) (by rw [va_up_ne _ _ (by decide), va_up_ne _ _ (by decide)]; exact hO) (As := [.int (iI (e + 1))]) (rest := []) rfl (Nat.le_of_ble_eq_true rfl) ⟨by decide, by decide⟩ rfl ⟨by decide, by decide⟩ d_M_exponent_40 (c_M_reaches hfl (x := x) (y := y) (e := e + 1) (hh := e1) (ll := e2) (f := f) (v := v) (V := va_up (va_up V 22 j1) 23 j2) (br := br) hN (by rw [va_up_ne _ _ (by decide), va_up_ne _ _ (by decide)]; exact hO) (by rw [va_up_ne _ _ (by decide), va_up_self]) (by rw [va_up_self]) hRL36 hzz ((va_up_ne _ _ (by decide)).trans ((va_up_ne _ _ (by decide)).trans hx)) ((va_up_ne _ _ (by decide)).trans ((va_up_ne _ _ (by decide)).trans hy)) hxb hyb ⟨by omega, by omega⟩) (fun z150 F4 hq => ?_)
            obtain ⟨hz150, bh151, bl152, hR153, eF4⟩ := hq
            refine J_eqF (F2 := va_up (va_up F 99 (.inl (g 0, 858, .inl (aI bh151)))) 100 (.inl (g 0, 33, .inl (aI bl152)))) (eF4.trans (Eq.trans (congrArg (fun q : Nat → va_E => va_up q 100 (.inl (g 0, 33, .inl (aI bl152)))) (up_in1 (by decide))) (up_in0))) ?_
            have hR154 := (congrArg (fun qq : Nat → Nat => reg _ _ _ (va_up (qq) 23 (y * 10 ^ (e + 1).toNat))) (up_in1 (by decide))).mp hR153
            have hR155 := (congrArg (fun qq : Nat → Nat => reg _ _ _ (qq)) (up_in0)).mp hR154
            have hR156 := (reg_w1 (hzz.1 _) (reg_w1 ((hzz_up hzz).1 _) hR155))
            have hrz := hz150
            refine J_ifeq (tgt := 52) d_M_exponent_43 (by decide) ⟨by omega, by omega⟩ (fun c43 => ?_) (fun c43 => ?_)
            · refine J_iload_n 1 d_M_exponent_52 rfl rfl ?_
              refine J_iret rfl rfl d_M_exponent_53 ⟨by decide, by decide⟩ ?_
              have h9 : ¬ rch x y (e + 1) := by
                intro q
                rcases hrz with w | w
                · omega
                · exact w.2 q
              exact ⟨_, rfl, rfl, rfl, ⟨hrc, h9⟩, by omega, _, _, _, hR156, (fun k h1 h2 => (show (va_up (va_up V 22 (x * 10 ^ (-(e + 1)).toNat)) 23 (y * 10 ^ (e + 1).toNat)) k = V k from by rw [va_up_ne _ _ h2, va_up_ne _ _ h1])), rfl⟩
            · refine J_iinc (j := 1) (b := e + 1) (lv' := [(1, .int (iI (e + 1))), (0, .ref (ad 98))]) d_M_exponent_46 rfl (by omega) (by decide) rfl ?_
              refine J_goto (tgt := 36) d_M_exponent_49 (by decide) ?_
              refine J_pick (lv' := [(0, .ref (ad 98)), (1, .int (iI (e + 1)))]) [1, 0] rfl ?_
              refine ih (e + 1) bh151 bl152 (x * 10 ^ (-(e + 1)).toNat) (y * 10 ^ (e + 1).toNat) ?_ (by have h9 := hrz; by_cases q : rch x y (e + 1); exact q; exact absurd h9 (by intro w; rcases w with w | w; exact q w.2; omega)) hR156 (by omega)
              · have h9 : rch x y (e + 1) := by
                  rcases hrz with w | w
                  · exact w.2
                  · omega
                have : e + 1 ≤ e0 := by
                  apply Classical.byContradiction
                  intro w
                  exact he3.2 (rch_mono hx0 (by omega) h9)
                omega
        exact loop36 (((60 - e).toNat) + 1) e bh144 bl145 (x * 10 ^ (-(e)).toNat) (y * 10 ^ (e).toNat) (by omega) (by have h9 := hrz; by_cases q : rch x y e; exact q; exact absurd h9 (by intro w; rcases w with w | w; exact q w.2; omega)) hR149 (Nat.lt_succ_self _)
      · refine J_iinc (j := 1) (b := e - 1) (lv' := [(1, .int (iI (e - 1))), (0, .ref (ad 98))]) d_M_exponent_30 rfl (by omega) (by decide) rfl ?_
        refine J_goto (tgt := 22) d_M_exponent_33 (by decide) ?_
        refine J_pick (lv' := [(0, .ref (ad 98)), (1, .int (iI (e - 1)))]) [1, 0] rfl ?_
        refine ih (e - 1) bh144 bl145 (x * 10 ^ (-(e)).toNat) (y * 10 ^ (e).toNat) ?_ hR149 (by omega)
        · have h9 : ¬ rch x y e := by
            rcases hrz with w | w
            · omega
            · exact w.2
          have hlt : ¬ e ≤ e0 := fun w => h9 (rch_mono hx0 (by omega) he3.1)
          omega
  have hx_ := (congrArg (reg _ _ _) (up_same1 (i := 22) (a := (V 22)) rfl)).mp hR
  have hy_22 := hx_
  have hx_ := (congrArg (reg _ _ _) (up_same1 (i := 23) (a := (V 23)) (va_up_ne _ _ (by decide)))).mp hy_22
  have hy_23 := hx_
  exact loop22 (((ei + 61).toNat) + 1) ei hh ll (V 22) (V 23) (by omega) hy_23 (Nat.lt_succ_self _)
set_option maxRecDepth 100000 in
set_option maxHeartbeats 4000000 in
theorem c_M_leads {l : Launch} (hfl : l.flags = flags0) {D : va_G} {g : Nat → ClassId} {ad : Nat → Nat} {N : Nat} {F : Nat → va_E} {hh ll f : Nat → Int} {v : UInt64} {V : Nat → Nat} {br : Nat → Nat} {a G u d m : Nat} {n e0 : Int} {rr : Nat → UInt64}
    (hN : 109 ≤ N) (hO : F 98 = oM ad f v) (hB : F 99 = aB g hh) (hL : F 100 = aL g ll) (hR : reg br hh ll V) (hzz : okB br) (hRr : F 103 = .inl (g 3, 8, .inr (.inr (.inr (.inl rr))))) (ha : a < 8) (hn : -99 ≤ n ∧ n ≤ 99) (hg : V 27 = G) (hG : 0 < G) (hGb : G < 2 ^ 168) (hrr : rr a = fd false m e0) (hm : 4503599627370496 ≤ m ∧ m < 9007199254740992) (he : -152 ≤ e0 ∧ e0 ≤ 47) (hu : u = lowu (su m e0) (sd 1 e0)) (hd : d = lowd (su m e0) (sd 1 e0)) :
    JC l y_M_leads b_M_leads 5 (Option.some Jvm.ClassFile.FieldType.boolean) rm_M_leads (0, 0) D jCl (jTys g) ad N F [.ref (ad 98), .int (iI (a : Int)), .int (iI n)] (ji ad N (fun z F' => ((z = 1 ∧ lead u d n G) ∨ (z = 0 ∧ ¬ lead u d n G)) ∧ ∃ (hh' ll' : Nat → Int) (W : Nat → Nat) (b : Int), reg br hh' ll' W ∧ (∀ k, ¬(24 ≤ k ∧ k ≤ 30 ∧ k ≠ 27 ∧ k ≠ 28) → k ≠ 20 → k ≠ 21 → W k = V k) ∧ F' = va_up (va_up (va_up F 98 (oM ad (va_up f 8 b) v)) 99 (aB g hh')) 100 (aL g ll'))) := by
  refine JC.go hfl (own := "NumberTowerModel") (lv := [(0, .ref (ad 98)), (1, .int (iI (a : Int))), (2, .int (iI n))]) rfl (by decide +kernel) (Nat.le_of_ble_eq_true rfl) rfl (fun A => ?_)
  refine J_aload_n 0 d_M_leads_0 rfl rfl ?_
  refine J_bipush d_M_leads_1 (i8_ok (by decide)) ?_
  refine J_bipush d_M_leads_3 (i8_ok (by decide)) ?_
  refine J_callVv cw_M_58 nh_M_copy pn_M_copy rfl rfl (by omega) hO (As := [.int (iI 27), .int (iI 20)]) (rest := []) rfl (Nat.le_of_ble_eq_true rfl) ⟨by decide, by decide⟩ rfl ⟨by decide, by decide⟩ d_M_leads_5 (k_M_copy hfl (a := 27) (b := 20) (hh := hh) (ll := ll) (V := V) (br := br) (hN := hN) (hO := hO) (hB := hB) (hL := hL) (hR := hR) (ha := by omega) (hb := by omega) (hxa := hg) (bra := (hzz.2 27 (by decide) (by decide)))) (fun  F1 hq => ?_)
  obtain ⟨bh157, bl158, hR159, eF1⟩ := hq
  refine J_eqF (F2 := va_up (va_up F 99 (.inl (g 0, 858, .inl (aI bh157)))) 100 (.inl (g 0, 33, .inl (aI bl158)))) eF1 ?_
  have hR162 := reg_w1 (hzz.1 _) hR159
  refine J_aload_n 0 d_M_leads_8 rfl rfl ?_
  refine J_bipush d_M_leads_9 (i8_ok (by decide)) ?_
  refine J_lconst (v := 1) d_M_leads_11 rfl ?_
  refine J_callVv cw_M_82 nh_M_put pn_M_put rfl rfl (by omega) (by rw [va_up_ne _ _ (by decide), va_up_ne _ _ (by decide)]; exact hO) (As := [.int (iI 21), .long (lI 1)]) (rest := []) rfl (Nat.le_of_ble_eq_true rfl) ⟨by decide, by decide⟩ rfl ⟨by decide, by decide⟩ d_M_leads_12 (k_M_put hfl (a := 21) (n := 1) (hh := bh157) (ll := bl158) (V := va_up V 20 G) (br := br) (hN := hN) (hO := (by rw [va_up_ne _ _ (by decide), va_up_ne _ _ (by decide)]; exact hO)) (hB := (by rw [va_up_ne _ _ (by decide), va_up_self])) (hL := (by rw [va_up_self])) (hR := hR162) (ha := by omega) (hn := by decide)) (fun  F2 hq => ?_)
  obtain ⟨bh163, bl164, hR165, eF2⟩ := hq
  refine J_eqF (F2 := va_up (va_up F 99 (.inl (g 0, 858, .inl (aI bh163)))) 100 (.inl (g 0, 33, .inl (aI bl164)))) (eF2.trans (Eq.trans (congrArg (fun q : Nat → va_E => va_up q 100 (.inl (g 0, 33, .inl (aI bl164)))) (up_in1 (by decide))) (up_in0))) ?_
  have hR168 := reg_w1 (hzz.1 _) hR165
  refine J_iload_n 2 d_M_leads_15 rfl rfl ?_
  refine J_ifle (tgt := 29) d_M_leads_16 (by decide) ⟨by omega, by omega⟩ (fun c16 => ?_) (fun c16 => ?_)
  · refine J_aload_n 0 d_M_leads_29 rfl rfl ?_
    refine J_bipush d_M_leads_30 (i8_ok (by decide)) ?_
    refine J_iload_n 2 d_M_leads_32 rfl rfl ?_
    refine J_ineg d_M_leads_33 ?_
    refine J_callVv cw_M_208 nh_M_tens pn_M_tens rfl rfl (by omega) (by rw [va_up_ne _ _ (by decide), va_up_ne _ _ (by decide)]; exact hO) (As := [.int (iI 21), .int (iI (-n))]) (rest := []) rfl (Nat.le_of_ble_eq_true rfl) ⟨by decide, by decide⟩ rfl ⟨by decide, by decide⟩ d_M_leads_34 (k_M_tens hfl (a := 21) (n := -n) (hh := bh163) (ll := bl164) (V := va_up (va_up V 20 G) 21 1) (br := br) (hN := hN) (hO := (by rw [va_up_ne _ _ (by decide), va_up_ne _ _ (by decide)]; exact hO)) (hB := (by rw [va_up_ne _ _ (by decide), va_up_self])) (hL := (by rw [va_up_self])) (hR := hR168) (ha := by omega) (hxa := (va_up_self ..)) (bra := (hzz.2 21 (by decide) (by decide))) (hn := ⟨by omega, by omega⟩) (hT := Nat.le_trans (l168 (by decide) (by omega)) (by decide))) (fun  F3 hq => ?_)
    obtain ⟨bh169, bl170, hR171, eF3⟩ := hq
    refine J_eqF (F2 := va_up (va_up F 99 (.inl (g 0, 858, .inl (aI bh169)))) 100 (.inl (g 0, 33, .inl (aI bl170)))) (eF3.trans (Eq.trans (congrArg (fun q : Nat → va_E => va_up q 100 (.inl (g 0, 33, .inl (aI bl170)))) (up_in1 (by decide))) (up_in0))) ?_
    have hR174 := reg_w1 (hzz.1 _) hR171
    have hR175 := (congrArg (fun qq : Nat → Nat => reg _ _ _ (qq)) (up_in0)).mp hR174
    have hR176 := (congrArg (fun qq : Nat => reg _ _ _ (va_up (va_up V 20 qq) 21 (1 * 10 ^ ((-n).toNat)))) (show (G) = (G * 10 ^ n.toNat) from e10 (by omega))).mp hR175
    refine J_aload_n 0 d_M_leads_37 rfl rfl ?_
    refine J_bipush d_M_leads_38 (i8_ok (by decide)) ?_
    refine J_bipush d_M_leads_40 (i8_ok (by decide)) ?_
    have hXn : G * 10 ^ n.toNat ≠ 0 := Nat.ne_of_gt (Nat.mul_pos hG (Nat.pow_pos (by decide)))
    have hYp : 0 < 1 * 10 ^ ((-n).toNat) := Nat.mul_pos (by decide) (Nat.pow_pos (by decide))
    refine J_callVd cw_M_118 nh_M_nearest pn_M_nearest rfl rfl (by omega) (by rw [va_up_ne _ _ (by decide), va_up_ne _ _ (by decide)]; exact hO) (As := [.int (iI 20), .int (iI 21)]) (rest := []) rfl (Nat.le_of_ble_eq_true rfl) ⟨by decide, by decide⟩ rfl ⟨by decide, by decide⟩ d_M_leads_42 (c_M_nearest2 hfl (u := 20) (d := 21) (X := G * 10 ^ n.toNat) (Y := 1 * 10 ^ ((-n).toNat)) (hh := bh169) (ll := bl170) (f := f) (v := v) (V := va_up (va_up V 20 (G * 10 ^ n.toNat)) 21 (1 * 10 ^ ((-n).toNat))) (br := br) hN (by rw [va_up_ne _ _ (by decide), va_up_ne _ _ (by decide)]; exact hO) (by rw [va_up_ne _ _ (by decide), va_up_self]) (by rw [va_up_self]) hR176 hzz (by decide) (by decide) (hzz.2 20 (by decide) (by decide)) (hzz.2 21 (by decide) (by decide)) ((va_up_ne _ _ (by decide)).trans (va_up_self ..)) (va_up_self ..) hYp (l168 hGb (by omega)) (l168 (by decide) (by omega)) (b168 hGb (by omega)) (b168 (by decide) (by omega))) (fun zd F4 hq => ?_)
    obtain ⟨bh9, bl9, W9, b9, hR9, hW9, hz9, eF4⟩ := hq
    refine J_eqF (F2 := va_up (va_up (va_up F 99 (.inl (g 0, 858, .inl (aI bh9)))) 100 (.inl (g 0, 33, .inl (aI bl9)))) 98 (oM ad (va_up f 8 b9) v)) (eF4.trans (Eq.trans (congrArg (fun q : Nat → va_E => va_up q 100 (.inl (g 0, 33, .inl (aI bl9)))) (up_in2 (by decide) (by decide))) (up_in1 (by decide)))) ?_
    have hb01 : b9 = 0 ∨ b9 = 1 := by rcases hz9 with w | w | w; exact Or.inr w.2.2.1; exact Or.inl w.2.1; exact Or.inl w.2.2.1
    have hld := lead_dc (u := u) (d := d) hXn hYp hm he hu hd hz9
    replace hz9 : hold _ := hz9
    rw [← hrr] at hld
    refine J_dstore_n (lv' := [(3, .double zd), (0, .ref (ad 98)), (1, .int (iI (a : Int))), (2, .int (iI n))]) d_M_leads_45 rfl (by decide) rfl ?_
    refine J_aload_n 1 d_M_leads_46 rfl rfl ?_
    refine gf_M_94 (by omega) (by rw [va_up_self]) rfl d_M_leads_47 ?_
    refine J_topi (r := b9) (congrArg iI (va_up_self ..)) ?_
    refine J_ifne (tgt := 68) d_M_leads_50 (by decide) ⟨by omega, by omega⟩ (fun c50 => ?_) (fun c50 => ?_)
    · refine J_iconst d_M_leads_68 ?_
      refine J_eqF (F2 := va_up (va_up (va_up F 98 (oM ad (va_up f 8 b9) v)) 99 (.inl (g 0, 858, .inl (aI bh9)))) 100 (.inl (g 0, 33, .inl (aI bl9)))) (Eq.trans (up_cm (by decide)) (congrArg (fun qq : Nat → va_E => va_up qq 100 (.inl (g 0, 33, .inl (aI bl9)))) (up_cm (by decide)))) ?_
      refine J_iret rfl (nb01 (by omega)).1 d_M_leads_69 ⟨by decide, by decide⟩ ?_
      refine ⟨_, rfl, rfl, rfl, Or.inr ⟨rfl, fun w => by have := (hld.mpr w).1; omega⟩, _, _, _, b9, hR9, ?_, rfl⟩
      intro k h1 h2 h3
      rw [hW9 k (by omega), va_up_ne _ _ (by omega), va_up_ne _ _ (by omega)]
    · refine J_dload_n 0 d_M_leads_53 rfl rfl ?_
      refine J_aload_n 1 d_M_leads_54 rfl rfl ?_
      refine gf_M_23 (by omega) (by rw [va_up_self]) rfl d_M_leads_55 ?_
      refine J_iload_n 2 d_M_leads_58 rfl rfl ?_
      refine J_daload 3 rfl (by omega) (by rw [va_up_ne _ _ (by decide), va_up_ne _ _ (by decide), va_up_ne _ _ (by decide)]; exact hRr) (by omega) d_M_leads_59 ?_
      refine J_topd (y := rr a) (congrArg (fun q => rr q) (by omega)) ?_
      refine J_dcmp d_M_leads_60 ?_
      refine J_rifne (tgt := 68) d_M_leads_61 (by decide) (fun c60 => ?_) (fun c60 => ?_)
      · refine J_iconst d_M_leads_68 ?_
        refine J_eqF (F2 := va_up (va_up (va_up F 98 (oM ad (va_up f 8 b9) v)) 99 (.inl (g 0, 858, .inl (aI bh9)))) 100 (.inl (g 0, 33, .inl (aI bl9)))) (Eq.trans (up_cm (by decide)) (congrArg (fun qq : Nat → va_E => va_up qq 100 (.inl (g 0, 33, .inl (aI bl9)))) (up_cm (by decide)))) ?_
        refine J_iret rfl (nb01 (by omega)).1 d_M_leads_69 ⟨by decide, by decide⟩ ?_
        refine ⟨_, rfl, rfl, rfl, Or.inr ⟨rfl, fun w => c60 (hld.mpr w).2⟩, _, _, _, b9, hR9, ?_, rfl⟩
        intro k h1 h2 h3
        rw [hW9 k (by omega), va_up_ne _ _ (by omega), va_up_ne _ _ (by omega)]
      · refine J_iconst d_M_leads_64 ?_
        refine J_goto (tgt := 69) d_M_leads_65 (by decide) ?_
        refine J_eqF (F2 := va_up (va_up (va_up F 98 (oM ad (va_up f 8 b9) v)) 99 (.inl (g 0, 858, .inl (aI bh9)))) 100 (.inl (g 0, 33, .inl (aI bl9)))) (Eq.trans (up_cm (by decide)) (congrArg (fun qq : Nat → va_E => va_up qq 100 (.inl (g 0, 33, .inl (aI bl9)))) (up_cm (by decide)))) ?_
        refine J_iret rfl (nb01 (by omega)).1 d_M_leads_69 ⟨by decide, by decide⟩ ?_
        refine ⟨_, rfl, rfl, rfl, Or.inl ⟨rfl, hld.mp ⟨by omega, c60⟩⟩, _, _, _, b9, hR9, ?_, rfl⟩
        intro k h1 h2 h3
        rw [hW9 k (by omega), va_up_ne _ _ (by omega), va_up_ne _ _ (by omega)]
  · refine J_aload_n 0 d_M_leads_19 rfl rfl ?_
    refine J_bipush d_M_leads_20 (i8_ok (by decide)) ?_
    refine J_iload_n 2 d_M_leads_22 rfl rfl ?_
    refine J_callVv cw_M_208 nh_M_tens pn_M_tens rfl rfl (by omega) (by rw [va_up_ne _ _ (by decide), va_up_ne _ _ (by decide)]; exact hO) (As := [.int (iI 20), .int (iI n)]) (rest := []) rfl (Nat.le_of_ble_eq_true rfl) ⟨by decide, by decide⟩ rfl ⟨by decide, by decide⟩ d_M_leads_23 (k_M_tens hfl (a := 20) (n := n) (hh := bh163) (ll := bl164) (V := va_up (va_up V 20 G) 21 1) (br := br) (hN := hN) (hO := (by rw [va_up_ne _ _ (by decide), va_up_ne _ _ (by decide)]; exact hO)) (hB := (by rw [va_up_ne _ _ (by decide), va_up_self])) (hL := (by rw [va_up_self])) (hR := hR168) (ha := by omega) (hxa := ((va_up_ne _ _ (by decide)).trans (va_up_self ..))) (bra := (hzz.2 20 (by decide) (by decide))) (hn := ⟨by omega, by omega⟩) (hT := Nat.le_trans (l168 hGb (by omega)) (by decide))) (fun  F5 hq => ?_)
    obtain ⟨bh177, bl178, hR179, eF5⟩ := hq
    refine J_eqF (F2 := va_up (va_up F 99 (.inl (g 0, 858, .inl (aI bh177)))) 100 (.inl (g 0, 33, .inl (aI bl178)))) (eF5.trans (Eq.trans (congrArg (fun q : Nat → va_E => va_up q 100 (.inl (g 0, 33, .inl (aI bl178)))) (up_in1 (by decide))) (up_in0))) ?_
    have hR182 := reg_w1 (hzz.1 _) hR179
    have hR183 := (congrArg (fun qq : Nat → Nat => reg _ _ _ (qq)) (up_in1 (by decide))).mp hR182
    refine J_goto (tgt := 37) d_M_leads_26 (by decide) ?_
    have hR184 := (congrArg (fun qq : Nat => reg _ _ _ (va_up (va_up V 20 (G * 10 ^ n.toNat)) 21 qq)) (show (1) = (1 * 10 ^ (-n).toNat) from e10 (by omega))).mp hR183
    refine J_aload_n 0 d_M_leads_37 rfl rfl ?_
    refine J_bipush d_M_leads_38 (i8_ok (by decide)) ?_
    refine J_bipush d_M_leads_40 (i8_ok (by decide)) ?_
    have hXn : G * 10 ^ n.toNat ≠ 0 := Nat.ne_of_gt (Nat.mul_pos hG (Nat.pow_pos (by decide)))
    have hYp : 0 < 1 * 10 ^ (-n).toNat := Nat.mul_pos (by decide) (Nat.pow_pos (by decide))
    refine J_callVd cw_M_118 nh_M_nearest pn_M_nearest rfl rfl (by omega) (by rw [va_up_ne _ _ (by decide), va_up_ne _ _ (by decide)]; exact hO) (As := [.int (iI 20), .int (iI 21)]) (rest := []) rfl (Nat.le_of_ble_eq_true rfl) ⟨by decide, by decide⟩ rfl ⟨by decide, by decide⟩ d_M_leads_42 (c_M_nearest2 hfl (u := 20) (d := 21) (X := G * 10 ^ n.toNat) (Y := 1 * 10 ^ (-n).toNat) (hh := bh177) (ll := bl178) (f := f) (v := v) (V := va_up (va_up V 20 (G * 10 ^ n.toNat)) 21 (1 * 10 ^ (-n).toNat)) (br := br) hN (by rw [va_up_ne _ _ (by decide), va_up_ne _ _ (by decide)]; exact hO) (by rw [va_up_ne _ _ (by decide), va_up_self]) (by rw [va_up_self]) hR184 hzz (by decide) (by decide) (hzz.2 20 (by decide) (by decide)) (hzz.2 21 (by decide) (by decide)) ((va_up_ne _ _ (by decide)).trans (va_up_self ..)) (va_up_self ..) hYp (l168 hGb (by omega)) (l168 (by decide) (by omega)) (b168 hGb (by omega)) (b168 (by decide) (by omega))) (fun zd F6 hq => ?_)
    obtain ⟨bh9, bl9, W9, b9, hR9, hW9, hz9, eF6⟩ := hq
    refine J_eqF (F2 := va_up (va_up (va_up F 99 (.inl (g 0, 858, .inl (aI bh9)))) 100 (.inl (g 0, 33, .inl (aI bl9)))) 98 (oM ad (va_up f 8 b9) v)) (eF6.trans (Eq.trans (congrArg (fun q : Nat → va_E => va_up q 100 (.inl (g 0, 33, .inl (aI bl9)))) (up_in2 (by decide) (by decide))) (up_in1 (by decide)))) ?_
    have hb01 : b9 = 0 ∨ b9 = 1 := by rcases hz9 with w | w | w; exact Or.inr w.2.2.1; exact Or.inl w.2.1; exact Or.inl w.2.2.1
    have hld := lead_dc (u := u) (d := d) hXn hYp hm he hu hd hz9
    replace hz9 : hold _ := hz9
    rw [← hrr] at hld
    refine J_dstore_n (lv' := [(3, .double zd), (0, .ref (ad 98)), (1, .int (iI (a : Int))), (2, .int (iI n))]) d_M_leads_45 rfl (by decide) rfl ?_
    refine J_aload_n 1 d_M_leads_46 rfl rfl ?_
    refine gf_M_94 (by omega) (by rw [va_up_self]) rfl d_M_leads_47 ?_
    refine J_topi (r := b9) (congrArg iI (va_up_self ..)) ?_
    refine J_ifne (tgt := 68) d_M_leads_50 (by decide) ⟨by omega, by omega⟩ (fun c50 => ?_) (fun c50 => ?_)
    · refine J_iconst d_M_leads_68 ?_
      refine J_eqF (F2 := va_up (va_up (va_up F 98 (oM ad (va_up f 8 b9) v)) 99 (.inl (g 0, 858, .inl (aI bh9)))) 100 (.inl (g 0, 33, .inl (aI bl9)))) (Eq.trans (up_cm (by decide)) (congrArg (fun qq : Nat → va_E => va_up qq 100 (.inl (g 0, 33, .inl (aI bl9)))) (up_cm (by decide)))) ?_
      refine J_iret rfl (nb01 (by omega)).1 d_M_leads_69 ⟨by decide, by decide⟩ ?_
      refine ⟨_, rfl, rfl, rfl, Or.inr ⟨rfl, fun w => by have := (hld.mpr w).1; omega⟩, _, _, _, b9, hR9, ?_, rfl⟩
      intro k h1 h2 h3
      rw [hW9 k (by omega), va_up_ne _ _ (by omega), va_up_ne _ _ (by omega)]
    · refine J_dload_n 0 d_M_leads_53 rfl rfl ?_
      refine J_aload_n 1 d_M_leads_54 rfl rfl ?_
      refine gf_M_23 (by omega) (by rw [va_up_self]) rfl d_M_leads_55 ?_
      refine J_iload_n 2 d_M_leads_58 rfl rfl ?_
      refine J_daload 3 rfl (by omega) (by rw [va_up_ne _ _ (by decide), va_up_ne _ _ (by decide), va_up_ne _ _ (by decide)]; exact hRr) (by omega) d_M_leads_59 ?_
      refine J_topd (y := rr a) (congrArg (fun q => rr q) (by omega)) ?_
      refine J_dcmp d_M_leads_60 ?_
      refine J_rifne (tgt := 68) d_M_leads_61 (by decide) (fun c60 => ?_) (fun c60 => ?_)
      · refine J_iconst d_M_leads_68 ?_
        refine J_eqF (F2 := va_up (va_up (va_up F 98 (oM ad (va_up f 8 b9) v)) 99 (.inl (g 0, 858, .inl (aI bh9)))) 100 (.inl (g 0, 33, .inl (aI bl9)))) (Eq.trans (up_cm (by decide)) (congrArg (fun qq : Nat → va_E => va_up qq 100 (.inl (g 0, 33, .inl (aI bl9)))) (up_cm (by decide)))) ?_
        refine J_iret rfl (nb01 (by omega)).1 d_M_leads_69 ⟨by decide, by decide⟩ ?_
        refine ⟨_, rfl, rfl, rfl, Or.inr ⟨rfl, fun w => c60 (hld.mpr w).2⟩, _, _, _, b9, hR9, ?_, rfl⟩
        intro k h1 h2 h3
        rw [hW9 k (by omega), va_up_ne _ _ (by omega), va_up_ne _ _ (by omega)]
      · refine J_iconst d_M_leads_64 ?_
        refine J_goto (tgt := 69) d_M_leads_65 (by decide) ?_
        refine J_eqF (F2 := va_up (va_up (va_up F 98 (oM ad (va_up f 8 b9) v)) 99 (.inl (g 0, 858, .inl (aI bh9)))) 100 (.inl (g 0, 33, .inl (aI bl9)))) (Eq.trans (up_cm (by decide)) (congrArg (fun qq : Nat → va_E => va_up qq 100 (.inl (g 0, 33, .inl (aI bl9)))) (up_cm (by decide)))) ?_
        refine J_iret rfl (nb01 (by omega)).1 d_M_leads_69 ⟨by decide, by decide⟩ ?_
        refine ⟨_, rfl, rfl, rfl, Or.inl ⟨rfl, hld.mp ⟨by omega, c60⟩⟩, _, _, _, b9, hR9, ?_, rfl⟩
        intro k h1 h2 h3
        rw [hW9 k (by omega), va_up_ne _ _ (by omega), va_up_ne _ _ (by omega)]
