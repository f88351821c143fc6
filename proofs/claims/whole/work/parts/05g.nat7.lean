/-! naturals: taking away a multiple -/
def pz (t : Nat) : Int := ((2 ^ (30 * t) : Nat) : Int)
theorem pz_pos (t : Nat) : 0 < pz t := by unfold pz; have := Nat.two_pow_pos (30 * t); omega
theorem pz_s (t : Nat) : pz (t + 1) = pz t * 1073741824 := by unfold pz; rw [pw_succ, Int.natCast_mul]; rfl
theorem pz_a (i j : Nat) : pz (i + j) = pz i * pz j := by unfold pz; rw [Nat.mul_add, Nat.pow_add]; push_cast; rfl
theorem pz_n (t : Nat) : pz t = ((2 ^ (30 * t) : Nat) : Int) := rfl
def zdg (z : Int) (t : Nat) : Int := z / pz t % 1073741824
theorem zdg_b (z : Int) (t : Nat) : 0 ≤ zdg z t ∧ zdg z t < 1073741824 := by unfold zdg; omega
theorem zdg_n (n t : Nat) : zdg n t = dg n t := by
  unfold zdg pz dg dgt; rw [Int.natCast_emod, Int.natCast_ediv]; rfl
def zc (X Y : Int) (t : Nat) : Int := (X % pz t + Y) / pz t
theorem z_low (X : Int) (t : Nat) : X % pz (t + 1) = X % pz t + pz t * zdg X t := by
  have hP := pz_pos t
  rw [pz_s]
  unfold zdg
  generalize pz t = P at *
  have h1 := Int.mul_ediv_add_emod X P
  have h2 := Int.mul_ediv_add_emod (X / P) 1073741824
  have h3 : X = (X % P + P * (X / P % 1073741824)) + (P * 1073741824) * (X / P / 1073741824) := by
    rw [Int.mul_assoc, Int.add_assoc, ← Int.mul_add, Int.add_comm (X / P % 1073741824), h2]; omega
  have h4 : 0 ≤ X % P := Int.emod_nonneg _ (by omega)
  have h5 : X % P < P := Int.emod_lt_of_pos _ hP
  have h6 : 0 ≤ X / P % 1073741824 := Int.emod_nonneg _ (by omega)
  have h7 : X / P % 1073741824 < 1073741824 := Int.emod_lt_of_pos _ (by omega)
  have h8 : 0 ≤ P * (X / P % 1073741824) := Int.mul_nonneg (by omega) h6
  have h9 : P * (X / P % 1073741824) ≤ P * (1073741824 - 1) := Int.mul_le_mul_of_nonneg_left (by omega) (by omega)
  conv => lhs; rw [h3]
  rw [Int.add_mul_emod_self_left, Int.emod_eq_of_lt (by omega) (by omega)]
theorem zc_core (X Y w : Int) (t : Nat) : (X % pz (t + 1) + (Y + w * pz t)) / pz t = zdg X t + w + zc X Y t := by
  have hP := pz_pos t
  rw [z_low]
  have : X % pz t + pz t * zdg X t + (Y + w * pz t) = X % pz t + Y + pz t * (zdg X t + w) := by rw [Int.mul_add, Int.mul_comm w]; omega
  rw [this, Int.add_mul_ediv_left _ _ (by omega)]
  unfold zc
  omega
theorem zc_step {X Y w Y' : Int} {t : Nat} (h : Y' = Y + w * pz t) : zc X Y' (t + 1) = (zdg X t + w + zc X Y t) / 1073741824 := by
  have hP := pz_pos t
  rw [← zc_core, h, Int.ediv_ediv_of_nonneg (by omega), ← pz_s]
  rfl
theorem zc_dig {X Y w q T : Int} {t : Nat} (h : T = X + (Y + w * pz t) + q * pz (t + 1)) : zdg T t = (zdg X t + w + zc X Y t) % 1073741824 := by
  have hP := pz_pos t
  have h2 : T = X % pz (t + 1) + (Y + w * pz t) + pz t * (1073741824 * (X / pz (t + 1) + q)) := by
    have e1 : pz t * (1073741824 * (X / pz (t + 1) + q)) = pz (t + 1) * (X / pz (t + 1)) + q * pz (t + 1) := by
      rw [← Int.mul_assoc, ← pz_s, Int.mul_add, Int.mul_comm q]
    have := Int.mul_ediv_add_emod X (pz (t + 1))
    rw [e1]
    omega
  have h3 : zdg T t = T / pz t % 1073741824 := rfl
  rw [h3, h2, Int.add_mul_ediv_left _ _ (by omega), zc_core, Int.add_mul_emod_self_left]
theorem zdg_low {X m : Int} {b j : Nat} (h : j < b) : zdg (X + m * pz b) j = zdg X j := by
  have hP := pz_pos j
  obtain ⟨r, rfl⟩ : ∃ r, b = (j + 1) + r := ⟨b - (j + 1), by omega⟩
  unfold zdg
  rw [pz_a, pz_s, show m * (pz j * 1073741824 * pz r) = pz j * (1073741824 * (pz r * m)) by rw [Int.mul_comm m, Int.mul_assoc, Int.mul_assoc], Int.add_mul_ediv_left _ _ (by omega), Int.add_mul_emod_self_left]
theorem zc_z (X : Int) (t : Nat) : zc X 0 t = 0 := by
  unfold zc
  rw [Int.add_zero, Int.ediv_eq_zero_of_lt (Int.emod_nonneg _ (by have := pz_pos t; omega)) (Int.emod_lt_of_pos _ (pz_pos t))]
theorem zc_rng {X Y m : Int} {t : Nat} (h1 : -(m * pz t) ≤ Y) (h2 : Y ≤ 0) : -m ≤ zc X Y t ∧ zc X Y t ≤ 0 := by
  have hP := pz_pos t
  have h3 := Int.emod_nonneg X (b := pz t) (by omega)
  have h4 := Int.emod_lt_of_pos X hP
  unfold zc
  constructor
  · rw [Int.le_ediv_iff_mul_le hP, Int.neg_mul]; omega
  · have : (X % pz t + Y) / pz t < 1 := by rw [Int.ediv_lt_iff_lt_mul hP]; omega
    omega
theorem zc_rng1 {X Y : Int} {t : Nat} (h1 : 0 ≤ Y) (h2 : Y ≤ pz t) : 0 ≤ zc X Y t ∧ zc X Y t ≤ 1 := by
  have hP := pz_pos t
  have h3 := Int.emod_nonneg X (b := pz t) (by omega)
  have h4 := Int.emod_lt_of_pos X hP
  unfold zc
  constructor
  · rw [Int.le_ediv_iff_mul_le hP]; omega
  · have : (X % pz t + Y) / pz t < 2 := by rw [Int.ediv_lt_iff_lt_mul hP]; omega
    omega
def dl (d i : Nat) : Int := ((d % 2 ^ (30 * i) : Nat) : Int)
theorem dl_s (d i : Nat) : dl d (i + 1) = dl d i + dg d i * pz i := by
  unfold dl; rw [low_w]; unfold pz dg; push_cast; rfl
theorem dl_0 (d : Nat) : dl d 0 = 0 := by simp [dl, Nat.mod_one]
theorem dl_e {d i : Nat} (h : lnw 30 d ≤ i) : dl d i = d := by unfold dl; rw [low_e h]
theorem dl_b (d i : Nat) : 0 ≤ dl d i ∧ dl d i ≤ pz i := by unfold dl pz; have := low_b d i; omega
theorem dl_q (d i : Nat) : (d : Int) = dl d i + ((d / 2 ^ (30 * i) : Nat) : Int) * pz i := by
  unfold dl pz
  conv => lhs; rw [low_q d i]
  push_cast; rfl
theorem zY (m : Int) (d b i : Nat) : m * dl d (i + 1) * pz b = m * dl d i * pz b + m * dg d i * pz (b + i) := by
  rw [dl_s, Int.mul_add, Int.add_mul, pz_a, Int.mul_comm (pz b), ← Int.mul_assoc m, ← Int.mul_assoc (m * dg d i)]
theorem zT (X m : Int) (d b i : Nat) : X + m * d * pz b = X + (m * dl d i * pz b + m * dg d i * pz (b + i)) + m * ((d / 2 ^ (30 * (i + 1)) : Nat) : Int) * pz (b + i + 1) := by
  have h := dl_q d (i + 1)
  rw [← zY]
  conv => lhs; rw [h]
  rw [Int.mul_add, Int.add_mul, show b + i + 1 = (i + 1) + b by omega, pz_a (i + 1) b, Int.add_assoc, ← Int.mul_assoc m, ← Int.mul_assoc (m * _)]
/-- the limbs of a number modulo the t-th power -/
def za (z : Int) (t : Nat) : Nat → Int := mix t (zdg z) (fun _ => 0)
theorem za_lo {z : Int} {t j : Nat} (h : j < t) : za z t j = zdg z j := mix_lo h
theorem za_hi {z : Int} {t j : Nat} (h : t ≤ j) : za z t j = 0 := mix_hi h
theorem za_n {n t : Nat} (h : n < 2 ^ (30 * t)) : za n t = dg n := by
  funext j
  by_cases q : j < t
  · rw [za_lo q, zdg_n]
  · rw [za_hi (by omega), dg_nat, dgt_zero (Nat.lt_of_lt_of_le h (Nat.pow_le_pow_right (by decide) (by omega)))]; rfl
theorem knuth {W d E H f B qh : Nat} (hE : 0 < E) (hH : H = W / E) (hf : f = d / E) (hd : 0 < d) (hW : W < d * B) (h2 : B ≤ 2 * f) (hB : 0 < B) (hq : qh = min (H / f) (B - 1)) : W / d ≤ qh ∧ qh ≤ W / d + 2 := by
  have hf0 : 0 < f := by omega
  have hqB : W / d < B := by rw [Nat.div_lt_iff_lt_mul hd, Nat.mul_comm]; exact hW
  have h3 : W / d * d ≤ W := Nat.div_mul_le_self _ _
  have h4 : f * E ≤ d := by rw [hf]; exact Nat.div_mul_le_self _ _
  have h5 : d < (f + 1) * E := by rw [← Nat.div_lt_iff_lt_mul hE, ← hf]; omega
  have h6 : W < (W / d + 1) * d := by rw [← Nat.div_lt_iff_lt_mul hd]; omega
  constructor
  · have : W / d ≤ H / f := by
      rw [Nat.le_div_iff_mul_le hf0, hH, Nat.le_div_iff_mul_le hE, Nat.mul_assoc]
      exact Nat.le_trans (Nat.mul_le_mul_left _ h4) h3
    omega
  · apply Nat.le_of_not_lt
    intro h7
    have h8 : qh * f ≤ H := by
      have : qh ≤ H / f := by omega
      exact (Nat.le_div_iff_mul_le hf0).mp this
    have h9 : qh * f * E ≤ W := by rw [hH] at h8; exact (Nat.le_div_iff_mul_le hE).mp h8
    have h10 : (W / d + 1) * d ≤ (W / d + 1) * ((f + 1) * E) := Nat.mul_le_mul_left _ (Nat.le_of_lt h5)
    have h11 : qh * f * E < (W / d + 1) * (f + 1) * E := by rw [Nat.mul_assoc (W / d + 1)]; omega
    have h12 : qh * f < (W / d + 1) * (f + 1) := Nat.lt_of_mul_lt_mul_right h11
    have h13 : (W / d + 3) * f ≤ qh * f := Nat.mul_le_mul_right _ (by omega)
    generalize W / d = q at *
    rw [Nat.mul_add (q + 1) f 1, Nat.add_mul q 1 f, Nat.one_mul] at h12
    rw [Nat.add_mul q 3 f] at h13
    omega
set_option maxRecDepth 100000 in
set_option maxHeartbeats 4000000 in
theorem c_JMath_min2 {l : Launch} (hfl : l.flags = flags0) {D : va_G} {g : Nat → ClassId} {ad : Nat → Nat} {N : Nat} {F : Nat → va_E} {a b : Int}
    (ha : inL a) (hb : inL b) :
    JC l y_JMath_min2 b_JMath_min2 4 (Option.some Jvm.ClassFile.FieldType.long) rm_JMath_min2 (0, 0) D jCl (jTys g) ad N F [.long (lI a), .long (lI b)] (jl ad N (fun z F' => z = min a b ∧ F' = F)) := by
  refine JC.go hfl (own := "java/lang/Math") (lv := [(0, .long (lI a)), (2, .long (lI b))]) rfl (by decide +kernel) (Nat.le_of_ble_eq_true rfl) rfl (fun A => ?_)
  refine J_lload_n 0 d_JMath_min2_0 rfl rfl ?_
  refine J_lload_n 1 d_JMath_min2_1 rfl rfl ?_
  refine J_lcmpgt (tgt := 10) d_JMath_min2_2 d_JMath_min2_3 (by decide) ⟨by omega, by omega⟩ ⟨by omega, by omega⟩ (fun c2 => ?_) (fun c2 => ?_)
  · refine J_lload_n 1 d_JMath_min2_10 rfl rfl ?_
    refine J_lret rfl d_JMath_min2_11 ⟨by decide, by decide⟩ ?_
    exact ⟨_, rfl, rfl, rfl, by omega, rfl⟩
  · refine J_lload_n 0 d_JMath_min2_6 rfl rfl ?_
    refine J_goto (tgt := 11) d_JMath_min2_7 (by decide) ?_
    refine J_lret rfl d_JMath_min2_11 ⟨by decide, by decide⟩ ?_
    exact ⟨_, rfl, rfl, rfl, by omega, rfl⟩
set_option maxRecDepth 100000 in
set_option maxHeartbeats 4000000 in
theorem c_N_takeAway {l : Launch} (hfl : l.flags = flags0) {D : va_G} {g : Nat → ClassId} {ad : Nat → Nat} {N : Nat} {F : Nat → va_E} {k m b d X : Nat} {c0 : Int}
    (hk : k + 1 < N) (hF : F k = oN ad k c0) (hA : F (k + 1) = aN g (dg X)) (yhk : m + 1 < N) (yhF : F m = oN ad m (lnw 30 d : Int)) (yhA : F (m + 1) = aN g (dg d)) (yh : d < 2 ^ 480) (hd : k + 1 < m ∨ m + 1 < k) (hk2 : lnw 30 d ≠ 0 ∧ b + lnw 30 d < 16 ∧ 536870912 ≤ dgt 30 d (lnw 30 d - 1) ∧ X / 2 ^ (30 * b) < d * 2 ^ 30) :
    JC l y_N_takeAway b_N_takeAway 15 (Option.some Jvm.ClassFile.FieldType.int) rm_N_takeAway (0, 0) D jCl (jTys g) ad N F [.ref (ad k), .ref (ad m), .int (iI (b : Int))] (ji ad N (fun z F' => z = ((X / 2 ^ (30 * b) / d : Nat) : Int) ∧ F' = va_up F (k + 1) (aN g (dg (X - X / 2 ^ (30 * b) / d * d * 2 ^ (30 * b)))))) := by
  have l2 := cn_16 yh
  obtain ⟨hn, hb, hnm, hX⟩ := hk2
  have hd0 : 0 < d := by apply Nat.pos_of_ne_zero; rintro rfl; exact hn (lnw_0 30)
  have hff : dgt 30 d (lnw 30 d - 1) = d / 2 ^ (30 * (lnw 30 d - 1)) := by
    have h1 : d < 2 ^ (30 * (lnw 30 d - 1 + 1)) := by rw [show lnw 30 d - 1 + 1 = lnw 30 d by omega]; exact lnw_lt (by decide)
    unfold dgt
    rw [Nat.mod_eq_of_lt]
    rw [Nat.div_lt_iff_lt_mul (Nat.two_pow_pos _), Nat.mul_comm, ← pw_succ]; exact h1
  have hdn : d < 2 ^ (30 * lnw 30 d) := lnw_lt (by decide)
  have hXt : X < 2 ^ (30 * (b + lnw 30 d + 1)) := by
    have h1 : X / 2 ^ (30 * b) < 2 ^ (30 * (lnw 30 d + 1)) := by
      rw [pw_succ]; exact Nat.lt_of_lt_of_le hX (Nat.mul_le_mul_right _ (Nat.le_of_lt hdn))
    rw [Nat.div_lt_iff_lt_mul (Nat.two_pow_pos _), ← Nat.pow_add] at h1
    rw [show 30 * (b + lnw 30 d + 1) = 30 * (lnw 30 d + 1) + 30 * b by omega]; exact h1
  have hH : X / 2 ^ (30 * (b + (lnw 30 d - 1))) = X / 2 ^ (30 * b) / 2 ^ (30 * (lnw 30 d - 1)) := by rw [Nat.div_div_eq_div_mul, ← Nat.pow_add, ← Nat.mul_add]
  have hH60 : X / 2 ^ (30 * (b + (lnw 30 d - 1))) < 1152921504606846976 := by
    rw [Nat.div_lt_iff_lt_mul (Nat.two_pow_pos _), show (1152921504606846976 : Nat) = 2 ^ 60 by decide, ← Nat.pow_add, show 60 + 30 * (b + (lnw 30 d - 1)) = 30 * (b + lnw 30 d + 1) by omega]
    exact hXt
  have hHd : dgt 30 X (b + lnw 30 d - 1) + dgt 30 X (b + lnw 30 d) * 1073741824 = X / 2 ^ (30 * (b + (lnw 30 d - 1))) := by
    rw [show b + lnw 30 d - 1 = b + (lnw 30 d - 1) by omega, show b + lnw 30 d = b + (lnw 30 d - 1) + 1 by omega]
    generalize b + (lnw 30 d - 1) = m at *
    unfold dgt
    rw [pw_succ, ← Nat.div_div_eq_div_mul]
    generalize X / 2 ^ (30 * m) = r at *
    omega
  have hHf0 : X / 2 ^ (30 * (b + (lnw 30 d - 1))) / dgt 30 d (lnw 30 d - 1) ≤ X / 2 ^ (30 * (b + (lnw 30 d - 1))) := Nat.div_le_self _ _
  have hHf1 : (0 : Int) ≤ ((X / 2 ^ (30 * (b + (lnw 30 d - 1))) / dgt 30 d (lnw 30 d - 1) : Nat) : Int) := Int.natCast_nonneg _
  have bX1 := dgt_b X (b + lnw 30 d - 1)
  have bX2 := dgt_b X (b + lnw 30 d)
  have bf := dgt_b d (lnw 30 d - 1)
  have hPb := pz_pos b
  have hdpz : (d : Int) * pz b * 2 ≤ pz (b + lnw 30 d + 1) := by
    have h1 : (d : Int) ≤ pz (lnw 30 d) := by rw [pz_n]; omega
    rw [pz_s, pz_a, Int.mul_comm (pz b)]
    have h2 : (d : Int) * pz b ≤ pz (lnw 30 d) * pz b := Int.mul_le_mul_of_nonneg_right h1 (by omega)
    have h3 : 0 ≤ (d : Int) * pz b := Int.mul_nonneg (by omega) (by omega)
    omega
  have hXz : (X : Int) < pz (b + lnw 30 d + 1) := by rw [pz_n]; omega
  refine JC.go hfl (own := "NumberTower$Natural") (lv := [(0, .ref (ad k)), (1, .ref (ad m)), (2, .int (iI (b : Int)))]) rfl (by decide +kernel) (Nat.le_of_ble_eq_true rfl) rfl (fun A => ?_)
  refine J_iload_n 2 d_N_takeAway_0 rfl rfl ?_
  refine J_aload_n 1 d_N_takeAway_1 rfl rfl ?_
  refine gf_N_19 (by omega) yhF rfl d_N_takeAway_2 ?_
  refine J_iadd d_N_takeAway_5 ?_
  refine J_istore_n (lv' := [(3, .int (iI ((b : Int) + (lnw 30 d : Int)))), (0, .ref (ad k)), (1, .ref (ad m)), (2, .int (iI (b : Int)))]) d_N_takeAway_6 rfl (by decide) rfl ?_
  refine J_iload_n 3 d_N_takeAway_7 rfl rfl ?_
  refine J_iflt (tgt := 24) d_N_takeAway_8 (by decide) ⟨by omega, by omega⟩ (fun c8 => ?_) (fun c8 => ?_)
  · exact absurd c8 (by omega)
  · refine J_aload_n 2 d_N_takeAway_11 rfl rfl ?_
    refine gf_N_19 (by omega) yhF rfl d_N_takeAway_12 ?_
    refine J_ifle (tgt := 24) d_N_takeAway_15 (by decide) ⟨by omega, by omega⟩ (fun c15 => ?_) (fun c15 => ?_)
    · exact absurd c15 (by omega)
    · refine J_iload_n 0 d_N_takeAway_18 rfl rfl ?_
      refine J_bipush d_N_takeAway_19 (i8_ok (by decide)) ?_
      refine J_if_icmplt (tgt := 26) d_N_takeAway_21 (by decide) ⟨by omega, by omega⟩ ⟨by omega, by omega⟩ (fun c21 => ?_) (fun c21 => ?_)
      · refine J_aload_n 1 d_N_takeAway_26 rfl rfl ?_
        refine gf_N_9 (by omega) hF rfl d_N_takeAway_27 ?_
        refine J_iload_n 0 d_N_takeAway_30 rfl rfl ?_
        refine J_iaload 0 rfl (by omega) hA (by omega) d_N_takeAway_31 ?_
        refine J_topi (r := (dg X) (b + (lnw 30 d))) (congrArg (fun q => iI ((dg X) q)) (by omega)) ?_
        refine J_i2l d_N_takeAway_32 (inh (dgh X) _) ?_
        refine J_topl (r := (dgt 30 X (b + lnw 30 d) : Int)) (congrArg lI rfl) ?_
        refine J_bipush d_N_takeAway_33 (i8_ok (by decide)) ?_
        refine J_lshl (r := (((dgt 30 X (b + lnw 30 d)) * 1073741824 : Nat) : Int)) d_N_takeAway_35 (lI_shln 30 (by decide)) ?_
        refine J_aload_n 1 d_N_takeAway_36 rfl rfl ?_
        refine gf_N_9 (by omega) hF rfl d_N_takeAway_37 ?_
        refine J_iload_n 0 d_N_takeAway_40 rfl rfl ?_
        refine J_iconst d_N_takeAway_41 ?_
        refine J_isub d_N_takeAway_42 ?_
        refine J_topi (r := (b : Int) + (lnw 30 d : Int) - 1) (congrArg iI (by omega)) ?_
        refine J_iaload 0 rfl (by omega) hA (by omega) d_N_takeAway_43 ?_
        refine J_topi (r := (dg X) ((b + (lnw 30 d)) - 1)) (congrArg (fun q => iI ((dg X) q)) (by omega)) ?_
        refine J_i2l d_N_takeAway_44 (inh (dgh X) _) ?_
        refine J_topl (r := (dgt 30 X (b + lnw 30 d - 1) : Int)) (congrArg lI rfl) ?_
        refine J_lor (r := ((X / 2 ^ (30 * (b + (lnw 30 d - 1))) : Nat) : Int)) d_N_takeAway_45 (by rw [lI_orn (by omega) (by omega), Nat.or_comm, or30 (dgt_b _ _), hHd]) ?_
        refine J_lstore (lv' := [(4, .long (lI ((X / 2 ^ (30 * (b + (lnw 30 d - 1))) : Nat) : Int))), (3, .int (iI ((b : Int) + (lnw 30 d : Int)))), (0, .ref (ad k)), (1, .ref (ad m)), (2, .int (iI (b : Int)))]) d_N_takeAway_46 (by decide) rfl ?_
        refine J_aload_n 3 d_N_takeAway_48 rfl rfl ?_
        refine gf_N_9 (by omega) yhF rfl d_N_takeAway_49 ?_
        refine J_aload_n 3 d_N_takeAway_52 rfl rfl ?_
        refine gf_N_19 (by omega) yhF rfl d_N_takeAway_53 ?_
        refine J_iconst d_N_takeAway_56 ?_
        refine J_isub d_N_takeAway_57 ?_
        refine J_iaload 0 rfl (by omega) yhA (by omega) d_N_takeAway_58 ?_
        refine J_topi (r := (dg d) ((lnw 30 d) - 1)) (congrArg (fun q => iI ((dg d) q)) (by omega)) ?_
        refine J_topi (r := (dgt 30 d (lnw 30 d - 1) : Int)) (congrArg iI rfl) ?_
        refine J_istore (lv' := [(6, .int (iI (dgt 30 d (lnw 30 d - 1) : Int))), (4, .long (lI ((X / 2 ^ (30 * (b + (lnw 30 d - 1))) : Nat) : Int))), (3, .int (iI ((b : Int) + (lnw 30 d : Int)))), (0, .ref (ad k)), (1, .ref (ad m)), (2, .int (iI (b : Int)))]) d_N_takeAway_59 (by decide) rfl ?_
        refine J_iload 0 d_N_takeAway_61 rfl ?_
        refine J_ifgt (tgt := 70) d_N_takeAway_63 (by decide) ⟨by omega, by omega⟩ (fun c63 => ?_) (fun c63 => ?_)
        · refine J_lload 1 d_N_takeAway_70 rfl ?_
          refine J_iload 0 d_N_takeAway_72 rfl ?_
          refine J_i2l d_N_takeAway_74 ⟨by omega, by omega⟩ ?_
          refine J_ldivn d_N_takeAway_75 (by omega) (by omega) ?_
          refine J_topl (r := (((X / 2 ^ (30 * (b + (lnw 30 d - 1)))) / (dgt 30 d (lnw 30 d - 1)) : Nat) : Int)) (congrArg lI (by omega)) ?_
          refine J_ldc2 (z := 1073741823) d_N_takeAway_76 wd_310 (by decide) ?_
          refine J_callSl cw_N_94 nh_JMath_min2 pn_JMath_min2 rfl (As := [.long (lI (((X / 2 ^ (30 * (b + (lnw 30 d - 1)))) / (dgt 30 d (lnw 30 d - 1)) : Nat) : Int)), .long (lI 1073741823)]) (rest := []) rfl (Nat.le_of_ble_eq_true rfl) ⟨by decide, by decide⟩ rfl ⟨by decide, by decide⟩ d_N_takeAway_79 (c_JMath_min2 hfl ⟨by omega, by omega⟩ ⟨by omega, by omega⟩) (fun qh F1 hq => ?_)
          obtain ⟨hqh, eF1⟩ := hq
          obtain ⟨hk1, hk2⟩ := knuth (W := X / 2 ^ (30 * b)) (d := d) (B := 1073741824) (qh := qh.toNat) (Nat.two_pow_pos _) hH hff hd0 hX (by omega) (by decide) (by omega)
          have hqr : 0 ≤ qh ∧ qh ≤ 1073741823 := by omega
          have hq0 : (0 : Int) ≤ ((X / 2 ^ (30 * b) / d : Nat) : Int) := Int.natCast_nonneg _
          refine J_eqF eF1 ?_
          refine J_lstore (lv' := [(7, .long (lI qh)), (6, .int (iI (dgt 30 d (lnw 30 d - 1) : Int))), (4, .long (lI ((X / 2 ^ (30 * (b + (lnw 30 d - 1))) : Nat) : Int))), (3, .int (iI ((b : Int) + (lnw 30 d : Int)))), (0, .ref (ad k)), (1, .ref (ad m)), (2, .int (iI (b : Int)))]) d_N_takeAway_82 (by decide) rfl ?_
          refine J_lconst (v := 0) d_N_takeAway_84 rfl ?_
          refine J_lstore (lv' := [(9, .long (lI 0)), (7, .long (lI qh)), (6, .int (iI (dgt 30 d (lnw 30 d - 1) : Int))), (4, .long (lI ((X / 2 ^ (30 * (b + (lnw 30 d - 1))) : Nat) : Int))), (3, .int (iI ((b : Int) + (lnw 30 d : Int)))), (0, .ref (ad k)), (1, .ref (ad m)), (2, .int (iI (b : Int)))]) d_N_takeAway_85 (by decide) rfl ?_
          refine J_iconst d_N_takeAway_87 ?_
          refine J_istore (lv' := [(11, .int (iI 0)), (9, .long (lI 0)), (7, .long (lI qh)), (6, .int (iI (dgt 30 d (lnw 30 d - 1) : Int))), (4, .long (lI ((X / 2 ^ (30 * (b + (lnw 30 d - 1))) : Nat) : Int))), (3, .int (iI ((b : Int) + (lnw 30 d : Int)))), (0, .ref (ad k)), (1, .ref (ad m)), (2, .int (iI (b : Int)))]) d_N_takeAway_88 (by decide) rfl ?_
          have lab164 : ∀ (c : Int) (hc : c = ((X : Int) + -qh * (d : Int) * pz b) / pz (b + lnw 30 d + 1)) , J l rm_N_takeAway (0, 0) "NumberTower$Natural" b_N_takeAway 15 (Option.some Jvm.ClassFile.FieldType.int) D jCl (jTys g) A (fun _ me => me.name = y_N_takeAway.name) (ji ad N (fun z F' => z = ((X / 2 ^ (30 * b) / d : Nat) : Int) ∧ F' = va_up F (k + 1) (aN g (dg (X - X / 2 ^ (30 * b) / d * d * 2 ^ (30 * b)))))) ad N 0 0 164 [(0, .ref (ad k)), (1, .ref (ad m)), (2, .int (iI (b : Int))), (3, .int (iI ((b : Int) + (lnw 30 d : Int)))), (7, .long (lI qh)), (9, .long (lI c))] [] (va_up F (k + 1) (.inl (g 0, 16, .inl (aI (za ((X : Int) + -qh * (d : Int) * pz b) (b + lnw 30 d + 1)))))) := by
            intro c hc
            refine J_iconst d_N_takeAway_164 ?_
            refine J_istore (lv' := [(11, .int (iI 0)), (0, .ref (ad k)), (1, .ref (ad m)), (2, .int (iI (b : Int))), (3, .int (iI ((b : Int) + (lnw 30 d : Int)))), (7, .long (lI qh)), (9, .long (lI c))]) d_N_takeAway_165 (by decide) rfl ?_
            have lab273 : ∀ (v : Int) (hv : v = ((X / 2 ^ (30 * b) / d : Nat) : Int)) , J l rm_N_takeAway (0, 0) "NumberTower$Natural" b_N_takeAway 15 (Option.some Jvm.ClassFile.FieldType.int) D jCl (jTys g) A (fun _ me => me.name = y_N_takeAway.name) (ji ad N (fun z F' => z = ((X / 2 ^ (30 * b) / d : Nat) : Int) ∧ F' = va_up F (k + 1) (aN g (dg (X - X / 2 ^ (30 * b) / d * d * 2 ^ (30 * b)))))) ad N 0 0 273 [(7, .long (lI v))] [] (va_up F (k + 1) (.inl (g 0, 16, .inl (aI (dg (X - X / 2 ^ (30 * b) / d * d * 2 ^ (30 * b))))))) := by
              intro v hv
              refine J_lload 0 d_N_takeAway_273 rfl ?_
              refine J_l2i d_N_takeAway_275 ?_
              refine J_iret rfl rfl d_N_takeAway_276 ⟨by decide, by decide⟩ ?_
              exact ⟨_, rfl, rfl, rfl, hv, rfl⟩
            refine J_pick (lv' := [(0, .ref (ad k)), (1, .ref (ad m)), (2, .int (iI (b : Int))), (3, .int (iI ((b : Int) + (lnw 30 d : Int)))), (7, .long (lI qh)), (9, .long (lI c)), (11, .int (iI 0))]) [1, 2, 3, 4, 5, 6, 0] rfl ?_
            have loop167 : ∀ (fuel : Nat) (i : Nat) (v : Int) (c : Int) (h1 : i ≤ 3 ∧ v + i = qh ∧ ((X / 2 ^ (30 * b) / d : Nat) : Int) ≤ v) (hc : c = ((X : Int) + -v * (d : Int) * pz b) / pz (b + lnw 30 d + 1)) (hfu : 3 - i < fuel), J l rm_N_takeAway (0, 0) "NumberTower$Natural" b_N_takeAway 15 (Option.some Jvm.ClassFile.FieldType.int) D jCl (jTys g) A (fun _ me => me.name = y_N_takeAway.name) (ji ad N (fun z F' => z = ((X / 2 ^ (30 * b) / d : Nat) : Int) ∧ F' = va_up F (k + 1) (aN g (dg (X - X / 2 ^ (30 * b) / d * d * 2 ^ (30 * b)))))) ad N 0 0 167 [(0, .ref (ad k)), (1, .ref (ad m)), (2, .int (iI (b : Int))), (3, .int (iI ((b : Int) + (lnw 30 d : Int)))), (7, .long (lI v)), (9, .long (lI c)), (11, .int (iI (i : Int)))] [] (va_up F (k + 1) (.inl (g 0, 16, .inl (aI (za ((X : Int) + -v * (d : Int) * pz b) (b + lnw 30 d + 1)))))) := by
              intro fuel
              induction fuel with
              | zero => intro i v c h1 hc hfu; exact absurd hfu (Nat.not_lt_zero _)
              | succ fuel ih =>
                intro i v c h1 hc hfu
                have hvr : 0 ≤ v ∧ v ≤ 1073741823 := by omega
                have hcr : -1 ≤ c ∧ c ≤ 0 := by
                  have h2 : v * d * pz b ≤ X + 2 * (d * pz b) := by
                    have h3 : v * d * pz b ≤ (((X / 2 ^ (30 * b) / d : Nat) : Int) + 2) * d * pz b := Int.mul_le_mul_of_nonneg_right (Int.mul_le_mul_of_nonneg_right (by omega) (by omega)) (by omega)
                    have h4 : ((X / 2 ^ (30 * b) / d * d * 2 ^ (30 * b) : Nat) : Int) ≤ X := by
                      have h5 : X / 2 ^ (30 * b) / d * d * 2 ^ (30 * b) ≤ X := by rw [← Nat.le_div_iff_mul_le (Nat.two_pow_pos _)]; exact Nat.div_mul_le_self _ _
                      omega
                    have h5 : ((X / 2 ^ (30 * b) / d * d * 2 ^ (30 * b) : Nat) : Int) = ((X / 2 ^ (30 * b) / d : Nat) : Int) * d * pz b := by rw [Int.natCast_mul, Int.natCast_mul, pz_n]
                    rw [Int.add_mul, Int.add_mul, Int.mul_assoc 2] at h3
                    omega
                  have h6 : 0 ≤ v * d * pz b := Int.mul_nonneg (Int.mul_nonneg hvr.1 (by omega)) (by omega)
                  have hP := pz_pos (b + lnw 30 d + 1)
                  rw [hc, Int.neg_mul, Int.neg_mul]
                  constructor
                  · rw [Int.le_ediv_iff_mul_le hP]; omega
                  · have : (X + -(v * d * pz b)) / pz (b + lnw 30 d + 1) < 1 := by rw [Int.ediv_lt_iff_lt_mul hP]; omega
                    omega
                refine J_iload 6 d_N_takeAway_167 rfl ?_
                refine J_iconst d_N_takeAway_169 ?_
                refine J_if_icmpge (tgt := 273) d_N_takeAway_170 (by decide) ⟨by omega, by omega⟩ ⟨by omega, by omega⟩ (fun c170 => ?_) (fun c170 => ?_)
                · refine J_pick (lv' := [(7, .long (lI v))]) [4] rfl ?_
                  have hvq : v = ((X / 2 ^ (30 * b) / d : Nat) : Int) := by
                    have h1 : 0 ≤ c ∨ v ≤ ((X / 2 ^ (30 * b) / d : Nat) : Int) - 1 := by omega
                    have h2 : 0 ≤ c → v ≤ ((X / 2 ^ (30 * b) / d : Nat) : Int) := by
                      intro h3
                      have h4 : 0 ≤ ((X : Int) + -v * (d : Int) * pz b) := by
                        apply Int.not_lt.mp
                        intro h5
                        have := Int.ediv_neg_of_neg_of_pos h5 (pz_pos (b + lnw 30 d + 1))
                        omega
                      have h5 : v.toNat * d * 2 ^ (30 * b) ≤ X := by
                        have h6 : ((v.toNat * d * 2 ^ (30 * b) : Nat) : Int) = v * d * pz b := by push_cast; rw [Int.toNat_of_nonneg (by omega), pz_n]; push_cast; rfl
                        rw [Int.neg_mul, Int.neg_mul] at h4
                        omega
                      have h6 : v.toNat ≤ X / 2 ^ (30 * b) / d := by rw [Nat.le_div_iff_mul_le hd0, Nat.le_div_iff_mul_le (Nat.two_pow_pos _)]; exact h5
                      omega
                    omega
                  have hend : za ((X : Int) + -v * (d : Int) * pz b) (b + lnw 30 d + 1) = dg (X - X / 2 ^ (30 * b) / d * d * 2 ^ (30 * b)) := by
                    have h1 : X / 2 ^ (30 * b) / d * d * 2 ^ (30 * b) ≤ X := by
                      rw [← Nat.le_div_iff_mul_le (Nat.two_pow_pos _)]; exact Nat.div_mul_le_self _ _
                    rw [← za_n (n := X - X / 2 ^ (30 * b) / d * d * 2 ^ (30 * b)) (t := (b + lnw 30 d + 1)) (by omega)]
                    congr 1
                    rw [hvq, Int.neg_mul, Int.neg_mul, pz_n, Int.natCast_sub h1]
                    push_cast
                    rfl
                  refine J_eqF (F2 := va_up F (k + 1) (.inl (g 0, 16, .inl (aI (dg (X - X / 2 ^ (30 * b) / d * d * 2 ^ (30 * b))))))) (congrArg (fun qq => va_up F (k + 1) (.inl (g 0, 16, .inl (aI qq)))) hend) ?_
                  exact lab273 v hvq
                · refine J_lload 5 d_N_takeAway_173 rfl ?_
                  refine J_lconst (v := 0) d_N_takeAway_175 rfl ?_
                  refine J_lcmpge (tgt := 273) d_N_takeAway_176 d_N_takeAway_177 (by decide) ⟨by omega, by omega⟩ ⟨by omega, by omega⟩ (fun c176 => ?_) (fun c176 => ?_)
                  · refine J_pick (lv' := [(7, .long (lI v))]) [4] rfl ?_
                    have hvq : v = ((X / 2 ^ (30 * b) / d : Nat) : Int) := by
                      have h1 : 0 ≤ c ∨ v ≤ ((X / 2 ^ (30 * b) / d : Nat) : Int) - 1 := by omega
                      have h2 : 0 ≤ c → v ≤ ((X / 2 ^ (30 * b) / d : Nat) : Int) := by
                        intro h3
                        have h4 : 0 ≤ ((X : Int) + -v * (d : Int) * pz b) := by
                          apply Int.not_lt.mp
                          intro h5
                          have := Int.ediv_neg_of_neg_of_pos h5 (pz_pos (b + lnw 30 d + 1))
                          omega
                        have h5 : v.toNat * d * 2 ^ (30 * b) ≤ X := by
                          have h6 : ((v.toNat * d * 2 ^ (30 * b) : Nat) : Int) = v * d * pz b := by push_cast; rw [Int.toNat_of_nonneg (by omega), pz_n]; push_cast; rfl
                          rw [Int.neg_mul, Int.neg_mul] at h4
                          omega
                        have h6 : v.toNat ≤ X / 2 ^ (30 * b) / d := by rw [Nat.le_div_iff_mul_le hd0, Nat.le_div_iff_mul_le (Nat.two_pow_pos _)]; exact h5
                        omega
                      omega
                    have hend : za ((X : Int) + -v * (d : Int) * pz b) (b + lnw 30 d + 1) = dg (X - X / 2 ^ (30 * b) / d * d * 2 ^ (30 * b)) := by
                      have h1 : X / 2 ^ (30 * b) / d * d * 2 ^ (30 * b) ≤ X := by
                        rw [← Nat.le_div_iff_mul_le (Nat.two_pow_pos _)]; exact Nat.div_mul_le_self _ _
                      rw [← za_n (n := X - X / 2 ^ (30 * b) / d * d * 2 ^ (30 * b)) (t := (b + lnw 30 d + 1)) (by omega)]
                      congr 1
                      rw [hvq, Int.neg_mul, Int.neg_mul, pz_n, Int.natCast_sub h1]
                      push_cast
                      rfl
                    refine J_eqF (F2 := va_up F (k + 1) (.inl (g 0, 16, .inl (aI (dg (X - X / 2 ^ (30 * b) / d * d * 2 ^ (30 * b))))))) (congrArg (fun qq => va_up F (k + 1) (.inl (g 0, 16, .inl (aI qq)))) hend) ?_
                    exact lab273 v hvq
                  · have hvs : ((X / 2 ^ (30 * b) / d : Nat) : Int) ≤ v - 1 := by
                      apply Int.not_lt.mp
                      intro h0
                      have h3 : v * d * pz b ≤ ((X / 2 ^ (30 * b) / d : Nat) : Int) * d * pz b := Int.mul_le_mul_of_nonneg_right (Int.mul_le_mul_of_nonneg_right (by omega) (by omega)) (by omega)
                      have h4 : ((X / 2 ^ (30 * b) / d * d * 2 ^ (30 * b) : Nat) : Int) ≤ X := by
                        have h5 : X / 2 ^ (30 * b) / d * d * 2 ^ (30 * b) ≤ X := by rw [← Nat.le_div_iff_mul_le (Nat.two_pow_pos _)]; exact Nat.div_mul_le_self _ _
                        omega
                      have h5 : ((X / 2 ^ (30 * b) / d * d * 2 ^ (30 * b) : Nat) : Int) = ((X / 2 ^ (30 * b) / d : Nat) : Int) * d * pz b := by rw [Int.natCast_mul, Int.natCast_mul, pz_n]
                      have h6 : 0 ≤ c := by
                        rw [hc, Int.neg_mul, Int.neg_mul]
                        exact Int.ediv_nonneg (by omega) (Int.le_of_lt (pz_pos _))
                      omega
                    refine J_lload 4 d_N_takeAway_180 rfl ?_
                    refine J_lconst (v := 1) d_N_takeAway_182 rfl ?_
                    refine J_lsub d_N_takeAway_183 ?_
                    refine J_lstore (lv' := [(7, .long (lI (v - 1))), (0, .ref (ad k)), (1, .ref (ad m)), (2, .int (iI (b : Int))), (3, .int (iI ((b : Int) + (lnw 30 d : Int)))), (9, .long (lI c)), (11, .int (iI (i : Int)))]) d_N_takeAway_184 (by decide) rfl ?_
                    refine J_iconst d_N_takeAway_186 ?_
                    refine J_istore (lv' := [(12, .int (iI 0)), (7, .long (lI (v - 1))), (0, .ref (ad k)), (1, .ref (ad m)), (2, .int (iI (b : Int))), (3, .int (iI ((b : Int) + (lnw 30 d : Int)))), (9, .long (lI c)), (11, .int (iI (i : Int)))]) d_N_takeAway_187 (by decide) rfl ?_
                    refine J_iconst d_N_takeAway_189 ?_
                    refine J_istore (lv' := [(13, .int (iI 0)), (12, .int (iI 0)), (7, .long (lI (v - 1))), (0, .ref (ad k)), (1, .ref (ad m)), (2, .int (iI (b : Int))), (3, .int (iI ((b : Int) + (lnw 30 d : Int)))), (9, .long (lI c)), (11, .int (iI (i : Int)))]) d_N_takeAway_190 (by decide) rfl ?_
                    have lab259 : ∀ (e : Int) (he : e = (((X : Int) + -v * (d : Int) * pz b) % pz (b + lnw 30 d + 1) + 1 * d * pz b) / pz (b + lnw 30 d + 1)) (her : 0 ≤ e ∧ e ≤ 1) , J l rm_N_takeAway (0, 0) "NumberTower$Natural" b_N_takeAway 15 (Option.some Jvm.ClassFile.FieldType.int) D jCl (jTys g) A (fun _ me => me.name = y_N_takeAway.name) (ji ad N (fun z F' => z = ((X / 2 ^ (30 * b) / d : Nat) : Int) ∧ F' = va_up F (k + 1) (aN g (dg (X - X / 2 ^ (30 * b) / d * d * 2 ^ (30 * b)))))) ad N 0 0 259 [(0, .ref (ad k)), (1, .ref (ad m)), (2, .int (iI (b : Int))), (3, .int (iI ((b : Int) + (lnw 30 d : Int)))), (7, .long (lI (v - 1))), (9, .long (lI c)), (11, .int (iI (i : Int))), (12, .int (iI e))] [] (va_up F (k + 1) (.inl (g 0, 16, .inl (aI (za ((X : Int) + -(v - 1) * (d : Int) * pz b) (b + lnw 30 d + 1)))))) := by
                      intro e he her
                      have hcn : c + e = ((X : Int) + -(v - 1) * (d : Int) * pz b) / pz (b + lnw 30 d + 1) := by
                        have hP := pz_pos (b + lnw 30 d + 1)
                        rw [show -(v - 1) = -v + 1 by omega, Int.add_mul, Int.add_mul, ← Int.add_assoc, hc, he]
                        generalize ((X : Int) + -v * (d : Int) * pz b) = z
                        generalize pz (b + lnw 30 d + 1) = P at *
                        have h1 := Int.mul_ediv_add_emod z P
                        have h2 : z + 1 * (d : Int) * pz b = (z % P + 1 * d * pz b) + P * (z / P) := by omega
                        rw [h2, Int.add_mul_ediv_left _ _ (by omega)]
                        omega
                      refine J_lload 5 d_N_takeAway_259 rfl ?_
                      refine J_iload 7 d_N_takeAway_261 rfl ?_
                      refine J_i2l d_N_takeAway_263 ⟨by omega, by omega⟩ ?_
                      refine J_ladd d_N_takeAway_264 ?_
                      refine J_lstore (lv' := [(9, .long (lI (c + e))), (0, .ref (ad k)), (1, .ref (ad m)), (2, .int (iI (b : Int))), (3, .int (iI ((b : Int) + (lnw 30 d : Int)))), (7, .long (lI (v - 1))), (11, .int (iI (i : Int))), (12, .int (iI e))]) d_N_takeAway_265 (by decide) rfl ?_
                      refine J_iinc (j := 6) (b := (i : Int) + 1) (lv' := [(11, .int (iI ((i : Int) + 1))), (9, .long (lI (c + e))), (0, .ref (ad k)), (1, .ref (ad m)), (2, .int (iI (b : Int))), (3, .int (iI ((b : Int) + (lnw 30 d : Int)))), (7, .long (lI (v - 1))), (12, .int (iI e))]) d_N_takeAway_267 rfl (by omega) (by decide) rfl ?_
                      refine J_goto (tgt := 167) d_N_takeAway_270 (by decide) ?_
                      refine J_pick (lv' := [(0, .ref (ad k)), (1, .ref (ad m)), (2, .int (iI (b : Int))), (3, .int (iI ((b : Int) + (lnw 30 d : Int)))), (7, .long (lI (v - 1))), (9, .long (lI (c + e))), (11, .int (iI ((i : Int) + 1)))]) [2, 3, 4, 5, 6, 1, 0] rfl ?_
                      refine ih (i + 1) (v - 1) (c + e) (by omega) ?_ (by omega)
                      · exact hcn
                    refine J_pick (lv' := [(0, .ref (ad k)), (1, .ref (ad m)), (2, .int (iI (b : Int))), (3, .int (iI ((b : Int) + (lnw 30 d : Int)))), (7, .long (lI (v - 1))), (9, .long (lI c)), (11, .int (iI (i : Int))), (12, .int (iI 0)), (13, .int (iI 0))]) [3, 4, 5, 6, 2, 7, 8, 1, 0] rfl ?_
                    have loop192 : ∀ (fuel : Nat) (j : Nat) (e : Int) (f : Nat → Int) (h2 : j ≤ lnw 30 d + 1) (her : 0 ≤ e ∧ e ≤ 1) (he : e = zc ((X : Int) + -v * (d : Int) * pz b) (1 * dl d j * pz b) (b + j)) (hf : f = mix (b + j) (za ((X : Int) + -(v - 1) * (d : Int) * pz b) (b + lnw 30 d + 1)) (za ((X : Int) + -v * (d : Int) * pz b) (b + lnw 30 d + 1))) (hfu : lnw 30 d + 1 - j < fuel), J l rm_N_takeAway (0, 0) "NumberTower$Natural" b_N_takeAway 15 (Option.some Jvm.ClassFile.FieldType.int) D jCl (jTys g) A (fun _ me => me.name = y_N_takeAway.name) (ji ad N (fun z F' => z = ((X / 2 ^ (30 * b) / d : Nat) : Int) ∧ F' = va_up F (k + 1) (aN g (dg (X - X / 2 ^ (30 * b) / d * d * 2 ^ (30 * b)))))) ad N 0 0 192 [(0, .ref (ad k)), (1, .ref (ad m)), (2, .int (iI (b : Int))), (3, .int (iI ((b : Int) + (lnw 30 d : Int)))), (7, .long (lI (v - 1))), (9, .long (lI c)), (11, .int (iI (i : Int))), (12, .int (iI e)), (13, .int (iI (j : Int)))] [] (va_up F (k + 1) (.inl (g 0, 16, .inl (aI f)))) := by
                      intro fuel
                      induction fuel with
                      | zero => intro j e f h2 her he hf hfu; exact absurd hfu (Nat.not_lt_zero _)
                      | succ fuel ih =>
                        intro j e f h2 her he hf hfu
                        have hZ2 : ((X : Int) + -(v - 1) * (d : Int) * pz b) = ((X : Int) + -v * (d : Int) * pz b) + 1 * (d : Int) * pz b := by
                          rw [show -(v - 1) = -v + 1 by omega, Int.add_mul, Int.add_mul, Int.add_assoc]
                        refine J_iload 8 d_N_takeAway_192 rfl ?_
                        refine J_aload_n 1 d_N_takeAway_194 rfl rfl ?_
                        refine gf_N_19 (by omega) (by rw [va_up_ne _ _ (by omega)]; exact yhF) rfl d_N_takeAway_195 ?_
                        refine J_if_icmpgt (tgt := 259) d_N_takeAway_198 (by decide) ⟨by omega, by omega⟩ ⟨by omega, by omega⟩ (fun c198 => ?_) (fun c198 => ?_)
                        · refine J_pick (lv' := [(0, .ref (ad k)), (1, .ref (ad m)), (2, .int (iI (b : Int))), (3, .int (iI ((b : Int) + (lnw 30 d : Int)))), (7, .long (lI (v - 1))), (9, .long (lI c)), (11, .int (iI (i : Int))), (12, .int (iI e))]) [0, 1, 2, 3, 4, 5, 6, 7] rfl ?_
                          have hjn : j = lnw 30 d + 1 := by omega
                          have hend : f = za ((X : Int) + -(v - 1) * (d : Int) * pz b) (b + lnw 30 d + 1) := by
                            rw [hf]
                            exact mix_all (fun j hj => by rw [za_hi (by omega), za_hi (by omega)])
                          refine J_eqF (F2 := va_up F (k + 1) (.inl (g 0, 16, .inl (aI (za ((X : Int) + -(v - 1) * (d : Int) * pz b) (b + lnw 30 d + 1)))))) (congrArg (fun qq => va_up F (k + 1) (.inl (g 0, 16, .inl (aI qq)))) hend) ?_
                          exact lab259 e (by rw [he, hjn, dl_e (by omega)]; rfl) (by omega)
                        · refine J_iload_n 2 d_N_takeAway_201 rfl rfl ?_
                          refine J_iload 8 d_N_takeAway_202 rfl ?_
                          refine J_iadd d_N_takeAway_204 ?_
                          refine J_bipush d_N_takeAway_205 (i8_ok (by decide)) ?_
                          refine J_if_icmpge (tgt := 259) d_N_takeAway_207 (by decide) ⟨by omega, by omega⟩ ⟨by omega, by omega⟩ (fun c207 => ?_) (fun c207 => ?_)
                          · refine J_pick (lv' := [(0, .ref (ad k)), (1, .ref (ad m)), (2, .int (iI (b : Int))), (3, .int (iI ((b : Int) + (lnw 30 d : Int)))), (7, .long (lI (v - 1))), (9, .long (lI c)), (11, .int (iI (i : Int))), (12, .int (iI e))]) [0, 1, 2, 3, 4, 5, 6, 7] rfl ?_
                            have hjn : j = lnw 30 d + 1 := by omega
                            have hend : f = za ((X : Int) + -(v - 1) * (d : Int) * pz b) (b + lnw 30 d + 1) := by
                              rw [hf]
                              exact mix_all (fun j hj => by rw [za_hi (by omega), za_hi (by omega)])
                            refine J_eqF (F2 := va_up F (k + 1) (.inl (g 0, 16, .inl (aI (za ((X : Int) + -(v - 1) * (d : Int) * pz b) (b + lnw 30 d + 1)))))) (congrArg (fun qq => va_up F (k + 1) (.inl (g 0, 16, .inl (aI qq)))) hend) ?_
                            exact lab259 e (by rw [he, hjn, dl_e (by omega)]; rfl) (by omega)
                          · have fi : f (b + j) = zdg ((X : Int) + -v * (d : Int) * pz b) (b + j) := by rw [hf, mix_at, za_lo (by omega)]
                            have zb := zdg_b ((X : Int) + -v * (d : Int) * pz b) (b + j)
                            have hdd := dg_nat d j
                            have bd := dgt_b d j
                            have hdl := dl_b d j
                            have hc2 := zc_rng1 (X := ((X : Int) + -v * (d : Int) * pz b)) (Y := 1 * dl d j * pz b) (t := b + j) (by
                              rw [Int.one_mul]; exact Int.mul_nonneg hdl.1 (by omega)) (by
                              rw [pz_a, Int.one_mul, Int.mul_comm (pz b)]
                              exact Int.mul_le_mul_of_nonneg_right hdl.2 (by omega))
                            refine J_aload_n 0 d_N_takeAway_210 rfl rfl ?_
                            refine gf_N_9 (by omega) (by rw [va_up_ne _ _ (by omega)]; exact hF) rfl d_N_takeAway_211 ?_
                            refine J_iload_n 2 d_N_takeAway_214 rfl rfl ?_
                            refine J_iload 8 d_N_takeAway_215 rfl ?_
                            refine J_iadd d_N_takeAway_217 ?_
                            refine J_iaload 0 rfl (by omega) (by rw [va_up_self]) (by omega) d_N_takeAway_218 ?_
                            refine J_topi (r := f (b + j)) (congrArg (fun q => iI (f q)) (by omega)) ?_
                            refine J_aload_n 1 d_N_takeAway_219 rfl rfl ?_
                            refine gf_N_9 (by omega) (by rw [va_up_ne _ _ (by omega)]; exact yhF) rfl d_N_takeAway_220 ?_
                            refine J_iload 8 d_N_takeAway_223 rfl ?_
                            refine J_iaload 0 rfl (by omega) (by rw [va_up_ne _ _ (by omega)]; exact yhA) (by omega) d_N_takeAway_225 ?_
                            refine J_topi (r := (dg d) j) (congrArg (fun q => iI ((dg d) q)) (by omega)) ?_
                            refine J_iadd d_N_takeAway_226 ?_
                            refine J_iload 7 d_N_takeAway_227 rfl ?_
                            refine J_iadd d_N_takeAway_229 ?_
                            refine J_istore (lv' := [(14, .int (iI (((f (b + j)) + ((dg d) j)) + e))), (0, .ref (ad k)), (1, .ref (ad m)), (2, .int (iI (b : Int))), (3, .int (iI ((b : Int) + (lnw 30 d : Int)))), (7, .long (lI (v - 1))), (9, .long (lI c)), (11, .int (iI (i : Int))), (12, .int (iI e)), (13, .int (iI (j : Int)))]) d_N_takeAway_230 (by decide) rfl ?_
                            refine J_aload_n 1 d_N_takeAway_232 rfl rfl ?_
                            refine gf_N_9 (by omega) (by rw [va_up_ne _ _ (by omega)]; exact hF) rfl d_N_takeAway_233 ?_
                            refine J_iload_n 3 d_N_takeAway_236 rfl rfl ?_
                            refine J_iload 9 d_N_takeAway_237 rfl ?_
                            refine J_iadd d_N_takeAway_239 ?_
                            refine J_iload 0 d_N_takeAway_240 rfl ?_
                            refine J_ldc (z := 1073741823) d_N_takeAway_242 wd_425 (by decide) ?_
                            refine J_iand (r := (((f (b + j)) + ((dg d) j)) + e) % 1073741824) d_N_takeAway_244 (iI_and 30 (by decide)) ?_
                            refine J_iastore 0 rfl (by omega) (by rw [va_up_self]) (by omega) d_N_takeAway_245 ?_
                            refine J_eqF (F2 := va_up (va_up F (k + 1) (.inl (g 0, 16, .inl (aI f)))) (k + 1) (.inl (g 0, 16, .inl (aI (va_up f (b + j) ((((f (b + j)) + ((dg d) j)) + e) % 1073741824)))))) (congrArg (fun q => va_up (va_up F (k + 1) (.inl (g 0, 16, .inl (aI f)))) (k + 1) (.inl (g 0, 16, .inl (aI (va_up f q ((((f (b + j)) + ((dg d) j)) + e) % 1073741824)))))) (by omega : ((b : Int) + (j : Int)).toNat = b + j)) ?_
                            refine J_eqF (F2 := va_up F (k + 1) (.inl (g 0, 16, .inl (aI (va_up f (b + j) ((((f (b + j)) + ((dg d) j)) + e) % 1073741824)))))) (up_in0) ?_
                            refine J_iload 0 d_N_takeAway_246 rfl ?_
                            refine J_bipush d_N_takeAway_248 (i8_ok (by decide)) ?_
                            refine J_iushr (r := (((f (b + j)) + ((dg d) j)) + e) % 4294967296 / 1073741824) d_N_takeAway_250 (iI_ushr 30 (by decide)) ?_
                            refine J_istore (lv' := [(12, .int (iI ((((f (b + j)) + ((dg d) j)) + e) % 4294967296 / 1073741824))), (14, .int (iI (((f (b + j)) + ((dg d) j)) + e))), (0, .ref (ad k)), (1, .ref (ad m)), (2, .int (iI (b : Int))), (3, .int (iI ((b : Int) + (lnw 30 d : Int)))), (7, .long (lI (v - 1))), (9, .long (lI c)), (11, .int (iI (i : Int))), (13, .int (iI (j : Int)))]) d_N_takeAway_251 (by decide) rfl ?_
                            refine J_iinc (j := 9) (b := (j : Int) + 1) (lv' := [(13, .int (iI ((j : Int) + 1))), (12, .int (iI ((((f (b + j)) + ((dg d) j)) + e) % 4294967296 / 1073741824))), (14, .int (iI (((f (b + j)) + ((dg d) j)) + e))), (0, .ref (ad k)), (1, .ref (ad m)), (2, .int (iI (b : Int))), (3, .int (iI ((b : Int) + (lnw 30 d : Int)))), (7, .long (lI (v - 1))), (9, .long (lI c)), (11, .int (iI (i : Int)))]) d_N_takeAway_253 rfl (by omega) (by decide) rfl ?_
                            refine J_goto (tgt := 192) d_N_takeAway_256 (by decide) ?_
                            refine J_pick (lv' := [(0, .ref (ad k)), (1, .ref (ad m)), (2, .int (iI (b : Int))), (3, .int (iI ((b : Int) + (lnw 30 d : Int)))), (7, .long (lI (v - 1))), (9, .long (lI c)), (11, .int (iI (i : Int))), (12, .int (iI ((((f (b + j)) + ((dg d) j)) + e) % 4294967296 / 1073741824))), (13, .int (iI ((j : Int) + 1)))]) [3, 4, 5, 6, 7, 8, 9, 1, 0] rfl ?_
                            refine ih (j + 1) ((((f (b + j)) + ((dg d) j)) + e) % 4294967296 / 1073741824) (va_up f (b + j) ((((f (b + j)) + ((dg d) j)) + e) % 1073741824)) (by omega) (by omega) ?_ ?_ (by omega)
                            · have e1 := zc_step (X := ((X : Int) + -v * (d : Int) * pz b)) (zY 1 d b j)
                              rw [show b + (j + 1) = b + j + 1 by omega, e1, fi, Int.one_mul, ← he]
                              omega
                            · have e1 := zc_dig (zT ((X : Int) + -v * (d : Int) * pz b) 1 d b j)
                              rw [← hZ2] at e1
                              rw [fi, hf]
                              refine mix_up ?_
                              rw [za_lo (by omega), e1, Int.one_mul, ← he]
                    exact loop192 ((lnw 30 d + 1 - 0) + 1) 0 (0 : Int) (za ((X : Int) + -v * (d : Int) * pz b) (b + lnw 30 d + 1)) (by omega) (by omega) (by rw [dl_0, Int.mul_zero, Int.zero_mul, zc_z]) (mix_low (fun jj hj => by rw [za_lo (by omega), za_lo (by omega), show -(v - 1) = -v + 1 by omega, Int.add_mul, Int.add_mul, ← Int.add_assoc, zdg_low (by omega)])) (Nat.lt_succ_self _)
            exact loop167 ((3 - 0) + 1) 0 qh c (by omega) (by omega) (Nat.lt_succ_self _)
          refine J_pick (lv' := [(0, .ref (ad k)), (1, .ref (ad m)), (2, .int (iI (b : Int))), (3, .int (iI ((b : Int) + (lnw 30 d : Int)))), (7, .long (lI qh)), (9, .long (lI 0)), (11, .int (iI 0))]) [6, 7, 8, 5, 2, 1, 0] rfl ?_
          have loop90 : ∀ (fuel : Nat) (i : Nat) (c : Int) (f : Nat → Int) (h1 : i ≤ lnw 30 d + 1) (hc : c = zc (X : Int) (-qh * dl d i * pz b) (b + i)) (hf : f = mix (b + i) (za ((X : Int) + -qh * (d : Int) * pz b) (b + lnw 30 d + 1)) (za (X : Int) (b + lnw 30 d + 1))) (hfu : lnw 30 d + 1 - i < fuel), J l rm_N_takeAway (0, 0) "NumberTower$Natural" b_N_takeAway 15 (Option.some Jvm.ClassFile.FieldType.int) D jCl (jTys g) A (fun _ me => me.name = y_N_takeAway.name) (ji ad N (fun z F' => z = ((X / 2 ^ (30 * b) / d : Nat) : Int) ∧ F' = va_up F (k + 1) (aN g (dg (X - X / 2 ^ (30 * b) / d * d * 2 ^ (30 * b)))))) ad N 0 0 90 [(0, .ref (ad k)), (1, .ref (ad m)), (2, .int (iI (b : Int))), (3, .int (iI ((b : Int) + (lnw 30 d : Int)))), (7, .long (lI qh)), (9, .long (lI c)), (11, .int (iI (i : Int)))] [] (va_up F (k + 1) (.inl (g 0, 16, .inl (aI f)))) := by
            intro fuel
            induction fuel with
            | zero => intro i c f h1 hc hf hfu; exact absurd hfu (Nat.not_lt_zero _)
            | succ fuel ih =>
              intro i c f h1 hc hf hfu
              refine J_iload 6 d_N_takeAway_90 rfl ?_
              refine J_aload_n 1 d_N_takeAway_92 rfl rfl ?_
              refine gf_N_19 (by omega) (by rw [va_up_ne _ _ (by omega)]; exact yhF) rfl d_N_takeAway_93 ?_
              refine J_if_icmpgt (tgt := 164) d_N_takeAway_96 (by decide) ⟨by omega, by omega⟩ ⟨by omega, by omega⟩ (fun c96 => ?_) (fun c96 => ?_)
              · refine J_pick (lv' := [(0, .ref (ad k)), (1, .ref (ad m)), (2, .int (iI (b : Int))), (3, .int (iI ((b : Int) + (lnw 30 d : Int)))), (7, .long (lI qh)), (9, .long (lI c))]) [0, 1, 2, 3, 4, 5] rfl ?_
                have hin : i = lnw 30 d + 1 := by omega
                have hend : f = za ((X : Int) + -qh * (d : Int) * pz b) (b + lnw 30 d + 1) := by
                  rw [hf]
                  exact mix_all (fun j hj => by rw [za_hi (by omega), za_hi (by omega)])
                refine J_eqF (F2 := va_up F (k + 1) (.inl (g 0, 16, .inl (aI (za ((X : Int) + -qh * (d : Int) * pz b) (b + lnw 30 d + 1)))))) (congrArg (fun qq => va_up F (k + 1) (.inl (g 0, 16, .inl (aI qq)))) hend) ?_
                exact lab164 c (by
                  rw [hc, hin, dl_e (by omega)]
                  unfold zc
                  rw [show b + (lnw 30 d + 1) = b + lnw 30 d + 1 by omega, Int.emod_eq_of_lt (by omega) hXz])
              · refine J_iload_n 2 d_N_takeAway_99 rfl rfl ?_
                refine J_iload 6 d_N_takeAway_100 rfl ?_
                refine J_iadd d_N_takeAway_102 ?_
                refine J_bipush d_N_takeAway_103 (i8_ok (by decide)) ?_
                refine J_if_icmpge (tgt := 164) d_N_takeAway_105 (by decide) ⟨by omega, by omega⟩ ⟨by omega, by omega⟩ (fun c105 => ?_) (fun c105 => ?_)
                · refine J_pick (lv' := [(0, .ref (ad k)), (1, .ref (ad m)), (2, .int (iI (b : Int))), (3, .int (iI ((b : Int) + (lnw 30 d : Int)))), (7, .long (lI qh)), (9, .long (lI c))]) [0, 1, 2, 3, 4, 5] rfl ?_
                  have hin : i = lnw 30 d + 1 := by omega
                  have hend : f = za ((X : Int) + -qh * (d : Int) * pz b) (b + lnw 30 d + 1) := by
                    rw [hf]
                    exact mix_all (fun j hj => by rw [za_hi (by omega), za_hi (by omega)])
                  refine J_eqF (F2 := va_up F (k + 1) (.inl (g 0, 16, .inl (aI (za ((X : Int) + -qh * (d : Int) * pz b) (b + lnw 30 d + 1)))))) (congrArg (fun qq => va_up F (k + 1) (.inl (g 0, 16, .inl (aI qq)))) hend) ?_
                  exact lab164 c (by
                    rw [hc, hin, dl_e (by omega)]
                    unfold zc
                    rw [show b + (lnw 30 d + 1) = b + lnw 30 d + 1 by omega, Int.emod_eq_of_lt (by omega) hXz])
                · have fi : f (b + i) = zdg (X : Int) (b + i) := by rw [hf, mix_at, za_lo (by omega)]
                  have zb := zdg_b (X : Int) (b + i)
                  have hdd := dg_nat d i
                  have bd := dgt_b d i
                  have hdl := dl_b d i
                  have hc2 := zc_rng (X := (X : Int)) (Y := -qh * dl d i * pz b) (m := qh) (t := b + i) (by
                    rw [pz_a, Int.neg_mul, Int.neg_mul, Int.mul_comm (pz b), ← Int.mul_assoc]
                    exact Int.neg_le_neg (Int.mul_le_mul_of_nonneg_right (Int.mul_le_mul_of_nonneg_left hdl.2 hqr.1) (by omega))) (by
                    rw [Int.neg_mul, Int.neg_mul]
                    have := Int.mul_nonneg (Int.mul_nonneg hqr.1 hdl.1) (Int.le_of_lt hPb)
                    omega)
                  have hpr : 0 ≤ qh * dg d i ∧ qh * dg d i ≤ 1152921502459363329 := by
                    have h1 := dprod (x := dgt 30 d i) (f := qh.toNat) rfl (by omega)
                    have h2 : qh * dg d i = ((dgt 30 d i * qh.toNat : Nat) : Int) := by
                      rw [hdd]; push_cast; rw [Int.toNat_of_nonneg hqr.1, Int.mul_comm]
                    omega
                  refine J_aload_n 0 d_N_takeAway_108 rfl rfl ?_
                  refine gf_N_9 (by omega) (by rw [va_up_ne _ _ (by omega)]; exact hF) rfl d_N_takeAway_109 ?_
                  refine J_iload_n 2 d_N_takeAway_112 rfl rfl ?_
                  refine J_iload 6 d_N_takeAway_113 rfl ?_
                  refine J_iadd d_N_takeAway_115 ?_
                  refine J_iaload 0 rfl (by omega) (by rw [va_up_self]) (by omega) d_N_takeAway_116 ?_
                  refine J_topi (r := f (b + i)) (congrArg (fun q => iI (f q)) (by omega)) ?_
                  refine J_i2l d_N_takeAway_117 (by rw [fi]; omega) ?_
                  refine J_lload 4 d_N_takeAway_118 rfl ?_
                  refine J_aload_n 1 d_N_takeAway_120 rfl rfl ?_
                  refine gf_N_9 (by omega) (by rw [va_up_ne _ _ (by omega)]; exact yhF) rfl d_N_takeAway_121 ?_
                  refine J_iload 6 d_N_takeAway_124 rfl ?_
                  refine J_iaload 0 rfl (by omega) (by rw [va_up_ne _ _ (by omega)]; exact yhA) (by omega) d_N_takeAway_126 ?_
                  refine J_topi (r := (dg d) i) (congrArg (fun q => iI ((dg d) q)) (by omega)) ?_
                  refine J_i2l d_N_takeAway_127 (inh (dgh d) _) ?_
                  refine J_lmul d_N_takeAway_128 ?_
                  refine J_lsub d_N_takeAway_129 ?_
                  refine J_lload 5 d_N_takeAway_130 rfl ?_
                  refine J_ladd d_N_takeAway_132 ?_
                  refine J_lstore (lv' := [(12, .long (lI (((f (b + i)) - (qh * ((dg d) i))) + c))), (0, .ref (ad k)), (1, .ref (ad m)), (2, .int (iI (b : Int))), (3, .int (iI ((b : Int) + (lnw 30 d : Int)))), (7, .long (lI qh)), (9, .long (lI c)), (11, .int (iI (i : Int)))]) d_N_takeAway_133 (by decide) rfl ?_
                  refine J_aload_n 1 d_N_takeAway_135 rfl rfl ?_
                  refine gf_N_9 (by omega) (by rw [va_up_ne _ _ (by omega)]; exact hF) rfl d_N_takeAway_136 ?_
                  refine J_iload_n 3 d_N_takeAway_139 rfl rfl ?_
                  refine J_iload 7 d_N_takeAway_140 rfl ?_
                  refine J_iadd d_N_takeAway_142 ?_
                  refine J_lload 0 d_N_takeAway_143 rfl ?_
                  refine J_ldc2 (z := 1073741823) d_N_takeAway_145 wd_310 (by decide) ?_
                  refine J_land (r := (((f (b + i)) - (qh * ((dg d) i))) + c) % 1073741824) d_N_takeAway_148 (lI_and 30 (by decide)) ?_
                  refine J_l2i d_N_takeAway_149 ?_
                  refine J_iastore 0 rfl (by omega) (by rw [va_up_self]) (by omega) d_N_takeAway_150 ?_
                  refine J_eqF (F2 := va_up (va_up F (k + 1) (.inl (g 0, 16, .inl (aI f)))) (k + 1) (.inl (g 0, 16, .inl (aI (va_up f (b + i) ((((f (b + i)) - (qh * ((dg d) i))) + c) % 1073741824)))))) (congrArg (fun q => va_up (va_up F (k + 1) (.inl (g 0, 16, .inl (aI f)))) (k + 1) (.inl (g 0, 16, .inl (aI (va_up f q ((((f (b + i)) - (qh * ((dg d) i))) + c) % 1073741824)))))) (by omega : ((b : Int) + (i : Int)).toNat = b + i)) ?_
                  refine J_eqF (F2 := va_up F (k + 1) (.inl (g 0, 16, .inl (aI (va_up f (b + i) ((((f (b + i)) - (qh * ((dg d) i))) + c) % 1073741824)))))) (up_in0) ?_
                  refine J_lload 0 d_N_takeAway_151 rfl ?_
                  refine J_bipush d_N_takeAway_153 (i8_ok (by decide)) ?_
                  refine J_lshr (r := (((f (b + i)) - (qh * ((dg d) i))) + c) / 1073741824) d_N_takeAway_155 (lI_shr ⟨by omega, by omega⟩ 30 (by decide)) ?_
                  refine J_lstore (lv' := [(9, .long (lI ((((f (b + i)) - (qh * ((dg d) i))) + c) / 1073741824))), (12, .long (lI (((f (b + i)) - (qh * ((dg d) i))) + c))), (0, .ref (ad k)), (1, .ref (ad m)), (2, .int (iI (b : Int))), (3, .int (iI ((b : Int) + (lnw 30 d : Int)))), (7, .long (lI qh)), (11, .int (iI (i : Int)))]) d_N_takeAway_156 (by decide) rfl ?_
                  refine J_iinc (j := 7) (b := (i : Int) + 1) (lv' := [(11, .int (iI ((i : Int) + 1))), (9, .long (lI ((((f (b + i)) - (qh * ((dg d) i))) + c) / 1073741824))), (12, .long (lI (((f (b + i)) - (qh * ((dg d) i))) + c))), (0, .ref (ad k)), (1, .ref (ad m)), (2, .int (iI (b : Int))), (3, .int (iI ((b : Int) + (lnw 30 d : Int)))), (7, .long (lI qh))]) d_N_takeAway_158 rfl (by omega) (by decide) rfl ?_
                  refine J_goto (tgt := 90) d_N_takeAway_161 (by decide) ?_
                  refine J_pick (lv' := [(0, .ref (ad k)), (1, .ref (ad m)), (2, .int (iI (b : Int))), (3, .int (iI ((b : Int) + (lnw 30 d : Int)))), (7, .long (lI qh)), (9, .long (lI ((((f (b + i)) - (qh * ((dg d) i))) + c) / 1073741824))), (11, .int (iI ((i : Int) + 1)))]) [3, 4, 5, 6, 7, 1, 0] rfl ?_
                  refine ih (i + 1) ((((f (b + i)) - (qh * ((dg d) i))) + c) / 1073741824) (va_up f (b + i) ((((f (b + i)) - (qh * ((dg d) i))) + c) % 1073741824)) (by omega) ?_ ?_ (by omega)
                  · have e1 := zc_step (X := (X : Int)) (zY (-qh) d b i)
                    rw [show b + (i + 1) = b + i + 1 by omega, e1, fi, Int.neg_mul, ← hc]
                    omega
                  · have e1 := zc_dig (zT (X : Int) (-qh) d b i)
                    rw [fi, hf]
                    refine mix_up ?_
                    rw [za_lo (by omega), e1, Int.neg_mul, ← hc]
                    omega
          refine J_eqF (F2 := va_up F (k + 1) (.inl (g 0, 16, .inl (aI (dg X))))) (up_same1 hA) ?_
          exact loop90 ((lnw 30 d + 1 - 0) + 1) 0 (0 : Int) (dg X) (by omega) (by rw [dl_0, Int.mul_zero, Int.zero_mul, zc_z]) (by
            rw [← za_n hXt]
            exact mix_low (fun jj hj => by rw [za_lo (by omega), za_lo (by omega), zdg_low (by omega)])) (Nat.lt_succ_self _)
        · exact absurd c63 (by omega)
      · exact absurd c21 (by omega)
