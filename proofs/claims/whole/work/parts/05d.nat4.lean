/-! naturals: products and shifts -/
theorem mix_dn {i : Int} {A B : Nat → Int} {v : Int} (h0 : 0 ≤ i) (hv : v = B i.toNat) : va_up (mix (i + 1).toNat A B) i.toNat v = mix (i - 1 + 1).toNat A B := by
  funext j
  simp only [va_up, mix]
  by_cases e : j = i.toNat
  · subst e; rw [if_pos rfl, if_neg (by omega), hv]
  · rw [if_neg e]
    by_cases q : j < (i + 1).toNat
    · rw [if_pos q, if_pos (by omega)]
    · rw [if_neg q, if_neg (by omega)]
theorem mix_lo {i j : Nat} {A B : Nat → Int} (h : j < i) : mix i A B j = A j := by simp [mix, h]
theorem mix_hi {i j : Nat} {A B : Nat → Int} (h : i ≤ j) : mix i A B j = B j := by simp only [mix]; rw [if_neg (by omega)]
theorem mix_top {i : Nat} {A B : Nat → Int} (h : ∀ j, i ≤ j → A j = B j) : A = mix i A B := by
  funext j
  simp only [mix]
  split
  · rfl
  · exact h j (by omega)
theorem scale_Y (f m a i : Nat) : m + f * (a % 2 ^ (30 * (i + 1))) = m + f * (a % 2 ^ (30 * i)) + dgt 30 a i * f * 2 ^ (30 * i) := by
  rw [low_w, Nat.mul_add, ← Nat.mul_assoc, Nat.mul_comm f (dgt 30 a i), Nat.add_assoc]
theorem scale_T (f m a i : Nat) : a * f + m = 0 + (m + f * (a % 2 ^ (30 * i)) + dgt 30 a i * f * 2 ^ (30 * i)) + f * (a / 2 ^ (30 * (i + 1))) * 2 ^ (30 * (i + 1)) := by
  rw [← scale_Y]
  have h := low_q a (i + 1)
  have h2 : f * a = f * (a % 2 ^ (30 * (i + 1))) + f * (a / 2 ^ (30 * (i + 1))) * 2 ^ (30 * (i + 1)) := by
    rw [Nat.mul_assoc, ← Nat.mul_add, ← h]
  rw [Nat.mul_comm a]
  omega
theorem scale_c {f m a i : Nat} (hf : f < 1073741824) (hm : m < 1073741824) : cy 0 (m + f * (a % 2 ^ (30 * i))) i ≤ 1073741823 := by
  apply Nat.le_of_lt_succ
  unfold cy
  rw [Nat.zero_mod, Nat.zero_add, Nat.div_lt_iff_lt_mul (Nat.two_pow_pos _)]
  have h1 := Nat.mod_lt a (Nat.two_pow_pos (30 * i))
  have h2 : f * (a % 2 ^ (30 * i)) ≤ 1073741823 * (a % 2 ^ (30 * i)) := Nat.mul_le_mul_right _ (by omega)
  generalize 2 ^ (30 * i) = P at *
  omega
theorem dprod {x f : Nat} {a i : Nat} (hx : x = dgt 30 a i) (hf : f < 1073741824) : x * f ≤ 1152921502459363329 := by
  have := dgt_b a i
  exact Nat.le_trans (Nat.mul_le_mul (by omega : x ≤ 1073741823) (by omega : f ≤ 1073741823)) (by decide)
/-- a limb, or nothing -/
def gl (a : Nat) (z : Int) : Nat := if z < 0 then 0 else dgt 30 a z.toNat
theorem gl_b (a : Nat) (z : Int) : gl a z < 1073741824 := by
  unfold gl; split
  · decide
  · exact dgt_b _ _
theorem gl_n {a : Nat} {z : Int} (h : z < 0) : gl a z = 0 := by unfold gl; rw [if_pos h]
theorem gl_p {a : Nat} {z : Int} (h : 0 ≤ z) : gl a z = dgt 30 a z.toNat := by unfold gl; rw [if_neg (by omega)]
theorem p30 {s : Nat} (h : s < 30) : 2 ^ s * 2 ^ (30 - s) = 1073741824 := by
  rw [← Nat.pow_add, show s + (30 - s) = 30 by omega]
theorem or_sh {x l s : Nat} (hl : l < 1073741824) (hs : s < 30) : x * 2 ^ s ||| l / 2 ^ (30 - s) = x * 2 ^ s + l / 2 ^ (30 - s) := by
  rw [Nat.mul_comm x]
  refine (Nat.two_pow_add_eq_or_of_lt ?_ x).symm
  rw [Nat.div_lt_iff_lt_mul (Nat.two_pow_pos _), p30 hs]
  exact hl
theorem or_dn {x l s : Nat} (hl : l < 1073741824) (hs : s < 30) : l / 2 ^ s ||| x * 2 ^ (30 - s) = l / 2 ^ s + x * 2 ^ (30 - s) := by
  rw [Nat.mul_comm x, Nat.or_comm, Nat.add_comm]
  refine (Nat.two_pow_add_eq_or_of_lt ?_ x).symm
  rw [Nat.div_lt_iff_lt_mul (Nat.two_pow_pos _), Nat.mul_comm, p30 hs]
  exact hl
/-- a limb of a number shifted up by less than one limb -/
theorem dgt_us {a s i : Nat} (hs : s < 30) : dgt 30 (a * 2 ^ s) (i + 1) = (dgt 30 a (i + 1) * 2 ^ s + dgt 30 a i / 2 ^ (30 - s)) % 1073741824 := by
  have hp := p30 hs
  have hps := Nat.two_pow_pos s
  have hpt := Nat.two_pow_pos (30 - s)
  -- a / P_i in terms of its limbs
  obtain ⟨v, hv⟩ : ∃ v, v = a / 2 ^ (30 * i) := ⟨_, rfl⟩
  have e1 : dgt 30 a i = v % 1073741824 := by rw [hv]; rfl
  have e2 : dgt 30 a (i + 1) = v / 1073741824 % 1073741824 := by
    rw [hv]; unfold dgt; rw [pw_succ, Nat.div_div_eq_div_mul]
  have e3 : dgt 30 (a * 2 ^ s) (i + 1) = v / 2 ^ (30 - s) % 1073741824 := by
    unfold dgt
    rw [hv, pw_succ, show (2 : Nat) ^ 30 = 2 ^ (30 - s) * 2 ^ s by rw [Nat.mul_comm, hp], ← Nat.mul_assoc, Nat.mul_div_mul_right _ _ hps, Nat.div_div_eq_div_mul, Nat.mul_comm (2 ^ (30 - s)) (2 ^ s), hp]
  rw [e1, e2, e3]
  generalize 2 ^ s = p at *
  generalize 2 ^ (30 - s) = q at *
  have h1 := Nat.div_add_mod v 1073741824
  have e4 : v / q = v / 1073741824 * p + v % 1073741824 / q := by
    have : v = v % 1073741824 + q * (v / 1073741824 * p) := by
      rw [Nat.mul_comm q, Nat.mul_assoc, hp]; omega
    conv => lhs; rw [this]
    rw [Nat.add_mul_div_left _ _ hpt]
    omega
  rw [e4, Nat.add_mod (v / 1073741824 % 1073741824 * p), Nat.mod_mul_mod, ← Nat.add_mod]
theorem dgt_us0 {a s : Nat} : dgt 30 (a * 2 ^ s) 0 = dgt 30 a 0 * 2 ^ s % 1073741824 := by
  rw [dgt_00, dgt_00, Nat.mod_mul_mod]
theorem dgt_jump {a J i : Nat} : dgt 30 (a * 2 ^ (30 * J)) (i + J) = dgt 30 a i := by
  unfold dgt
  rw [Nat.mul_add, Nat.pow_add, Nat.mul_comm (2 ^ (30 * i)), Nat.mul_comm a, Nat.mul_div_mul_left _ _ (Nat.two_pow_pos _)]
theorem dgt_under {a J i : Nat} (h : i < J) : dgt 30 (a * 2 ^ (30 * J)) i = 0 := by
  unfold dgt
  rw [show 30 * J = 30 * (i + 1) + 30 * (J - (i + 1)) by rw [← Nat.mul_add]; congr 1; omega, Nat.pow_add, pw_succ]
  rw [show a * (2 ^ (30 * i) * 2 ^ 30 * 2 ^ (30 * (J - (i + 1)))) = 2 ^ (30 * i) * (2 ^ 30 * (2 ^ (30 * (J - (i + 1))) * a)) by rw [Nat.mul_comm a, Nat.mul_assoc, Nat.mul_assoc], Nat.mul_div_cancel_left _ (Nat.two_pow_pos _), Nat.mul_mod_right]
theorem dgt_up {a y i : Nat} : dgt 30 (a * 2 ^ y) i = (gl a ((i : Int) - ((y / 30 : Nat) : Int)) * 2 ^ (y % 30) + gl a ((i : Int) - ((y / 30 : Nat) : Int) - 1) / 2 ^ (30 - y % 30)) % 1073741824 := by
  have hy : a * 2 ^ y = a * 2 ^ (y % 30) * 2 ^ (30 * (y / 30)) := by
    rw [Nat.mul_assoc, ← Nat.pow_add, Nat.mod_add_div]
  have hs : y % 30 < 30 := Nat.mod_lt _ (by decide)
  rw [hy]
  generalize y % 30 = s at *
  generalize y / 30 = J at *
  by_cases h1 : i < J
  · rw [dgt_under h1, gl_n (by omega), gl_n (by omega)]; simp
  · obtain ⟨r, rfl⟩ : ∃ r, i = r + J := ⟨i - J, by omega⟩
    rw [dgt_jump]
    cases r with
    | zero =>
      rw [dgt_us0, gl_p (by omega), gl_n (z := _ - 1) (by omega)]
      rw [show (((0 + J : Nat) : Int) - (J : Int)).toNat = 0 by omega]
      simp
    | succ r =>
      rw [dgt_us hs, gl_p (by omega), gl_p (by omega)]
      rw [show (((r + 1 + J : Nat) : Int) - (J : Int)).toNat = r + 1 by omega, show (((r + 1 + J : Nat) : Int) - (J : Int) - 1).toNat = r by omega]
theorem dgt_dn {a y i : Nat} : dgt 30 (a / 2 ^ y) i = (dgt 30 a (i + y / 30) / 2 ^ (y % 30) + dgt 30 a (i + y / 30 + 1) * 2 ^ (30 - y % 30)) % 1073741824 := by
  have hs : y % 30 < 30 := Nat.mod_lt _ (by decide)
  have hy : 30 * i + y = 30 * (i + y / 30) + y % 30 := by omega
  have e0 : dgt 30 (a / 2 ^ y) i = a / 2 ^ (30 * (i + y / 30)) / 2 ^ (y % 30) % 1073741824 := by
    unfold dgt
    rw [Nat.div_div_eq_div_mul, Nat.div_div_eq_div_mul, ← Nat.pow_add, ← Nat.pow_add, Nat.add_comm y, hy]
  rw [e0]
  generalize y % 30 = s at *
  generalize i + y / 30 = m at *
  have hp := p30 hs
  have hps := Nat.two_pow_pos s
  obtain ⟨v, hv⟩ : ∃ v, v = a / 2 ^ (30 * m) := ⟨_, rfl⟩
  have e1 : dgt 30 a m = v % 1073741824 := by rw [hv]; rfl
  have e2 : dgt 30 a (m + 1) = v / 1073741824 % 1073741824 := by
    rw [hv]; unfold dgt; rw [pw_succ, Nat.div_div_eq_div_mul]
  rw [e1, e2, ← hv]
  generalize 2 ^ s = p at *
  generalize 2 ^ (30 - s) = q at *
  have h1 := Nat.div_add_mod v 1073741824
  have e4 : v / p = v / 1073741824 * q + v % 1073741824 / p := by
    have : v = v % 1073741824 + p * (v / 1073741824 * q) := by
      rw [Nat.mul_comm (v / 1073741824), ← Nat.mul_assoc, hp]; omega
    conv => lhs; rw [this]
    rw [Nat.add_mul_div_left _ _ hps]
    omega
  rw [e4, Nat.add_comm, Nat.add_mod, Nat.add_mod (v % 1073741824 / p), Nat.mod_mul_mod]
theorem lnw_up {a y : Nat} : lnw 30 (a * 2 ^ y) ≤ lnw 30 a + y / 30 + 1 := by
  rw [lnw_le (by decide)]
  have h1 : a < 2 ^ (30 * lnw 30 a) := lnw_lt (by decide)
  have h2 : a * 2 ^ y < 2 ^ (30 * lnw 30 a) * 2 ^ y := Nat.mul_lt_mul_of_pos_right h1 (Nat.two_pow_pos _)
  rw [← Nat.pow_add] at h2
  exact Nat.lt_of_lt_of_le h2 (Nat.pow_le_pow_right (by decide) (by omega))
theorem dsm {a d i : Nat} (hd : 0 < d) : dgt 30 (a / d) i = (a / 2 ^ (30 * (i + 1)) % d * 1073741824 + dgt 30 a i) / d ∧ a / 2 ^ (30 * i) % d = (a / 2 ^ (30 * (i + 1)) % d * 1073741824 + dgt 30 a i) % d := by
  obtain ⟨u, hu⟩ : ∃ u, u = a / 2 ^ (30 * (i + 1)) := ⟨_, rfl⟩
  have e1 : a / 2 ^ (30 * i) = u * 1073741824 + dgt 30 a i := by
    rw [hu, pw_succ, ← Nat.div_div_eq_div_mul]; unfold dgt
    have := Nat.div_add_mod (a / 2 ^ (30 * i)) (2 ^ 30)
    omega
  have e2 : a / d / 2 ^ (30 * i) = a / 2 ^ (30 * i) / d := by rw [Nat.div_div_eq_div_mul, Nat.div_div_eq_div_mul, Nat.mul_comm]
  have hb := dgt_b a i
  have e3 : u * 1073741824 + dgt 30 a i = (u % d * 1073741824 + dgt 30 a i) + d * (u / d * 1073741824) := by
    have := Nat.div_add_mod u d
    have e : u * 1073741824 = (d * (u / d) + u % d) * 1073741824 := by rw [this]
    rw [e, Nat.add_mul, Nat.mul_assoc]; omega
  have h3 := Nat.mod_lt u hd
  constructor
  · show a / d / 2 ^ (30 * i) % 2 ^ 30 = _
    rw [e2, e1, ← hu, e3, Nat.add_mul_div_left _ _ hd]
    have h4 : (u % d * 1073741824 + dgt 30 a i) / d < 1073741824 := by
      rw [Nat.div_lt_iff_lt_mul hd]
      have h5 : (u % d + 1) * 1073741824 ≤ d * 1073741824 := Nat.mul_le_mul_right _ h3
      generalize u % d = r at h5 ⊢
      clear e1 e2 e3 hu
      omega
    rw [Nat.mul_comm (u / d), Nat.add_mul_mod_self_left]
    exact Nat.mod_eq_of_lt h4
  · rw [e1, ← hu, e3, Nat.add_mul_mod_self_left]
set_option maxRecDepth 100000 in
set_option maxHeartbeats 4000000 in
theorem c_N_scale {l : Launch} (hfl : l.flags = flags0) {D : va_G} {g : Nat → ClassId} {ad : Nat → Nat} {N : Nat} {F : Nat → va_E} {k a n m : Nat}
    (hk : k + 1 < N) (hF : F k = oN ad k (lnw 30 a : Int)) (hA : F (k + 1) = aN g (dg a)) (h : a < 2 ^ 480) (hn : n < 1073741824) (hm : m < 1073741824) (ht : a * n + m < 2 ^ 480) :
    JC l y_N_scale b_N_scale 9 (Option.none : Option Jvm.ClassFile.FieldType) rm_N_scale (0, 0) D jCl (jTys g) ad N F [.ref (ad k), .int (iI (n : Int)), .int (iI (m : Int))] (jv ad N (fun F' => F' = upN ad g F k (a * n + m))) := by
  have l1 := cn_16 h
  refine JC.go hfl (own := "NumberTower$Natural") (lv := [(0, .ref (ad k)), (1, .int (iI (n : Int))), (2, .int (iI (m : Int)))]) rfl (by decide +kernel) (Nat.le_of_ble_eq_true rfl) rfl (fun A => ?_)
  refine J_iload_n 2 d_N_scale_0 rfl rfl ?_
  refine J_i2l d_N_scale_1 ⟨by omega, by omega⟩ ?_
  refine J_lstore_n (lv' := [(3, .long (lI (m : Int))), (0, .ref (ad k)), (1, .int (iI (n : Int))), (2, .int (iI (m : Int)))]) d_N_scale_2 rfl (by decide) rfl ?_
  refine J_aload_n 1 d_N_scale_3 rfl rfl ?_
  refine gf_N_19 (by omega) hF rfl d_N_scale_4 ?_
  refine J_istore (lv' := [(5, .int (iI (lnw 30 a : Int))), (3, .long (lI (m : Int))), (0, .ref (ad k)), (1, .int (iI (n : Int))), (2, .int (iI (m : Int)))]) d_N_scale_7 (by decide) rfl ?_
  refine J_iconst d_N_scale_9 ?_
  refine J_istore (lv' := [(6, .int (iI 0)), (5, .int (iI (lnw 30 a : Int))), (3, .long (lI (m : Int))), (0, .ref (ad k)), (1, .int (iI (n : Int))), (2, .int (iI (m : Int)))]) d_N_scale_10 (by decide) rfl ?_
  have lab73 : J l rm_N_scale (0, 0) "NumberTower$Natural" b_N_scale 9 (Option.none : Option Jvm.ClassFile.FieldType) D jCl (jTys g) A (fun _ me => me.name = y_N_scale.name) (jv ad N (fun F' => F' = upN ad g F k (a * n + m))) ad N 0 0 73 [(0, .ref (ad k)), (5, .int (iI (lnw 30 a : Int)))] [] (va_up F (k + 1) (.inl (g 0, 16, .inl (aI (dg (a * n + m)))))) := by
    refine J_aload_n 0 d_N_scale_73 rfl rfl ?_
    refine J_iload 1 d_N_scale_74 rfl ?_
    refine J_iconst d_N_scale_76 ?_
    refine J_iadd d_N_scale_77 ?_
    refine J_callVv cw_N_28 nh_N_trim pn_N_trim rfl rfl (by omega) (by rw [va_up_ne _ _ (by omega)]; exact hF) (As := [.int (iI ((lnw 30 a : Int) + 1))]) (rest := []) rfl (Nat.le_of_ble_eq_true rfl) ⟨by decide, by decide⟩ rfl ⟨by decide, by decide⟩ d_N_scale_78 (c_N_trimC hfl (n := a * n + m) (by omega) (by rw [va_up_ne _ _ (by omega)]; exact hF) (by rw [va_up_self]) ht ⟨by have := lnw_scale (a := a) hn hm; omega, by omega⟩) (fun  F1 hq => ?_)
    have eF1 := hq
    refine J_eqF eF1 ?_
    refine J_vret rfl d_N_scale_81 ⟨by decide, by decide⟩ ?_
    exact ⟨rfl, rfl, rfl, rfl⟩
  refine J_pick (lv' := [(0, .ref (ad k)), (1, .int (iI (n : Int))), (3, .long (lI (m : Int))), (5, .int (iI (lnw 30 a : Int))), (6, .int (iI 0))]) [3, 4, 2, 1, 0] rfl ?_
  have loop12 : ∀ (fuel : Nat) (i : Nat) (c : Int) (f : Nat → Int) (h1 : i ≤ 16) (hc : c = (cy 0 (m + n * (a % 2 ^ (30 * i))) i : Int)) (hf : f = mix i (dg (a * n + m)) (dg a)) (hfu : 16 - i < fuel), J l rm_N_scale (0, 0) "NumberTower$Natural" b_N_scale 9 (Option.none : Option Jvm.ClassFile.FieldType) D jCl (jTys g) A (fun _ me => me.name = y_N_scale.name) (jv ad N (fun F' => F' = upN ad g F k (a * n + m))) ad N 0 0 12 [(0, .ref (ad k)), (1, .int (iI (n : Int))), (3, .long (lI c)), (5, .int (iI (lnw 30 a : Int))), (6, .int (iI (i : Int)))] [] (va_up F (k + 1) (.inl (g 0, 16, .inl (aI f)))) := by
    intro fuel
    induction fuel with
    | zero => intro i c f h1 hc hf hfu; exact absurd hfu (Nat.not_lt_zero _)
    | succ fuel ih =>
      intro i c f h1 hc hf hfu
      have hc2 := scale_c (f := n) (m := m) (a := a) (i := i) hn hm
      have fi : f i = dg a i := by rw [hf]; exact mix_at
      have hd := dg_nat a i
      have hpr : dg a i * (n : Int) = ((dgt 30 a i * n : Nat) : Int) := by rw [hd]; push_cast; rfl
      have hpb := dprod (x := dgt 30 a i) (f := n) rfl hn
      refine J_iload 4 d_N_scale_12 rfl ?_
      refine J_bipush d_N_scale_14 (i8_ok (by decide)) ?_
      refine J_if_icmpge (tgt := 73) d_N_scale_16 (by decide) ⟨by omega, by omega⟩ ⟨by omega, by omega⟩ (fun c16 => ?_) (fun c16 => ?_)
      · refine J_pick (lv' := [(0, .ref (ad k)), (5, .int (iI (lnw 30 a : Int)))]) [0, 3] rfl ?_
        have hend := show f = dg (a * n + m) by
          rw [hf]
          refine mix_all (fun j hj => ?_)
          by_cases q : 16 ≤ i
          · rw [dg_16 ht (by omega), dg_16 h (by omega)]
          · rw [dg_zero (n := a) (by omega), dg_nat, cy_end (X := 0) (Y := m + n * (a % 2 ^ (30 * i))) (t := i) (by rw [low_e (by omega), Nat.mul_comm]; omega) (by omega) hj, dgt_0]
            rfl
        refine J_eqF (F2 := va_up F (k + 1) (.inl (g 0, 16, .inl (aI (dg (a * n + m)))))) (congrArg (fun qq => va_up F (k + 1) (.inl (g 0, 16, .inl (aI qq)))) hend) ?_
        exact lab73  
      · have lab32 : J l rm_N_scale (0, 0) "NumberTower$Natural" b_N_scale 9 (Option.none : Option Jvm.ClassFile.FieldType) D jCl (jTys g) A (fun _ me => me.name = y_N_scale.name) (jv ad N (fun F' => F' = upN ad g F k (a * n + m))) ad N 0 0 32 [(0, .ref (ad k)), (1, .int (iI (n : Int))), (3, .long (lI c)), (5, .int (iI (lnw 30 a : Int))), (6, .int (iI (i : Int)))] [] (va_up F (k + 1) (.inl (g 0, 16, .inl (aI f)))) := by
          refine J_aload_n 0 d_N_scale_32 rfl rfl ?_
          refine gf_N_9 (by omega) (by rw [va_up_ne _ _ (by omega)]; exact hF) rfl d_N_scale_33 ?_
          refine J_iload 4 d_N_scale_36 rfl ?_
          refine J_iaload 0 rfl (by omega) (by rw [va_up_self]) (by omega) d_N_scale_38 ?_
          refine J_topi (r := f i) (congrArg (fun q => iI (f q)) (by omega)) ?_
          refine J_i2l d_N_scale_39 (by rw [fi]; exact inh (dgh a) i) ?_
          refine J_iload_n 1 d_N_scale_40 rfl rfl ?_
          refine J_i2l d_N_scale_41 ⟨by omega, by omega⟩ ?_
          refine J_lmul d_N_scale_42 ?_
          refine J_lload_n 2 d_N_scale_43 rfl rfl ?_
          refine J_ladd d_N_scale_44 ?_
          refine J_lstore (lv' := [(7, .long (lI (((f i) * (n : Int)) + c))), (0, .ref (ad k)), (1, .int (iI (n : Int))), (3, .long (lI c)), (5, .int (iI (lnw 30 a : Int))), (6, .int (iI (i : Int)))]) d_N_scale_45 (by decide) rfl ?_
          refine J_aload_n 1 d_N_scale_47 rfl rfl ?_
          refine gf_N_9 (by omega) (by rw [va_up_ne _ _ (by omega)]; exact hF) rfl d_N_scale_48 ?_
          refine J_iload 5 d_N_scale_51 rfl ?_
          refine J_lload 0 d_N_scale_53 rfl ?_
          refine J_ldc2 (z := 1073741823) d_N_scale_55 wd_310 (by decide) ?_
          refine J_land (r := (((f i) * (n : Int)) + c) % 1073741824) d_N_scale_58 (lI_and 30 (by decide)) ?_
          refine J_l2i d_N_scale_59 ?_
          refine J_iastore 0 rfl (by omega) (by rw [va_up_self]) (by omega) d_N_scale_60 ?_
          refine J_eqF (F2 := va_up (va_up F (k + 1) (.inl (g 0, 16, .inl (aI f)))) (k + 1) (.inl (g 0, 16, .inl (aI (va_up f i ((((f i) * (n : Int)) + c) % 1073741824)))))) (congrArg (fun q => va_up (va_up F (k + 1) (.inl (g 0, 16, .inl (aI f)))) (k + 1) (.inl (g 0, 16, .inl (aI (va_up f q ((((f i) * (n : Int)) + c) % 1073741824)))))) (by omega : (i : Int).toNat = i)) ?_
          refine J_eqF (F2 := va_up F (k + 1) (.inl (g 0, 16, .inl (aI (va_up f i ((((f i) * (n : Int)) + c) % 1073741824)))))) (up_in0) ?_
          refine J_lload 0 d_N_scale_61 rfl ?_
          refine J_bipush d_N_scale_63 (i8_ok (by decide)) ?_
          refine J_lushr (r := (((f i) * (n : Int)) + c) % 18446744073709551616 / 1073741824) d_N_scale_65 (lI_ushr 30 (by decide)) ?_
          refine J_lstore_n (lv' := [(3, .long (lI ((((f i) * (n : Int)) + c) % 18446744073709551616 / 1073741824))), (7, .long (lI (((f i) * (n : Int)) + c))), (0, .ref (ad k)), (1, .int (iI (n : Int))), (5, .int (iI (lnw 30 a : Int))), (6, .int (iI (i : Int)))]) d_N_scale_66 rfl (by decide) rfl ?_
          refine J_iinc (j := 5) (b := (i : Int) + 1) (lv' := [(6, .int (iI ((i : Int) + 1))), (3, .long (lI ((((f i) * (n : Int)) + c) % 18446744073709551616 / 1073741824))), (7, .long (lI (((f i) * (n : Int)) + c))), (0, .ref (ad k)), (1, .int (iI (n : Int))), (5, .int (iI (lnw 30 a : Int)))]) d_N_scale_67 rfl (by omega) (by decide) rfl ?_
          refine J_goto (tgt := 12) d_N_scale_70 (by decide) ?_
          refine J_pick (lv' := [(0, .ref (ad k)), (1, .int (iI (n : Int))), (3, .long (lI ((((f i) * (n : Int)) + c) % 18446744073709551616 / 1073741824))), (5, .int (iI (lnw 30 a : Int))), (6, .int (iI ((i : Int) + 1)))]) [3, 4, 1, 5, 0] rfl ?_
          refine ih (i + 1) ((((f i) * (n : Int)) + c) % 18446744073709551616 / 1073741824) (va_up f i ((((f i) * (n : Int)) + c) % 1073741824)) (by omega) ?_ ?_ (by omega)
          · have e1 := cy_step (X := 0) (t := i) (scale_Y n m a i)
            rw [e1, dgt_0, fi, hpr]
            omega
          · have e1 := cy_dig (X := 0) (t := i) (scale_T n m a i)
            rw [dgt_0] at e1
            rw [fi, hf]
            refine mix_up ?_
            rw [hpr, dg_nat, e1]
            omega
        refine J_iload 4 d_N_scale_19 rfl ?_
        refine J_iload 3 d_N_scale_21 rfl ?_
        refine J_if_icmplt (tgt := 32) d_N_scale_23 (by decide) ⟨by omega, by omega⟩ ⟨by omega, by omega⟩ (fun c23 => ?_) (fun c23 => ?_)
        · exact lab32  
        · refine J_lload_n 2 d_N_scale_26 rfl rfl ?_
          refine J_lconst (v := 0) d_N_scale_27 rfl ?_
          refine J_lcmpeq (tgt := 73) d_N_scale_28 d_N_scale_29 (by decide) ⟨by omega, by omega⟩ ⟨by omega, by omega⟩ (fun c28 => ?_) (fun c28 => ?_)
          · refine J_pick (lv' := [(0, .ref (ad k)), (5, .int (iI (lnw 30 a : Int)))]) [0, 3] rfl ?_
            have hend := show f = dg (a * n + m) by
              rw [hf]
              refine mix_all (fun j hj => ?_)
              by_cases q : 16 ≤ i
              · rw [dg_16 ht (by omega), dg_16 h (by omega)]
              · rw [dg_zero (n := a) (by omega), dg_nat, cy_end (X := 0) (Y := m + n * (a % 2 ^ (30 * i))) (t := i) (by rw [low_e (by omega), Nat.mul_comm]; omega) (by omega) hj, dgt_0]
                rfl
            refine J_eqF (F2 := va_up F (k + 1) (.inl (g 0, 16, .inl (aI (dg (a * n + m)))))) (congrArg (fun qq => va_up F (k + 1) (.inl (g 0, 16, .inl (aI qq)))) hend) ?_
            exact lab73  
          · exact lab32  
  refine J_eqF (F2 := va_up F (k + 1) (.inl (g 0, 16, .inl (aI (dg a))))) (up_same1 hA) ?_
  exact loop12 ((16 - 0) + 1) 0 (m : Int) (dg a) (by omega) (by rw [cy_0, Nat.mul_zero, Nat.pow_zero, Nat.mod_one, Nat.mul_zero, Nat.add_zero]) (mix_0 _ _) (Nat.lt_succ_self _)
