/-! the Model: sum -/
/-- a summand in units of 2^-152 -/
def smT (v : Vn) : Nat := v.2.2.1 * 2 ^ (152 - ((blen v.2.2.2 : Int) - 1)).toNat
def sumP (R : Nat → Vn) (sn : Nat) : Nat → Nat
  | 0 => 0
  | i + 1 => if sn / 2 ^ i % 2 = 1 ∧ (R i).1 ≠ -1 ∧ 0 ≤ (R i).2.1 then sumP R sn i + smT (R i) else sumP R sn i
def sumN (R : Nat → Vn) (sn : Nat) : Nat → Nat
  | 0 => 0
  | i + 1 => if sn / 2 ^ i % 2 = 1 ∧ (R i).1 ≠ -1 ∧ (R i).2.1 < 0 then sumN R sn i + smT (R i) else sumN R sn i
def sumC (R : Nat → Vn) (set to : Int) : Prop := (0 ≤ set ∧ set ≤ 255) ∧ (0 ≤ to ∧ to ≤ 7) ∧ ∀ i, i < 8 → set.toNat / 2 ^ i % 2 = 1 → (R i).1 ≠ 1
def sumV (a b : Nat) : Option Vn := fin 2 (if b ≤ a then 1 else -1) (if b ≤ a then a - b else b - a) (1 * 2 ^ (152 : Int).toNat)
def sumR (R : Nat → Vn) (set to : Int) (o : Sum Int Vn) : Prop := (¬ sumC R set to ∧ o = .inl 0) ∨ (sumC R set to ∧ o = optO (sumV (sumP R set.toNat 8) (sumN R set.toNat 8)))
theorem sumR_one {R : Nat → Vn} {set to : Int} {o1 o2 : Sum Int Vn} (h1 : sumR R set to o1) (h2 : sumR R set to o2) : o1 = o2 := by
  rcases h1 with ⟨a1, rfl⟩ | ⟨a1, rfl⟩
  · rcases h2 with ⟨a2, rfl⟩ | ⟨a2, rfl⟩
    · rfl
    · exact absurd a2 a1
  · rcases h2 with ⟨a2, rfl⟩ | ⟨a2, rfl⟩
    · exact absurd a1 a2
    · rfl
/-- the lower part of a real -/
theorem real_k {s s' : Int} {u d : Nat} (h : near s u d = some (2, s', u, d)) (hd : 0 < d) : ∃ k, d = 2 ^ k ∧ k ≤ 152 := by
  obtain ⟨⟨k, hk, hk2⟩, -, -⟩ := real_ok h hd
  refine ⟨k, hk, ?_⟩
  by_cases z : u = 0
  · unfold near at h
    rw [if_pos z] at h
    injection h with h; injection h with h1 h; injection h with h2 h; injection h with h3 h4
    rw [← h4] at hk
    have : k = 0 := by
      apply Classical.byContradiction
      intro hne
      have := Nat.pow_le_pow_right (n := 2) (by decide) (show 1 ≤ k by omega)
      omega
    omega
  · have hX : 0 < u := by omega
    obtain ⟨q1, q2⟩ := nq_rng hd (ns_inR hX hd)
    unfold near at h
    rw [if_neg z] at h
    split at h
    · rename_i hc
      injection h with h; injection h with h1 h; injection h with h2 h; injection h with h3 h4
      generalize ns u d = n at *
      generalize nq u d n = q at *
      have b1 : blen q ≤ 54 := blen_le.mpr (by omega)
      have b2 : ¬ blen q ≤ 52 := fun z => by have := blen_le.mp z; omega
      have hs := low_mul (U := su q (-n)) (D := sd 1 (-n))
      rw [h4] at hs
      have hdv : d ∣ sd 1 (-n) := ⟨_, hs.2.symm⟩
      by_cases q3 : q = 9007199254740992
      · have hr : lowd (su q (-n)) (sd 1 (-n)) = lowd (su 1 (53 - n)) (sd 1 (53 - n)) := by
          refine (low_ratio (sd_pos (by decide) _) (sd_pos (by decide) _) ?_).2
          rw [q3]
          unfold su sd
          rw [Nat.one_mul, Nat.one_mul, Nat.one_mul, show (9007199254740992 : Nat) = 2 ^ 53 by decide, ← Nat.pow_add, ← Nat.pow_add, ← Nat.pow_add]
          congr 1; omega
        have hdv2 : d ∣ sd 1 (53 - n) := by
          have hs2 := (low_mul (U := su 1 (53 - n)) (D := sd 1 (53 - n))).2
          rw [← hr, h4] at hs2
          exact ⟨_, hs2.symm⟩
        have := Nat.le_of_dvd (sd_pos (by decide) _) hdv2
        unfold sd at this
        rw [hk, Nat.one_mul] at this
        have := (Nat.pow_le_pow_iff_right (by decide)).mp this
        omega
      · have b3 : blen q ≤ 53 := blen_le.mpr (by omega)
        have := Nat.le_of_dvd (sd_pos (by decide) _) hdv
        unfold sd at this
        rw [hk, Nat.one_mul] at this
        have := (Nat.pow_le_pow_iff_right (by decide)).mp this
        omega
    · exact absurd h (by simp)
theorem sm_div {U Y x y k : Nat} (h : U * y = x * Y) (hY : 0 < Y) (hy : y = 2 ^ k) (hk : k ≤ 152) : U * 2 ^ 160 / Y = 256 * (x * 2 ^ (152 - ((blen y : Int) - 1)).toNat) := by
  have hb : blen y = k + 1 := by rw [hy]; exact blen_pw k
  have hp : 0 < y := by rw [hy]; exact Nat.two_pow_pos _
  have e1 := (div_ratio (a := U * 2 ^ 160) (b := Y) (a' := x * 2 ^ 160) (b' := y) hY hp (by rw [Nat.mul_right_comm, h, Nat.mul_right_comm])).1
  rw [e1, hb, show (152 - (((k + 1 : Nat) : Int) - 1)).toNat = 152 - k by omega]
  have e2 : x * 2 ^ 160 = 256 * (x * 2 ^ (152 - k)) * y := by
    rw [hy, show (256 : Nat) = 2 ^ 8 by decide]
    have : 2 ^ 8 * (x * 2 ^ (152 - k)) * 2 ^ k = x * (2 ^ 8 * (2 ^ (152 - k) * 2 ^ k)) := by ac_rfl
    rw [this, ← Nat.pow_add, ← Nat.pow_add]
    congr 2; omega
  rw [e2, Nat.mul_div_cancel _ hp]
theorem smT_lt {v : Vn} (hx : v.2.2.1 < 2 ^ 154) (hy : 0 < v.2.2.2) : smT v < 2 ^ 306 := by
  unfold smT
  have hb := (blen_rng hy).2.2
  have h1 : 2 ^ (152 - ((blen v.2.2.2 : Int) - 1)).toNat ≤ 2 ^ 152 := Nat.pow_le_pow_right (by decide) (by omega)
  exact Nat.lt_of_lt_of_le (Nat.mul_lt_mul_of_lt_of_le hx h1 (Nat.two_pow_pos _)) (by decide)
theorem okv_y {w : Vn} (h : okv w) (hk : w.1 ≠ -1) (h1 : w.1 ≠ 1) : ∃ k, w.2.2.2 = 2 ^ k ∧ k ≤ 152 := by
  obtain ⟨kd, s, u, d⟩ := w
  obtain ⟨a1, a2, a3, a4, a5, a6, a7, a8, a9, a10⟩ := okv_b h hk
  by_cases z : kd = 0
  · exact ⟨0, a6 z, by decide⟩
  · simp only at h1
    obtain ⟨s1, s2, hn⟩ := a10 (by omega)
    exact real_k hn a2
set_option maxRecDepth 100000 in
set_option maxHeartbeats 4000000 in
theorem c_M_sum {l : Launch} (hfl : l.flags = flags0) {D : va_G} {g : Nat → ClassId} {ad : Nat → Nat} {N : Nat} {F : Nat → va_E} {R : Nat → Vn} {ln sh : List Nat} {th0 : Int} {set to : Int}
    (hN : 109 ≤ N) (hM : mst ad g R ln sh th0 F) (hse : inI set) (hto : inI to) :
    JC l y_M_sum b_M_sum 6 (Option.some Jvm.ClassFile.FieldType.int) rm_M_sum (0, 0) D jCl (jTys g) ad N F [.ref (ad 98), .int (iI set), .int (iI to)] (ji ad N (fun z F' => ∃ o, sumR R set to o ∧ msto ad g R ln sh (fun k => if k = 0 then 1 else 2) to o z F' ∧ offM F F')) := by
  obtain ⟨hh, ll, f, v, V, br, kk, bb, rr, lh, xh, dh, tt, hD0, hth⟩ := hM
  have hD := hD0
  obtain ⟨hO, hB, hL, hR, hzz, hKk, hBb, hRr, hmr, h104, h105, h106, h107, hln, hsh⟩ := hD
  have hkI := mR_kI hmr
  refine JC.go hfl (own := "NumberTowerModel") (lv := [(0, .ref (ad 98)), (1, .int (iI set)), (2, .int (iI to))]) rfl (by decide +kernel) (Nat.le_of_ble_eq_true rfl) rfl (fun A => ?_)
  refine J_aload_n 0 d_M_sum_0 rfl rfl ?_
  refine J_iconst d_M_sum_1 ?_
  refine pm_M_39 (by omega) hO d_M_sum_2 ?_
  have lab32 : ∀ (gd : Int) (hg0 : (gd = 1 ∧ (0 ≤ set ∧ set ≤ 255) ∧ (0 ≤ to ∧ to ≤ 7)) ∨ (gd = 0 ∧ ¬ sumC R set to)) , J l rm_M_sum (0, 0) "NumberTowerModel" b_M_sum 6 (Option.some Jvm.ClassFile.FieldType.int) D jCl (jTys g) A (fun _ me => me.name = y_M_sum.name) (ji ad N (fun z F' => ∃ o, sumR R set to o ∧ msto ad g R ln sh (fun k => if k = 0 then 1 else 2) to o z F' ∧ offM F F')) ad N 0 0 32 [(0, .ref (ad 98)), (1, .int (iI set)), (2, .int (iI to)), (3, .int (iI gd))] [] (va_up F 98 (oM ad (va_up f 10 0) v)) := by
    intro gd hg0
    have hg0 : hold _ := hg0
    refine J_iconst d_M_sum_32 ?_
    refine J_istore (lv' := [(4, .int (iI 0)), (0, .ref (ad 98)), (1, .int (iI set)), (2, .int (iI to)), (3, .int (iI gd))]) d_M_sum_33 (by decide) rfl ?_
    refine J_pick (lv' := [(0, .ref (ad 98)), (1, .int (iI set)), (2, .int (iI to)), (3, .int (iI gd)), (4, .int (iI 0))]) [1, 2, 3, 4, 0] rfl ?_
    have loop35 : ∀ (fuel : Nat) (i : Nat) (gd : Int) (h1 : i ≤ 8) (hgd : (gd = 1 ∧ (0 ≤ set ∧ set ≤ 255) ∧ (0 ≤ to ∧ to ≤ 7) ∧ ∀ j, j < i → set.toNat / 2 ^ j % 2 = 1 → (R j).1 ≠ 1) ∨ (gd = 0 ∧ ¬ sumC R set to)) (hfu : 8 - i < fuel), J l rm_M_sum (0, 0) "NumberTowerModel" b_M_sum 6 (Option.some Jvm.ClassFile.FieldType.int) D jCl (jTys g) A (fun _ me => me.name = y_M_sum.name) (ji ad N (fun z F' => ∃ o, sumR R set to o ∧ msto ad g R ln sh (fun k => if k = 0 then 1 else 2) to o z F' ∧ offM F F')) ad N 0 0 35 [(0, .ref (ad 98)), (1, .int (iI set)), (2, .int (iI to)), (3, .int (iI gd)), (4, .int (iI (i : Int)))] [] (va_up F 98 (oM ad (va_up f 10 0) v)) := by
      intro fuel
      induction fuel with
      | zero => intro i gd h1 hgd hfu; exact absurd hfu (Nat.not_lt_zero _)
      | succ fuel ih =>
        intro i gd h1 hgd hfu
        replace hgd : hold _ := hgd
        have hgb : gd = 0 ∨ gd = 1 := by rcases hgd with w | w; exact Or.inr w.1; exact Or.inl w.1
        have lab78 : ∀  (c39q : 8 ≤ i ∨ gd = 0) , J l rm_M_sum (0, 0) "NumberTowerModel" b_M_sum 6 (Option.some Jvm.ClassFile.FieldType.int) D jCl (jTys g) A (fun _ me => me.name = y_M_sum.name) (ji ad N (fun z F' => ∃ o, sumR R set to o ∧ msto ad g R ln sh (fun k => if k = 0 then 1 else 2) to o z F' ∧ offM F F')) ad N 0 0 78 [(0, .ref (ad 98)), (1, .int (iI set)), (2, .int (iI to)), (3, .int (iI gd)), (4, .int (iI (i : Int)))] [] (va_up F 98 (oM ad (va_up f 10 0) v)) := by
          intro  c39q
          refine J_iload_n 3 d_M_sum_78 rfl rfl ?_
          refine J_ifne (tgt := 88) d_M_sum_79 (by decide) ⟨by omega, by omega⟩ (fun c79 => ?_) (fun c79 => ?_)
          · have hgr := (hgd.resolve_right (fun w => c79 w.1)).2
            have hgd1 : gd ≠ 0 := c79
            have hrs := hgr.1
            have hrt := hgr.2.1
            have hnr := hgr.2.2
            clear hgd hgr
            refine J_aload_n 0 d_M_sum_88 rfl rfl ?_
            refine gf_M_13 (by omega) (by rw [va_up_self]) rfl d_M_sum_89 ?_
            refine J_bipush d_M_sum_92 (i8_ok (by decide)) ?_
            refine J_iconst d_M_sum_94 ?_
            refine J_iastore 0 rfl (by omega) (by rw [va_up_ne _ _ (by decide)]; exact hL) (by omega) d_M_sum_95 ?_
            refine J_eqF (F2 := va_up (va_up F 98 (oM ad (va_up f 10 0) v)) 100 (.inl (g 0, 33, .inl (aI (va_up ll 31 0))))) (congrArg (fun q => va_up (va_up F 98 (oM ad (va_up f 10 0) v)) 100 (.inl (g 0, 33, .inl (aI (va_up ll q 0))))) (by omega : (31 : Int).toNat = 31)) ?_
            have hR1 := reg_w1 (hzz.1 _) (reg_zero hR 31)
            refine J_aload_n 0 d_M_sum_96 rfl rfl ?_
            refine gf_M_13 (by omega) (by rw [va_up_ne _ _ (by decide), va_up_self]) rfl d_M_sum_97 ?_
            refine J_bipush d_M_sum_100 (i8_ok (by decide)) ?_
            refine J_iconst d_M_sum_102 ?_
            refine J_iastore 0 rfl (by omega) (by rw [va_up_self]) (by omega) d_M_sum_103 ?_
            refine J_eqF (F2 := va_up (va_up (va_up F 98 (oM ad (va_up f 10 0) v)) 100 (.inl (g 0, 33, .inl (aI (va_up ll 31 0))))) 100 (.inl (g 0, 33, .inl (aI (va_up (va_up ll 31 0) 28 0))))) (congrArg (fun q => va_up (va_up (va_up F 98 (oM ad (va_up f 10 0) v)) 100 (.inl (g 0, 33, .inl (aI (va_up ll 31 0))))) 100 (.inl (g 0, 33, .inl (aI (va_up (va_up ll 31 0) q 0))))) (by omega : (28 : Int).toNat = 28)) ?_
            refine J_eqF (F2 := va_up (va_up F 98 (oM ad (va_up f 10 0) v)) 100 (.inl (g 0, 33, .inl (aI (va_up (va_up ll 31 0) 28 0))))) (up_in0) ?_
            have hR2 := reg_w1 (hzz.1 _) (reg_zero hR1 28)
            have hCC : sumC R set to := ⟨hrs, hrt, fun j hj hb => hnr j (by rcases c39q with w | w; omega; exact absurd w (by omega)) hb⟩
            refine J_iconst d_M_sum_104 ?_
            refine J_istore (lv' := [(4, .int (iI 0)), (0, .ref (ad 98)), (1, .int (iI set)), (2, .int (iI to)), (3, .int (iI gd))]) d_M_sum_105 (by decide) rfl ?_
            refine J_pick (lv' := [(0, .ref (ad 98)), (1, .int (iI set)), (2, .int (iI to)), (4, .int (iI 0))]) [1, 2, 3, 0] rfl ?_
            have loop107 : ∀ (fuel : Nat) (i : Nat) (e1 : Nat → Int) (e2 : Nat → Int) (a : Nat) (b : Nat) (j1 : Nat) (j2 : Nat) (j3 : Nat) (j4 : Nat) (j5 : Nat) (h1 : i ≤ 8) (ha : a = 256 * sumP R set.toNat i) (hbb : b = 256 * sumN R set.toNat i) (hab : a ≤ i * 2 ^ 314 ∧ b ≤ i * 2 ^ 314) (hRL107 : reg br e1 e2 (va_up (va_up (va_up (va_up (va_up (va_up (va_up V 31 a) 28 b) 16 j4) 17 j5) 26 j1) 25 j2) 24 j3)) (hfu : 8 - i < fuel), J l rm_M_sum (0, 0) "NumberTowerModel" b_M_sum 6 (Option.some Jvm.ClassFile.FieldType.int) D jCl (jTys g) A (fun _ me => me.name = y_M_sum.name) (ji ad N (fun z F' => ∃ o, sumR R set to o ∧ msto ad g R ln sh (fun k => if k = 0 then 1 else 2) to o z F' ∧ offM F F')) ad N 0 0 107 [(0, .ref (ad 98)), (1, .int (iI set)), (2, .int (iI to)), (4, .int (iI (i : Int)))] [] (va_up (va_up (va_up F 98 (oM ad (va_up f 10 0) v)) 99 (.inl (g 0, 858, .inl (aI e1)))) 100 (.inl (g 0, 33, .inl (aI e2)))) := by
              intro fuel
              induction fuel with
              | zero => intro i e1 e2 a b j1 j2 j3 j4 j5 h1 ha hbb hab hRL107 hfu; exact absurd hfu (Nat.not_lt_zero _)
              | succ fuel ih =>
                intro i e1 e2 a b j1 j2 j3 j4 j5 h1 ha hbb hab hRL107 hfu
                have h314 : i * 2 ^ 314 ≤ 8 * 2 ^ 314 := Nat.mul_le_mul_right _ h1
                have haL : a < 2 ^ 318 := Nat.lt_of_le_of_lt (Nat.le_trans hab.1 h314) (by decide)
                have hbL : b < 2 ^ 318 := Nat.lt_of_le_of_lt (Nat.le_trans hab.2 h314) (by decide)
                have haB := haL
                have hbB := hbL
                refine J_iload 3 d_M_sum_107 rfl ?_
                refine J_bipush d_M_sum_109 (i8_ok (by decide)) ?_
                refine J_if_icmpge (tgt := 199) d_M_sum_111 (by decide) ⟨by omega, by omega⟩ ⟨by omega, by omega⟩ (fun c111 => ?_) (fun c111 => ?_)
                · refine J_aload_n 0 d_M_sum_199 rfl rfl ?_
                  refine J_aload_n 0 d_M_sum_200 rfl rfl ?_
                  refine J_bipush d_M_sum_201 (i8_ok (by decide)) ?_
                  refine J_bipush d_M_sum_203 (i8_ok (by decide)) ?_
                  refine J_callVi cw_M_105 nh_M_order pn_M_order rfl rfl (by omega) (by rw [va_up_ne _ _ (by decide), va_up_ne _ _ (by decide), va_up_self]) (As := [.int (iI 31), .int (iI 28)]) (rest := [.ref (ad 98)]) rfl (Nat.le_of_ble_eq_true rfl) ⟨by decide, by decide⟩ rfl ⟨by decide, by decide⟩ d_M_sum_205 (k_M_order hfl (a := 31) (b := 28) (hh := e1) (ll := e2) (V := va_up (va_up (va_up (va_up (va_up (va_up (va_up V 31 a) 28 b) 16 j4) 17 j5) 26 j1) 25 j2) 24 j3) (br := br) (hN := hN) (hO := (by rw [va_up_ne _ _ (by decide), va_up_ne _ _ (by decide), va_up_self])) (hB := (by rw [va_up_ne _ _ (by decide), va_up_self])) (hL := (by rw [va_up_self])) (hR := hRL107) (ha := by omega) (hb := by omega) (hxa := ((va_up_ne _ _ (by decide)).trans ((va_up_ne _ _ (by decide)).trans ((va_up_ne _ _ (by decide)).trans ((va_up_ne _ _ (by decide)).trans ((va_up_ne _ _ (by decide)).trans ((va_up_ne _ _ (by decide)).trans (va_up_self ..)))))))) (bra := (hzz.2 31 (by decide) (by decide))) (hxb := ((va_up_ne _ _ (by decide)).trans ((va_up_ne _ _ (by decide)).trans ((va_up_ne _ _ (by decide)).trans ((va_up_ne _ _ (by decide)).trans ((va_up_ne _ _ (by decide)).trans (va_up_self ..))))))) (brb := (hzz.2 28 (by decide) (by decide)))) (fun z3 F1 hq => ?_)
                  obtain ⟨hz3, eF1⟩ := hq
                  refine J_eqF eF1 ?_
                  refine J_topi (r := cmpN a b) (congrArg iI hz3) ?_
                  have hcv := cmpN_val a b
                  have hcr := cmpN_rng a b
                  refine J_ifge (tgt := 215) d_M_sum_208 (by decide) ⟨by omega, by omega⟩ (fun c208 => ?_) (fun c208 => ?_)
                  · refine J_iconst d_M_sum_215 ?_
                    refine pm_M_129 (by omega) (by rw [va_up_ne _ _ (by decide), va_up_ne _ _ (by decide), va_up_self]) (nb01 (by omega)) d_M_sum_216 ?_
                    refine J_eqF (F2 := va_up (va_up (va_up F 98 (oM ad (va_up (va_up f 10 0) 7 0) v)) 99 (.inl (g 0, 858, .inl (aI e1)))) 100 (.inl (g 0, 33, .inl (aI e2)))) (up_in2 (by decide) (by decide)) ?_
                    refine J_aload_n 0 d_M_sum_219 rfl rfl ?_
                    refine gf_M_129 (by omega) (by rw [va_up_ne _ _ (by decide), va_up_ne _ _ (by decide), va_up_self]) rfl d_M_sum_220 ?_
                    refine J_topi (r := 0) (congrArg iI (va_up_self ..)) ?_
                    refine J_ifeq (tgt := 239) d_M_sum_223 (by decide) ⟨by omega, by omega⟩ (fun c223 => ?_) (fun c223 => ?_)
                    · refine J_aload_n 0 d_M_sum_239 rfl rfl ?_
                      refine J_bipush d_M_sum_240 (i8_ok (by decide)) ?_
                      refine J_bipush d_M_sum_242 (i8_ok (by decide)) ?_
                      refine J_bipush d_M_sum_244 (i8_ok (by decide)) ?_
                      refine J_callVv cw_M_158 nh_M_less pn_M_less rfl rfl (by omega) (by rw [va_up_ne _ _ (by decide), va_up_ne _ _ (by decide), va_up_self]) (As := [.int (iI 31), .int (iI 28), .int (iI 20)]) (rest := []) rfl (Nat.le_of_ble_eq_true rfl) ⟨by decide, by decide⟩ rfl ⟨by decide, by decide⟩ d_M_sum_246 (k_M_less hfl (a := 31) (b := 28) (t := 20) (r := (a - b)) (hh := e1) (ll := e2) (V := va_up (va_up (va_up (va_up (va_up (va_up (va_up V 31 a) 28 b) 16 j4) 17 j5) 26 j1) 25 j2) 24 j3) (br := br) (hN := hN) (hO := (by rw [va_up_ne _ _ (by decide), va_up_ne _ _ (by decide), va_up_self])) (hB := (by rw [va_up_ne _ _ (by decide), va_up_self])) (hL := (by rw [va_up_self])) (hR := hRL107) (ha := by omega) (hb := by omega) (ht := by omega) (hxa := ((va_up_ne _ _ (by decide)).trans ((va_up_ne _ _ (by decide)).trans ((va_up_ne _ _ (by decide)).trans ((va_up_ne _ _ (by decide)).trans ((va_up_ne _ _ (by decide)).trans ((va_up_ne _ _ (by decide)).trans (va_up_self ..)))))))) (bra := (hzz.2 31 (by decide) (by decide))) (hxb := ((va_up_ne _ _ (by decide)).trans ((va_up_ne _ _ (by decide)).trans ((va_up_ne _ _ (by decide)).trans ((va_up_ne _ _ (by decide)).trans ((va_up_ne _ _ (by decide)).trans (va_up_self ..))))))) (brb := (hzz.2 28 (by decide) (by decide))) (hr := by omega)) (fun  F2 hq => ?_)
                      obtain ⟨bh4, bl5, hR6, eF2⟩ := hq
                      refine J_eqF (F2 := va_up (va_up (va_up F 98 (oM ad (va_up (va_up f 10 0) 7 0) v)) 99 (.inl (g 0, 858, .inl (aI bh4)))) 100 (.inl (g 0, 33, .inl (aI bl5)))) (eF2.trans (Eq.trans (congrArg (fun q : Nat → va_E => va_up q 100 (.inl (g 0, 33, .inl (aI bl5)))) (up_in1 (by decide))) (up_in0))) ?_
                      have hR9 := reg_w1 (hzz.1 _) hR6
                      refine J_aload_n 0 d_M_sum_249 rfl rfl ?_
                      refine J_bipush d_M_sum_250 (i8_ok (by decide)) ?_
                      refine J_lconst (v := 1) d_M_sum_252 rfl ?_
                      refine J_callVv cw_M_82 nh_M_put pn_M_put rfl rfl (by omega) (by rw [va_up_ne _ _ (by decide), va_up_ne _ _ (by decide), va_up_self]) (As := [.int (iI 21), .long (lI 1)]) (rest := []) rfl (Nat.le_of_ble_eq_true rfl) ⟨by decide, by decide⟩ rfl ⟨by decide, by decide⟩ d_M_sum_253 (k_M_put hfl (a := 21) (n := 1) (hh := bh4) (ll := bl5) (V := va_up (va_up (va_up (va_up (va_up (va_up (va_up (va_up V 31 a) 28 b) 16 j4) 17 j5) 26 j1) 25 j2) 24 j3) 20 (a - b)) (br := br) (hN := hN) (hO := (by rw [va_up_ne _ _ (by decide), va_up_ne _ _ (by decide), va_up_self])) (hB := (by rw [va_up_ne _ _ (by decide), va_up_self])) (hL := (by rw [va_up_self])) (hR := hR9) (ha := by omega) (hn := by decide)) (fun  F3 hq => ?_)
                      obtain ⟨bh10, bl11, hR12, eF3⟩ := hq
                      refine J_eqF (F2 := va_up (va_up (va_up F 98 (oM ad (va_up (va_up f 10 0) 7 0) v)) 99 (.inl (g 0, 858, .inl (aI bh10)))) 100 (.inl (g 0, 33, .inl (aI bl11)))) (eF3.trans (Eq.trans (congrArg (fun q : Nat → va_E => va_up q 100 (.inl (g 0, 33, .inl (aI bl11)))) (up_in1 (by decide))) (up_in0))) ?_
                      have hR15 := reg_w1 (hzz.1 _) hR12
                      refine J_aload_n 0 d_M_sum_256 rfl rfl ?_
                      refine J_bipush d_M_sum_257 (i8_ok (by decide)) ?_
                      refine J_sipush d_M_sum_259 (i16_ok (by decide)) ?_
                      refine J_callVv cw_M_66 nh_M_up pn_M_up rfl rfl (by omega) (by rw [va_up_ne _ _ (by decide), va_up_ne _ _ (by decide), va_up_self]) (As := [.int (iI 21), .int (iI 160)]) (rest := []) rfl (Nat.le_of_ble_eq_true rfl) ⟨by decide, by decide⟩ rfl ⟨by decide, by decide⟩ d_M_sum_262 (k_M_up hfl (a := 21) (n := 160) (hh := bh10) (ll := bl11) (V := va_up (va_up (va_up (va_up (va_up (va_up (va_up (va_up (va_up V 31 a) 28 b) 16 j4) 17 j5) 26 j1) 25 j2) 24 j3) 20 (a - b)) 21 1) (br := br) (hN := hN) (hO := (by rw [va_up_ne _ _ (by decide), va_up_ne _ _ (by decide), va_up_self])) (hB := (by rw [va_up_ne _ _ (by decide), va_up_self])) (hL := (by rw [va_up_self])) (hR := hR15) (ha := by omega) (hxa := (va_up_self ..)) (bra := (hzz.2 21 (by decide) (by decide))) (hn := by omega) (hT := Or.inr (by decide))) (fun  F4 hq => ?_)
                      obtain ⟨bh16, bl17, hR18, eF4⟩ := hq
                      refine J_eqF (F2 := va_up (va_up (va_up F 98 (oM ad (va_up (va_up f 10 0) 7 0) v)) 99 (.inl (g 0, 858, .inl (aI bh16)))) 100 (.inl (g 0, 33, .inl (aI bl17)))) (eF4.trans (Eq.trans (congrArg (fun q : Nat → va_E => va_up q 100 (.inl (g 0, 33, .inl (aI bl17)))) (up_in1 (by decide))) (up_in0))) ?_
                      have hR21 := reg_w1 (hzz.1 _) hR18
                      have hR22 := (congrArg (fun qq : Nat → Nat => reg _ _ _ (qq)) (up_in0)).mp hR21
                      refine J_aload_n 0 d_M_sum_265 rfl rfl ?_
                      refine J_iconst d_M_sum_266 ?_
                      refine J_iload_n 2 d_M_sum_267 rfl rfl ?_
                      refine J_topi (r := ((to.toNat : Nat) : Int)) (congrArg iI (by omega)) ?_
                      refine J_iconst d_M_sum_268 ?_
                      have hD9 := mstd_3 hD0 (f' := va_up (va_up f 10 0) 7 0) (v' := v) hR22 hzz (fun k hk => (show (va_up (va_up (va_up (va_up (va_up (va_up (va_up (va_up (va_up V 31 a) 28 b) 16 j4) 17 j5) 26 j1) 25 j2) 24 j3) 20 (a - b)) 21 (1 * 2 ^ 160)) k = V k from by rw [va_up_ne _ _ (by omega), va_up_ne _ _ (by omega), va_up_ne _ _ (by omega), va_up_ne _ _ (by omega), va_up_ne _ _ (by omega), va_up_ne _ _ (by omega), va_up_ne _ _ (by omega), va_up_ne _ _ (by omega), va_up_ne _ _ (by omega)])) ((va_up_ne _ _ (by decide)).trans (va_up_ne _ _ (by decide))) ((va_up_ne _ _ (by decide)).trans (va_up_ne _ _ (by decide)))
                      have hof9 : offM F (va_up (va_up (va_up F 98 (oM ad (va_up (va_up f 10 0) 7 0) v)) 99 (.inl (g 0, 858, .inl (aI bh16)))) 100 (.inl (g 0, 33, .inl (aI bl17)))) := offM_3
                      have hc10 : (va_up (va_up f 10 0) 7 0) 10 = 0 := ((va_up_ne _ _ (by decide)).trans (va_up_self ..))
                      refine J_callVi cw_M_142 nh_M_store pn_M_store rfl rfl (by omega) (by rw [va_up_ne _ _ (by decide), va_up_ne _ _ (by decide), va_up_self]) (As := [.int (iI 2), .int (iI ((to.toNat : Nat) : Int)), .int (iI 2)]) (rest := []) rfl (Nat.le_of_ble_eq_true rfl) ⟨by decide, by decide⟩ rfl ⟨by decide, by decide⟩ d_M_sum_269 (c_M_store2 hfl (X := (a - b)) (Y := 1 * 2 ^ 160) (to := to.toNat) (kd := 2) (s := 1) (code := 2) hN hD9 (((va_up_ne _ _ (by decide)).trans (va_up_self ..))) ((va_up_self ..)) (Nat.mul_pos (by decide) (Nat.two_pow_pos _)) ((lnw_le (by decide)).mpr (Nat.lt_of_le_of_lt (Nat.sub_le _ _) (Nat.lt_trans haB (by decide)))) (by decide) (blen_le.mpr (Nat.lt_of_le_of_lt (Nat.sub_le _ _) (Nat.lt_trans haB (by decide)))) (by decide) (by decide) (((va_up_self ..))) (by decide) (by omega) (fun e => absurd e (by decide)) (fun e => absurd e (by decide))) (fun z9 F9 hq => ?_)
                      obtain ⟨hq9, hoff9⟩ := hq
                      replace hoff9 := offM_t hof9 hoff9
                      refine J_iret rfl rfl d_M_sum_272 ⟨by decide, by decide⟩ ?_
                      have hi8 : i = 8 := by omega
                      subst hi8
                      have hT : sumV (sumP R set.toNat 8) (sumN R set.toNat 8) = fin 2 1 ((a - b)) (1 * 2 ^ 160) := by
                        unfold sumV
                        generalize sumP R set.toNat 8 = P9 at *
                        generalize sumN R set.toNat 8 = N9 at *
                        subst ha hbb
                        rw [if_pos (show N9 ≤ P9 by omega), if_pos (show N9 ≤ P9 by omega)]
                        refine fin_ratio (Nat.mul_pos (by decide) (Nat.two_pow_pos _)) (Nat.mul_pos (by decide) (Nat.two_pow_pos _)) ?_
                        show _ * (1 * 2 ^ 160) = _ * (1 * 2 ^ 152)
                        rw [Nat.one_mul, Nat.one_mul, ← Nat.mul_sub, show (2 : Nat) ^ 160 = 2 ^ 152 * 256 by decide, Nat.mul_comm 256, Nat.mul_assoc, Nat.mul_comm 256]
                      refine ⟨_, rfl, rfl, rfl, optO (sumV (sumP R set.toNat 8) (sumN R set.toNat 8)), Or.inr ⟨hCC, rfl⟩, msto_i (by rw [hT]) rfl hc10 hq9, hoff9⟩
                    · exact absurd rfl c223
                  · refine J_iconst d_M_sum_211 ?_
                    refine J_goto (tgt := 216) d_M_sum_212 (by decide) ?_
                    refine pm_M_129 (by omega) (by rw [va_up_ne _ _ (by decide), va_up_ne _ _ (by decide), va_up_self]) (nb01 (by omega)) d_M_sum_216 ?_
                    refine J_eqF (F2 := va_up (va_up (va_up F 98 (oM ad (va_up (va_up f 10 0) 7 1) v)) 99 (.inl (g 0, 858, .inl (aI e1)))) 100 (.inl (g 0, 33, .inl (aI e2)))) (up_in2 (by decide) (by decide)) ?_
                    refine J_aload_n 0 d_M_sum_219 rfl rfl ?_
                    refine gf_M_129 (by omega) (by rw [va_up_ne _ _ (by decide), va_up_ne _ _ (by decide), va_up_self]) rfl d_M_sum_220 ?_
                    refine J_topi (r := 1) (congrArg iI (va_up_self ..)) ?_
                    refine J_ifeq (tgt := 239) d_M_sum_223 (by decide) ⟨by omega, by omega⟩ (fun c223 => ?_) (fun c223 => ?_)
                    · exact absurd c223 (by decide)
                    · refine J_aload_n 0 d_M_sum_226 rfl rfl ?_
                      refine J_bipush d_M_sum_227 (i8_ok (by decide)) ?_
                      refine J_bipush d_M_sum_229 (i8_ok (by decide)) ?_
                      refine J_bipush d_M_sum_231 (i8_ok (by decide)) ?_
                      refine J_callVv cw_M_158 nh_M_less pn_M_less rfl rfl (by omega) (by rw [va_up_ne _ _ (by decide), va_up_ne _ _ (by decide), va_up_self]) (As := [.int (iI 28), .int (iI 31), .int (iI 20)]) (rest := []) rfl (Nat.le_of_ble_eq_true rfl) ⟨by decide, by decide⟩ rfl ⟨by decide, by decide⟩ d_M_sum_233 (k_M_less hfl (a := 28) (b := 31) (t := 20) (r := (b - a)) (hh := e1) (ll := e2) (V := va_up (va_up (va_up (va_up (va_up (va_up (va_up V 31 a) 28 b) 16 j4) 17 j5) 26 j1) 25 j2) 24 j3) (br := br) (hN := hN) (hO := (by rw [va_up_ne _ _ (by decide), va_up_ne _ _ (by decide), va_up_self])) (hB := (by rw [va_up_ne _ _ (by decide), va_up_self])) (hL := (by rw [va_up_self])) (hR := hRL107) (ha := by omega) (hb := by omega) (ht := by omega) (hxa := ((va_up_ne _ _ (by decide)).trans ((va_up_ne _ _ (by decide)).trans ((va_up_ne _ _ (by decide)).trans ((va_up_ne _ _ (by decide)).trans ((va_up_ne _ _ (by decide)).trans (va_up_self ..))))))) (bra := (hzz.2 28 (by decide) (by decide))) (hxb := ((va_up_ne _ _ (by decide)).trans ((va_up_ne _ _ (by decide)).trans ((va_up_ne _ _ (by decide)).trans ((va_up_ne _ _ (by decide)).trans ((va_up_ne _ _ (by decide)).trans ((va_up_ne _ _ (by decide)).trans (va_up_self ..)))))))) (brb := (hzz.2 31 (by decide) (by decide))) (hr := by omega)) (fun  F5 hq => ?_)
                      obtain ⟨bh23, bl24, hR25, eF5⟩ := hq
                      refine J_eqF (F2 := va_up (va_up (va_up F 98 (oM ad (va_up (va_up f 10 0) 7 1) v)) 99 (.inl (g 0, 858, .inl (aI bh23)))) 100 (.inl (g 0, 33, .inl (aI bl24)))) (eF5.trans (Eq.trans (congrArg (fun q : Nat → va_E => va_up q 100 (.inl (g 0, 33, .inl (aI bl24)))) (up_in1 (by decide))) (up_in0))) ?_
                      have hR28 := reg_w1 (hzz.1 _) hR25
                      refine J_goto (tgt := 249) d_M_sum_236 (by decide) ?_
                      refine J_aload_n 0 d_M_sum_249 rfl rfl ?_
                      refine J_bipush d_M_sum_250 (i8_ok (by decide)) ?_
                      refine J_lconst (v := 1) d_M_sum_252 rfl ?_
                      refine J_callVv cw_M_82 nh_M_put pn_M_put rfl rfl (by omega) (by rw [va_up_ne _ _ (by decide), va_up_ne _ _ (by decide), va_up_self]) (As := [.int (iI 21), .long (lI 1)]) (rest := []) rfl (Nat.le_of_ble_eq_true rfl) ⟨by decide, by decide⟩ rfl ⟨by decide, by decide⟩ d_M_sum_253 (k_M_put hfl (a := 21) (n := 1) (hh := bh23) (ll := bl24) (V := va_up (va_up (va_up (va_up (va_up (va_up (va_up (va_up V 31 a) 28 b) 16 j4) 17 j5) 26 j1) 25 j2) 24 j3) 20 (b - a)) (br := br) (hN := hN) (hO := (by rw [va_up_ne _ _ (by decide), va_up_ne _ _ (by decide), va_up_self])) (hB := (by rw [va_up_ne _ _ (by decide), va_up_self])) (hL := (by rw [va_up_self])) (hR := hR28) (ha := by omega) (hn := by decide)) (fun  F6 hq => ?_)
                      obtain ⟨bh29, bl30, hR31, eF6⟩ := hq
                      refine J_eqF (F2 := va_up (va_up (va_up F 98 (oM ad (va_up (va_up f 10 0) 7 1) v)) 99 (.inl (g 0, 858, .inl (aI bh29)))) 100 (.inl (g 0, 33, .inl (aI bl30)))) (eF6.trans (Eq.trans (congrArg (fun q : Nat → va_E => va_up q 100 (.inl (g 0, 33, .inl (aI bl30)))) (up_in1 (by decide))) (up_in0))) ?_
                      have hR34 := reg_w1 (hzz.1 _) hR31
                      refine J_aload_n 0 d_M_sum_256 rfl rfl ?_
                      refine J_bipush d_M_sum_257 (i8_ok (by decide)) ?_
                      refine J_sipush d_M_sum_259 (i16_ok (by decide)) ?_
                      refine J_callVv cw_M_66 nh_M_up pn_M_up rfl rfl (by omega) (by rw [va_up_ne _ _ (by decide), va_up_ne _ _ (by decide), va_up_self]) (As := [.int (iI 21), .int (iI 160)]) (rest := []) rfl (Nat.le_of_ble_eq_true rfl) ⟨by decide, by decide⟩ rfl ⟨by decide, by decide⟩ d_M_sum_262 (k_M_up hfl (a := 21) (n := 160) (hh := bh29) (ll := bl30) (V := va_up (va_up (va_up (va_up (va_up (va_up (va_up (va_up (va_up V 31 a) 28 b) 16 j4) 17 j5) 26 j1) 25 j2) 24 j3) 20 (b - a)) 21 1) (br := br) (hN := hN) (hO := (by rw [va_up_ne _ _ (by decide), va_up_ne _ _ (by decide), va_up_self])) (hB := (by rw [va_up_ne _ _ (by decide), va_up_self])) (hL := (by rw [va_up_self])) (hR := hR34) (ha := by omega) (hxa := (va_up_self ..)) (bra := (hzz.2 21 (by decide) (by decide))) (hn := by omega) (hT := Or.inr (by decide))) (fun  F7 hq => ?_)
                      obtain ⟨bh35, bl36, hR37, eF7⟩ := hq
                      refine J_eqF (F2 := va_up (va_up (va_up F 98 (oM ad (va_up (va_up f 10 0) 7 1) v)) 99 (.inl (g 0, 858, .inl (aI bh35)))) 100 (.inl (g 0, 33, .inl (aI bl36)))) (eF7.trans (Eq.trans (congrArg (fun q : Nat → va_E => va_up q 100 (.inl (g 0, 33, .inl (aI bl36)))) (up_in1 (by decide))) (up_in0))) ?_
                      have hR40 := reg_w1 (hzz.1 _) hR37
                      have hR41 := (congrArg (fun qq : Nat → Nat => reg _ _ _ (qq)) (up_in0)).mp hR40
                      refine J_aload_n 0 d_M_sum_265 rfl rfl ?_
                      refine J_iconst d_M_sum_266 ?_
                      refine J_iload_n 2 d_M_sum_267 rfl rfl ?_
                      refine J_topi (r := ((to.toNat : Nat) : Int)) (congrArg iI (by omega)) ?_
                      refine J_iconst d_M_sum_268 ?_
                      have hD9 := mstd_3 hD0 (f' := va_up (va_up f 10 0) 7 1) (v' := v) hR41 hzz (fun k hk => (show (va_up (va_up (va_up (va_up (va_up (va_up (va_up (va_up (va_up V 31 a) 28 b) 16 j4) 17 j5) 26 j1) 25 j2) 24 j3) 20 (b - a)) 21 (1 * 2 ^ 160)) k = V k from by rw [va_up_ne _ _ (by omega), va_up_ne _ _ (by omega), va_up_ne _ _ (by omega), va_up_ne _ _ (by omega), va_up_ne _ _ (by omega), va_up_ne _ _ (by omega), va_up_ne _ _ (by omega), va_up_ne _ _ (by omega), va_up_ne _ _ (by omega)])) ((va_up_ne _ _ (by decide)).trans (va_up_ne _ _ (by decide))) ((va_up_ne _ _ (by decide)).trans (va_up_ne _ _ (by decide)))
                      have hof9 : offM F (va_up (va_up (va_up F 98 (oM ad (va_up (va_up f 10 0) 7 1) v)) 99 (.inl (g 0, 858, .inl (aI bh35)))) 100 (.inl (g 0, 33, .inl (aI bl36)))) := offM_3
                      have hc10 : (va_up (va_up f 10 0) 7 1) 10 = 0 := ((va_up_ne _ _ (by decide)).trans (va_up_self ..))
                      refine J_callVi cw_M_142 nh_M_store pn_M_store rfl rfl (by omega) (by rw [va_up_ne _ _ (by decide), va_up_ne _ _ (by decide), va_up_self]) (As := [.int (iI 2), .int (iI ((to.toNat : Nat) : Int)), .int (iI 2)]) (rest := []) rfl (Nat.le_of_ble_eq_true rfl) ⟨by decide, by decide⟩ rfl ⟨by decide, by decide⟩ d_M_sum_269 (c_M_store2 hfl (X := (b - a)) (Y := 1 * 2 ^ 160) (to := to.toNat) (kd := 2) (s := (-1)) (code := 2) hN hD9 (((va_up_ne _ _ (by decide)).trans (va_up_self ..))) ((va_up_self ..)) (Nat.mul_pos (by decide) (Nat.two_pow_pos _)) ((lnw_le (by decide)).mpr (Nat.lt_of_le_of_lt (Nat.sub_le _ _) (Nat.lt_trans hbB (by decide)))) (by decide) (blen_le.mpr (Nat.lt_of_le_of_lt (Nat.sub_le _ _) (Nat.lt_trans hbB (by decide)))) (by decide) (by decide) (((va_up_self ..))) (by decide) (by omega) (fun e => absurd e (by decide)) (fun e => absurd e (by decide))) (fun z9 F9 hq => ?_)
                      obtain ⟨hq9, hoff9⟩ := hq
                      replace hoff9 := offM_t hof9 hoff9
                      refine J_iret rfl rfl d_M_sum_272 ⟨by decide, by decide⟩ ?_
                      have hi8 : i = 8 := by omega
                      subst hi8
                      have hT : sumV (sumP R set.toNat 8) (sumN R set.toNat 8) = fin 2 (-1) ((b - a)) (1 * 2 ^ 160) := by
                        unfold sumV
                        generalize sumP R set.toNat 8 = P9 at *
                        generalize sumN R set.toNat 8 = N9 at *
                        subst ha hbb
                        rw [if_neg (show ¬ N9 ≤ P9 by omega), if_neg (show ¬ N9 ≤ P9 by omega)]
                        refine fin_ratio (Nat.mul_pos (by decide) (Nat.two_pow_pos _)) (Nat.mul_pos (by decide) (Nat.two_pow_pos _)) ?_
                        show _ * (1 * 2 ^ 160) = _ * (1 * 2 ^ 152)
                        rw [Nat.one_mul, Nat.one_mul, ← Nat.mul_sub, show (2 : Nat) ^ 160 = 2 ^ 152 * 256 by decide, Nat.mul_comm 256, Nat.mul_assoc, Nat.mul_comm 256]
                      refine ⟨_, rfl, rfl, rfl, optO (sumV (sumP R set.toNat 8) (sumN R set.toNat 8)), Or.inr ⟨hCC, rfl⟩, msto_i (by rw [hT]) rfl hc10 hq9, hoff9⟩
                · refine J_iload_n 1 d_M_sum_114 rfl rfl ?_
                  refine J_topi (r := ((set.toNat : Nat) : Int)) (congrArg iI (by omega)) ?_
                  refine J_iload 3 d_M_sum_115 rfl ?_
                  refine J_ishr (r := ((set.toNat / 2 ^ i : Nat) : Int)) d_M_sum_117 (iI_shrn (by omega) i (by omega)) ?_
                  refine J_iconst d_M_sum_118 ?_
                  refine J_iand (r := (((set.toNat / 2 ^ i) % 2 : Nat) : Int)) d_M_sum_119 (iI_andn 1 (by decide)) ?_
                  refine J_ifeq (tgt := 193) d_M_sum_120 (by decide) ⟨by omega, by omega⟩ (fun c120 => ?_) (fun c120 => ?_)
                  · refine J_iinc (j := 3) (b := (i : Int) + 1) (lv' := [(4, .int (iI ((i : Int) + 1))), (0, .ref (ad 98)), (1, .int (iI set)), (2, .int (iI to))]) d_M_sum_193 rfl (by omega) (by decide) rfl ?_
                    refine J_goto (tgt := 107) d_M_sum_196 (by decide) ?_
                    refine J_pick (lv' := [(0, .ref (ad 98)), (1, .int (iI set)), (2, .int (iI to)), (4, .int (iI ((i : Int) + 1)))]) [1, 2, 3, 0] rfl ?_
                    refine ih (i + 1) e1 e2 a b j1 j2 j3 j4 j5 (by omega) (by rw [ha, show sumP R set.toNat (i + 1) = sumP R set.toNat i from if_neg (fun h => by omega)]) (by rw [hbb, show sumN R set.toNat (i + 1) = sumN R set.toNat i from if_neg (fun h => by omega)]) ?_ hRL107 (by omega)
                    · rw [Nat.add_mul, Nat.one_mul]
                      omega
                  · have hkI9 := hkI i (by omega)
                    refine J_aload_n 0 d_M_sum_123 rfl rfl ?_
                    refine gf_M_16 (by omega) (by rw [va_up_ne _ _ (by decide), va_up_ne _ _ (by decide), va_up_self]) rfl d_M_sum_124 ?_
                    refine J_iload 3 d_M_sum_127 rfl ?_
                    refine J_iaload 0 rfl (by omega) (by rw [va_up_ne _ _ (by decide), va_up_ne _ _ (by decide), va_up_ne _ _ (by decide)]; exact hKk) (by omega) d_M_sum_129 ?_
                    refine J_topi (r := kk i) (congrArg (fun q => iI (kk q)) (by omega)) ?_
                    refine J_ifge (tgt := 136) d_M_sum_130 (by decide) ⟨by omega, by omega⟩ (fun c130 => ?_) (fun c130 => ?_)
                    · have hi8 : i < 8 := by omega
                      obtain ⟨kd, sg, x, y, hRa, hok, hka, hkn, hmg⟩ := mR_at hmr (r := i) hi8 (by omega)
                      obtain ⟨hk1, hd0, hs1, hfin, hcop, hk0, hb, hs0, hb2, hre⟩ := okv_b hok hkn
                      have hbit : set.toNat / 2 ^ i % 2 = 1 := by omega
                      have hn1 := hCC.2.2 i hi8 hbit
                      obtain ⟨ky, hky, hky2⟩ := okv_y (w := R i) (by rw [hRa]; exact hok) (by rw [hRa]; exact hkn) hn1
                      rw [hRa] at hky
                      have hsT : smT (R i) = x * 2 ^ (152 - ((blen y : Int) - 1)).toNat := by rw [hRa]; rfl
                      have hsTb := smT_lt (v := R i) (by rw [hRa]; exact hb.1) (by rw [hRa]; exact hd0)
                      replace hk0 : hold _ := hk0
                      replace hs0 : hold _ := hs0
                      replace hb2 : hold _ := hb2
                      replace hre : hold _ := hre
                      refine J_aload_n 0 d_M_sum_136 rfl rfl ?_
                      refine J_iload 3 d_M_sum_137 rfl ?_
                      refine J_bipush d_M_sum_139 (i8_ok (by decide)) ?_
                      refine J_bipush d_M_sum_141 (i8_ok (by decide)) ?_
                      refine J_callVi cw_M_182 nh_M_fetch pn_M_fetch rfl rfl (by omega) (by rw [va_up_ne _ _ (by decide), va_up_ne _ _ (by decide), va_up_self]) (As := [.int (iI (i : Int)), .int (iI 16), .int (iI 17)]) (rest := []) rfl (Nat.le_of_ble_eq_true rfl) ⟨by decide, by decide⟩ rfl ⟨by decide, by decide⟩ d_M_sum_143 (c_M_fetch hfl (r := i) (u := 16) (d := 17) (x := x) (y := y) (kd := kd) (sg := sg) (kk := kk) (bb := bb) (rr := rr) (hh := e1) (ll := e2) (f := va_up f 10 0) (v := v) (V := va_up (va_up (va_up (va_up (va_up (va_up (va_up V 31 a) 28 b) 16 j4) 17 j5) 26 j1) 25 j2) 24 j3) (br := br) hN (by rw [va_up_ne _ _ (by decide), va_up_ne _ _ (by decide), va_up_self]) (by rw [va_up_ne _ _ (by decide), va_up_self]) (by rw [va_up_self]) hRL107 hzz (by rw [va_up_ne _ _ (by decide), va_up_ne _ _ (by decide), va_up_ne _ _ (by decide)]; exact hKk) (by rw [va_up_ne _ _ (by decide), va_up_ne _ _ (by decide), va_up_ne _ _ (by decide)]; exact hBb) (by rw [va_up_ne _ _ (by decide), va_up_ne _ _ (by decide), va_up_ne _ _ (by decide)]; exact hRr) hi8 ⟨by omega, by omega⟩ ⟨by omega, by omega⟩ (hzz.2 16 (by decide) (by decide)) (hzz.2 17 (by decide) (by decide)) (by omega) (mreg_fr hmg hi8 (fun k hk => (show (va_up (va_up (va_up (va_up (va_up (va_up (va_up V 31 a) 28 b) 16 j4) 17 j5) 26 j1) 25 j2) 24 j3) k = V k from by rw [va_up_ne _ _ (by omega), va_up_ne _ _ (by omega), va_up_ne _ _ (by omega), va_up_ne _ _ (by omega), va_up_ne _ _ (by omega), va_up_ne _ _ (by omega), va_up_ne _ _ (by omega)]))) hd0 hk1 hb hre) (fun mi F8 hq => ?_)
                      obtain ⟨hmi, bh42, bl43, U, Y, hUY, hU9, hR44, eF8⟩ := hq
                      refine J_eqF (F2 := va_up (va_up (va_up F 98 (oM ad (va_up f 10 0) v)) 99 (.inl (g 0, 858, .inl (aI bh42)))) 100 (.inl (g 0, 33, .inl (aI bl43)))) (eF8.trans (Eq.trans (congrArg (fun q : Nat → va_E => va_up q 100 (.inl (g 0, 33, .inl (aI bl43)))) (up_in1 (by decide))) (up_in0))) ?_
                      obtain ⟨hU9, hU7⟩ := hU9
                      have hU8 : powY kd Y := hU7
                      clear hU7
                      have hmi1 : (mi = 1 ∧ sg < 0) ∨ (mi = 0 ∧ 0 ≤ sg) := by rw [hmi]; split <;> omega
                      have hR45 := (congrArg (fun qq : Nat → Nat => reg _ _ _ (va_up (qq) 16 U)) (up_in3 (by decide) (by decide) (by decide))).mp hR44
                      have hR46 := (congrArg (fun qq : Nat → Nat => reg _ _ _ (qq)) (up_in4 (by decide) (by decide) (by decide) (by decide))).mp hR45
                      refine J_istore (lv' := [(5, .int (iI mi)), (0, .ref (ad 98)), (1, .int (iI set)), (2, .int (iI to)), (4, .int (iI (i : Int)))]) d_M_sum_146 (by decide) rfl ?_
                      replace hmi1 : hold _ := hmi1
                      have hmib : mi = 0 ∨ mi = 1 := by rcases hmi1 with w | w; exact Or.inr w.1; exact Or.inl w.1
                      have hlU := lnw_154 hUY.2.2.1
                      have hlY := lnw_154 hUY.2.2.2
                      replace hU9 : hold _ := hU9
                      refine J_aload_n 1 d_M_sum_148 rfl rfl ?_
                      refine J_bipush d_M_sum_149 (i8_ok (by decide)) ?_
                      refine J_sipush d_M_sum_151 (i16_ok (by decide)) ?_
                      refine J_callVv cw_M_66 nh_M_up pn_M_up rfl rfl (by omega) (by rw [va_up_ne _ _ (by decide), va_up_ne _ _ (by decide), va_up_self]) (As := [.int (iI 16), .int (iI 160)]) (rest := []) rfl (Nat.le_of_ble_eq_true rfl) ⟨by decide, by decide⟩ rfl ⟨by decide, by decide⟩ d_M_sum_154 (k_M_up hfl (a := 16) (n := 160) (hh := bh42) (ll := bl43) (V := va_up (va_up (va_up (va_up (va_up (va_up (va_up V 31 a) 28 b) 16 U) 17 Y) 26 j1) 25 j2) 24 j3) (br := br) (hN := hN) (hO := (by rw [va_up_ne _ _ (by decide), va_up_ne _ _ (by decide), va_up_self])) (hB := (by rw [va_up_ne _ _ (by decide), va_up_self])) (hL := (by rw [va_up_self])) (hR := hR46) (ha := by omega) (hxa := ((va_up_ne _ _ (by decide)).trans ((va_up_ne _ _ (by decide)).trans ((va_up_ne _ _ (by decide)).trans ((va_up_ne _ _ (by decide)).trans (va_up_self ..)))))) (bra := (hzz.2 16 (by decide) (by decide))) (hn := by omega) (hT := Or.inr (by omega))) (fun  F9 hq => ?_)
                      obtain ⟨bh47, bl48, hR49, eF9⟩ := hq
                      refine J_eqF (F2 := va_up (va_up (va_up F 98 (oM ad (va_up f 10 0) v)) 99 (.inl (g 0, 858, .inl (aI bh47)))) 100 (.inl (g 0, 33, .inl (aI bl48)))) (eF9.trans (Eq.trans (congrArg (fun q : Nat → va_E => va_up q 100 (.inl (g 0, 33, .inl (aI bl48)))) (up_in1 (by decide))) (up_in0))) ?_
                      have hR52 := reg_w1 (hzz.1 _) hR49
                      have hR53 := (congrArg (fun qq : Nat → Nat => reg _ _ _ (qq)) (up_in4 (by decide) (by decide) (by decide) (by decide))).mp hR52
                      refine J_aload_n 1 d_M_sum_157 rfl rfl ?_
                      refine J_bipush d_M_sum_158 (i8_ok (by decide)) ?_
                      refine J_bipush d_M_sum_160 (i8_ok (by decide)) ?_
                      refine J_callVv cw_M_79 nh_M_divide pn_M_divide rfl rfl (by omega) (by rw [va_up_ne _ _ (by decide), va_up_ne _ _ (by decide), va_up_self]) (As := [.int (iI 16), .int (iI 17)]) (rest := []) rfl (Nat.le_of_ble_eq_true rfl) ⟨by decide, by decide⟩ rfl ⟨by decide, by decide⟩ d_M_sum_162 (k_M_divide hfl (a := 16) (b := 17) (hh := bh47) (ll := bl48) (V := va_up (va_up (va_up (va_up (va_up (va_up (va_up V 31 a) 28 b) 16 (U * 2 ^ 160)) 17 Y) 26 j1) 25 j2) 24 j3) (br := br) (hN := hN) (hO := (by rw [va_up_ne _ _ (by decide), va_up_ne _ _ (by decide), va_up_self])) (hB := (by rw [va_up_ne _ _ (by decide), va_up_self])) (hL := (by rw [va_up_self])) (hR := hR53) (ha := by omega) (hb := by omega) (hxa := ((va_up_ne _ _ (by decide)).trans ((va_up_ne _ _ (by decide)).trans ((va_up_ne _ _ (by decide)).trans ((va_up_ne _ _ (by decide)).trans (va_up_self ..)))))) (bra := (hzz.2 16 (by decide) (by decide))) (hxb := ((va_up_ne _ _ (by decide)).trans ((va_up_ne _ _ (by decide)).trans ((va_up_ne _ _ (by decide)).trans (va_up_self ..))))) (brb := (hzz.2 17 (by decide) (by decide))) (hzz := hzz) (ha2 := by omega) (hb2 := by omega) (hb0 := by omega) (hla2 := Nat.le_trans lnw_up8 (by omega)) (hlb2 := by omega)) (fun  F10 hq => ?_)
                      obtain ⟨bh54, bl55, j59, hR56, eF10⟩ := hq
                      refine J_eqF (F2 := va_up (va_up (va_up F 98 (oM ad (va_up f 10 0) v)) 99 (.inl (g 0, 858, .inl (aI bh54)))) 100 (.inl (g 0, 33, .inl (aI bl55)))) (eF10.trans (Eq.trans (congrArg (fun q : Nat → va_E => va_up q 100 (.inl (g 0, 33, .inl (aI bl55)))) (up_in1 (by decide))) (up_in0))) ?_
                      have hR60 := (congrArg (fun qq : Nat → Nat => reg _ _ _ (va_up (va_up (qq) 25 ((U * 2 ^ 160) % Y)) 24 ((U * 2 ^ 160) / Y))) (up_in2 (by decide) (by decide))).mp hR56
                      have hR61 := (congrArg (fun qq : Nat → Nat => reg _ _ _ (va_up (qq) 24 ((U * 2 ^ 160) / Y))) (up_in1 (by decide))).mp hR60
                      have hR62 := (congrArg (fun qq : Nat → Nat => reg _ _ _ (qq)) (up_in0)).mp hR61
                      have hR63 := (congrArg (fun qq : Nat => reg _ _ _ (va_up (va_up (va_up (va_up (va_up (va_up (va_up V 31 a) 28 b) 16 (U * 2 ^ 160)) 17 Y) 26 j59) 25 ((U * 2 ^ 160) % Y)) 24 qq)) (show ((U * 2 ^ 160) / Y) = (256 * smT (R i)) from (by rw [hsT]; exact sm_div hUY.2.1 hUY.1 hky hky2))).mp hR62
                      refine J_iload 0 d_M_sum_165 rfl ?_
                      refine J_ifeq (tgt := 183) d_M_sum_167 (by decide) ⟨by omega, by omega⟩ (fun c167 => ?_) (fun c167 => ?_)
                      · refine J_aload_n 1 d_M_sum_183 rfl rfl ?_
                        refine J_bipush d_M_sum_184 (i8_ok (by decide)) ?_
                        refine J_bipush d_M_sum_186 (i8_ok (by decide)) ?_
                        refine J_bipush d_M_sum_188 (i8_ok (by decide)) ?_
                        refine J_callVv cw_M_155 nh_M_add pn_M_add rfl rfl (by omega) (by rw [va_up_ne _ _ (by decide), va_up_ne _ _ (by decide), va_up_self]) (As := [.int (iI 31), .int (iI 24), .int (iI 31)]) (rest := []) rfl (Nat.le_of_ble_eq_true rfl) ⟨by decide, by decide⟩ rfl ⟨by decide, by decide⟩ d_M_sum_190 (k_M_add hfl (a := 31) (b := 24) (t := 31) (hh := bh54) (ll := bl55) (V := va_up (va_up (va_up (va_up (va_up (va_up (va_up V 31 a) 28 b) 16 (U * 2 ^ 160)) 17 Y) 26 j59) 25 ((U * 2 ^ 160) % Y)) 24 (256 * smT (R i))) (br := br) (hN := hN) (hO := (by rw [va_up_ne _ _ (by decide), va_up_ne _ _ (by decide), va_up_self])) (hB := (by rw [va_up_ne _ _ (by decide), va_up_self])) (hL := (by rw [va_up_self])) (hR := hR63) (ha := by omega) (hb := by omega) (ht := by omega) (hxa := ((va_up_ne _ _ (by decide)).trans ((va_up_ne _ _ (by decide)).trans ((va_up_ne _ _ (by decide)).trans ((va_up_ne _ _ (by decide)).trans ((va_up_ne _ _ (by decide)).trans ((va_up_ne _ _ (by decide)).trans (va_up_self ..)))))))) (bra := (hzz.2 31 (by decide) (by decide))) (hxb := (va_up_self ..)) (brb := (hzz.2 24 (by decide) (by decide))) (hla2 := (lnw_le (by decide)).mpr (Nat.lt_of_lt_of_le haL (by decide))) (hlb2 := (lnw_le (by decide)).mpr (Nat.lt_of_lt_of_le (Nat.mul_lt_mul_of_pos_left hsTb (by decide : 0 < 256)) (by decide)))) (fun  F11 hq => ?_)
                        obtain ⟨bh64, bl65, hR66, eF11⟩ := hq
                        refine J_eqF (F2 := va_up (va_up (va_up F 98 (oM ad (va_up f 10 0) v)) 99 (.inl (g 0, 858, .inl (aI bh64)))) 100 (.inl (g 0, 33, .inl (aI bl65)))) (eF11.trans (Eq.trans (congrArg (fun q : Nat → va_E => va_up q 100 (.inl (g 0, 33, .inl (aI bl65)))) (up_in1 (by decide))) (up_in0))) ?_
                        have hR69 := reg_w1 (hzz.1 _) hR66
                        have hR70 := (congrArg (fun qq : Nat → Nat => reg _ _ _ (qq)) (up_in6 (by decide) (by decide) (by decide) (by decide) (by decide) (by decide))).mp hR69
                        refine J_iinc (j := 4) (b := (i : Int) + 1) (lv' := [(4, .int (iI ((i : Int) + 1))), (5, .int (iI mi)), (0, .ref (ad 98)), (1, .int (iI set)), (2, .int (iI to))]) d_M_sum_193 rfl (by omega) (by decide) rfl ?_
                        refine J_goto (tgt := 107) d_M_sum_196 (by decide) ?_
                        refine J_pick (lv' := [(0, .ref (ad 98)), (1, .int (iI set)), (2, .int (iI to)), (4, .int (iI ((i : Int) + 1)))]) [2, 3, 4, 0] rfl ?_
                        refine ih (i + 1) bh64 bl65 (a + (256 * smT (R i))) b j59 ((U * 2 ^ 160) % Y) (256 * smT (R i)) (U * 2 ^ 160) Y (by omega) (by rw [ha, show sumP R set.toNat (i + 1) = sumP R set.toNat i + smT (R i) from if_pos ⟨hbit, by rw [hRa]; exact hkn, by rw [hRa]; show 0 ≤ sg; rcases hmi1 with w | w <;> omega⟩, Nat.mul_add]) (by rw [hbb, show sumN R set.toNat (i + 1) = sumN R set.toNat i from if_neg (fun h => by have h3 := h.2.2; rw [hRa] at h3; rcases hmi1 with w | w <;> simp only at h3 <;> omega)]) ?_ hR70 (by omega)
                        · rw [Nat.add_mul, Nat.one_mul]
                          have h9 : 256 * smT (R i) ≤ 2 ^ 314 := Nat.le_trans (Nat.mul_le_mul_left 256 (Nat.le_of_lt hsTb)) (by decide)
                          omega
                      · refine J_aload_n 1 d_M_sum_170 rfl rfl ?_
                        refine J_bipush d_M_sum_171 (i8_ok (by decide)) ?_
                        refine J_bipush d_M_sum_173 (i8_ok (by decide)) ?_
                        refine J_bipush d_M_sum_175 (i8_ok (by decide)) ?_
                        refine J_callVv cw_M_155 nh_M_add pn_M_add rfl rfl (by omega) (by rw [va_up_ne _ _ (by decide), va_up_ne _ _ (by decide), va_up_self]) (As := [.int (iI 28), .int (iI 24), .int (iI 28)]) (rest := []) rfl (Nat.le_of_ble_eq_true rfl) ⟨by decide, by decide⟩ rfl ⟨by decide, by decide⟩ d_M_sum_177 (k_M_add hfl (a := 28) (b := 24) (t := 28) (hh := bh54) (ll := bl55) (V := va_up (va_up (va_up (va_up (va_up (va_up (va_up V 31 a) 28 b) 16 (U * 2 ^ 160)) 17 Y) 26 j59) 25 ((U * 2 ^ 160) % Y)) 24 (256 * smT (R i))) (br := br) (hN := hN) (hO := (by rw [va_up_ne _ _ (by decide), va_up_ne _ _ (by decide), va_up_self])) (hB := (by rw [va_up_ne _ _ (by decide), va_up_self])) (hL := (by rw [va_up_self])) (hR := hR63) (ha := by omega) (hb := by omega) (ht := by omega) (hxa := ((va_up_ne _ _ (by decide)).trans ((va_up_ne _ _ (by decide)).trans ((va_up_ne _ _ (by decide)).trans ((va_up_ne _ _ (by decide)).trans ((va_up_ne _ _ (by decide)).trans (va_up_self ..))))))) (bra := (hzz.2 28 (by decide) (by decide))) (hxb := (va_up_self ..)) (brb := (hzz.2 24 (by decide) (by decide))) (hla2 := (lnw_le (by decide)).mpr (Nat.lt_of_lt_of_le hbL (by decide))) (hlb2 := (lnw_le (by decide)).mpr (Nat.lt_of_lt_of_le (Nat.mul_lt_mul_of_pos_left hsTb (by decide : 0 < 256)) (by decide)))) (fun  F12 hq => ?_)
                        obtain ⟨bh71, bl72, hR73, eF12⟩ := hq
                        refine J_eqF (F2 := va_up (va_up (va_up F 98 (oM ad (va_up f 10 0) v)) 99 (.inl (g 0, 858, .inl (aI bh71)))) 100 (.inl (g 0, 33, .inl (aI bl72)))) (eF12.trans (Eq.trans (congrArg (fun q : Nat → va_E => va_up q 100 (.inl (g 0, 33, .inl (aI bl72)))) (up_in1 (by decide))) (up_in0))) ?_
                        have hR76 := reg_w1 (hzz.1 _) hR73
                        have hR77 := (congrArg (fun qq : Nat → Nat => reg _ _ _ (qq)) (up_in5 (by decide) (by decide) (by decide) (by decide) (by decide))).mp hR76
                        refine J_goto (tgt := 193) d_M_sum_180 (by decide) ?_
                        refine J_iinc (j := 4) (b := (i : Int) + 1) (lv' := [(4, .int (iI ((i : Int) + 1))), (5, .int (iI mi)), (0, .ref (ad 98)), (1, .int (iI set)), (2, .int (iI to))]) d_M_sum_193 rfl (by omega) (by decide) rfl ?_
                        refine J_goto (tgt := 107) d_M_sum_196 (by decide) ?_
                        refine J_pick (lv' := [(0, .ref (ad 98)), (1, .int (iI set)), (2, .int (iI to)), (4, .int (iI ((i : Int) + 1)))]) [2, 3, 4, 0] rfl ?_
                        refine ih (i + 1) bh71 bl72 a (b + (256 * smT (R i))) j59 ((U * 2 ^ 160) % Y) (256 * smT (R i)) (U * 2 ^ 160) Y (by omega) (by rw [ha, show sumP R set.toNat (i + 1) = sumP R set.toNat i from if_neg (fun h => by have h3 := h.2.2; rw [hRa] at h3; rcases hmi1 with w | w <;> simp only at h3 <;> omega)]) (by rw [hbb, show sumN R set.toNat (i + 1) = sumN R set.toNat i + smT (R i) from if_pos ⟨hbit, by rw [hRa]; exact hkn, by rw [hRa]; show sg < 0; rcases hmi1 with w | w <;> omega⟩, Nat.mul_add]) ?_ hR77 (by omega)
                        · rw [Nat.add_mul, Nat.one_mul]
                          have h9 : 256 * smT (R i) ≤ 2 ^ 314 := Nat.le_trans (Nat.mul_le_mul_left 256 (Nat.le_of_lt hsTb)) (by decide)
                          omega
                    · refine J_goto (tgt := 193) d_M_sum_133 (by decide) ?_
                      refine J_iinc (j := 3) (b := (i : Int) + 1) (lv' := [(4, .int (iI ((i : Int) + 1))), (0, .ref (ad 98)), (1, .int (iI set)), (2, .int (iI to))]) d_M_sum_193 rfl (by omega) (by decide) rfl ?_
                      refine J_goto (tgt := 107) d_M_sum_196 (by decide) ?_
                      refine J_pick (lv' := [(0, .ref (ad 98)), (1, .int (iI set)), (2, .int (iI to)), (4, .int (iI ((i : Int) + 1)))]) [1, 2, 3, 0] rfl ?_
                      refine ih (i + 1) e1 e2 a b j1 j2 j3 j4 j5 (by omega) (by rw [ha, show sumP R set.toNat (i + 1) = sumP R set.toNat i from if_neg (fun h => h.2.1 (by rw [← (hmr i (by omega)).2.1]; have := hkI i (by omega); omega))]) (by rw [hbb, show sumN R set.toNat (i + 1) = sumN R set.toNat i from if_neg (fun h => h.2.1 (by rw [← (hmr i (by omega)).2.1]; have := hkI i (by omega); omega))]) ?_ hRL107 (by omega)
                      · rw [Nat.add_mul, Nat.one_mul]
                        omega
            refine J_eqF (F2 := va_up (va_up (va_up F 98 (oM ad (va_up f 10 0) v)) 99 (.inl (g 0, 858, .inl (aI hh)))) 100 (.inl (g 0, 33, .inl (aI (va_up (va_up ll 31 0) 28 0))))) (by funext jj; simp only [va_up]; grind) ?_
            have hx_ := (congrArg (reg _ _ _) (up_same1 (i := 16) (a := (V 16)) ((va_up_ne _ _ (by decide)).trans (va_up_ne _ _ (by decide))))).mp hR2
            have hy_16 := hx_
            have hx_ := (congrArg (reg _ _ _) (up_same1 (i := 17) (a := (V 17)) ((va_up_ne _ _ (by decide)).trans ((va_up_ne _ _ (by decide)).trans (va_up_ne _ _ (by decide)))))).mp hy_16
            have hy_17 := hx_
            have hx_ := (congrArg (reg _ _ _) (up_same1 (i := 26) (a := (V 26)) ((va_up_ne _ _ (by decide)).trans ((va_up_ne _ _ (by decide)).trans ((va_up_ne _ _ (by decide)).trans (va_up_ne _ _ (by decide))))))).mp hy_17
            have hy_26 := hx_
            have hx_ := (congrArg (reg _ _ _) (up_same1 (i := 25) (a := (V 25)) ((va_up_ne _ _ (by decide)).trans ((va_up_ne _ _ (by decide)).trans ((va_up_ne _ _ (by decide)).trans ((va_up_ne _ _ (by decide)).trans (va_up_ne _ _ (by decide)))))))).mp hy_26
            have hy_25 := hx_
            have hx_ := (congrArg (reg _ _ _) (up_same1 (i := 24) (a := (V 24)) ((va_up_ne _ _ (by decide)).trans ((va_up_ne _ _ (by decide)).trans ((va_up_ne _ _ (by decide)).trans ((va_up_ne _ _ (by decide)).trans ((va_up_ne _ _ (by decide)).trans (va_up_ne _ _ (by decide))))))))).mp hy_25
            have hy_24 := hx_
            exact loop107 ((8 - 0) + 1) 0 hh (va_up (va_up ll 31 0) 28 0) 0 0 (V 26) (V 25) (V 24) (V 16) (V 17) (by omega) rfl rfl ⟨Nat.zero_le _, Nat.zero_le _⟩ hy_24 (Nat.lt_succ_self _)
          · refine J_aload_n 0 d_M_sum_82 rfl rfl ?_
            refine J_iconst d_M_sum_83 ?_
            refine J_callVi cw_M_135 nh_M_fail pn_M_fail rfl rfl (by omega) (by rw [va_up_self]) (As := [.int (iI 1)]) (rest := []) rfl (Nat.le_of_ble_eq_true rfl) ⟨by decide, by decide⟩ rfl ⟨by decide, by decide⟩ d_M_sum_84 (c_M_fail hfl (code := 1) (f := va_up f 10 0) (v := v) hN (by rw [va_up_self])) (fun z78 F13 hq => ?_)
            obtain ⟨hz78, eF13⟩ := hq
            refine J_eqF (F2 := va_up F 98 (oM ad (va_up f 10 1) v)) ((eF13.trans (congrArg (fun qq : Nat → Int => va_up (va_up F 98 (oM ad (va_up f 10 0) v)) 98 (oM ad qq v)) (up_in0))).trans (up_in0)) ?_
            refine J_topi (r := 0) (congrArg iI hz78) ?_
            refine J_eqF (F2 := va_up (va_up F 98 (oM ad (va_up f 10 1) v)) 99 (.inl (g 0, 858, .inl (aI hh)))) (up_same1 (by rw [va_up_ne _ _ (by decide)]; exact hB)) ?_
            refine J_eqF (F2 := va_up (va_up (va_up F 98 (oM ad (va_up f 10 1) v)) 99 (.inl (g 0, 858, .inl (aI hh)))) 100 (.inl (g 0, 33, .inl (aI ll)))) (up_same1 (by rw [va_up_ne _ _ (by decide), va_up_ne _ _ (by decide)]; exact hL)) ?_
            refine J_iret rfl rfl d_M_sum_87 ⟨by decide, by decide⟩ ?_
            exact ⟨_, rfl, rfl, rfl, .inl 0, Or.inl ⟨by rcases hgd with w | w; exact absurd w.1 (by omega); exact w.2, rfl⟩, Or.inl ⟨0, rfl, rfl, mst_3 hD0 hR hzz (fun k hk => (show (V) k = V k from by rfl)) (va_up_ne _ _ (by decide)) (va_up_ne _ _ (by decide)) (va_up_self ..)⟩, offM_3⟩
        refine J_iload 4 d_M_sum_35 rfl ?_
        refine J_bipush d_M_sum_37 (i8_ok (by decide)) ?_
        refine J_if_icmpge (tgt := 78) d_M_sum_39 (by decide) ⟨by omega, by omega⟩ ⟨by omega, by omega⟩ (fun c39 => ?_) (fun c39 => ?_)
        · exact lab78  (by omega)
        · refine J_iload_n 3 d_M_sum_42 rfl rfl ?_
          refine J_ifeq (tgt := 78) d_M_sum_43 (by decide) ⟨by omega, by omega⟩ (fun c43 => ?_) (fun c43 => ?_)
          · exact lab78  (by omega)
          · have hgr := (hgd.resolve_right (fun w => c43 w.1)).2
            have hrs := hgr.1
            have hki := (hmr i (by omega)).2.1
            refine J_iload_n 1 d_M_sum_46 rfl rfl ?_
            refine J_topi (r := ((set.toNat : Nat) : Int)) (congrArg iI (by omega)) ?_
            refine J_iload 4 d_M_sum_47 rfl ?_
            refine J_ishr (r := ((set.toNat / 2 ^ i : Nat) : Int)) d_M_sum_49 (iI_shrn (by omega) i (by omega)) ?_
            refine J_iconst d_M_sum_50 ?_
            refine J_iand (r := (((set.toNat / 2 ^ i) % 2 : Nat) : Int)) d_M_sum_51 (iI_andn 1 (by decide)) ?_
            refine J_ifeq (tgt := 66) d_M_sum_52 (by decide) ⟨by omega, by omega⟩ (fun c52 => ?_) (fun c52 => ?_)
            · refine J_iconst d_M_sum_66 ?_
              refine J_goto (tgt := 71) d_M_sum_67 (by decide) ?_
              refine J_istore_n (lv' := [(3, .int (iI 1)), (0, .ref (ad 98)), (1, .int (iI set)), (2, .int (iI to)), (4, .int (iI (i : Int)))]) d_M_sum_71 rfl (by decide) rfl ?_
              refine J_iinc (j := 4) (b := (i : Int) + 1) (lv' := [(4, .int (iI ((i : Int) + 1))), (3, .int (iI 1)), (0, .ref (ad 98)), (1, .int (iI set)), (2, .int (iI to))]) d_M_sum_72 rfl (by omega) (by decide) rfl ?_
              refine J_goto (tgt := 35) d_M_sum_75 (by decide) ?_
              refine J_pick (lv' := [(0, .ref (ad 98)), (1, .int (iI set)), (2, .int (iI to)), (3, .int (iI 1)), (4, .int (iI ((i : Int) + 1)))]) [2, 3, 4, 1, 0] rfl ?_
              exact ih (i + 1) (1 : Int) (by omega) (Or.inl ⟨rfl, hgr.1, hgr.2.1, fun j hj hb => by by_cases e : j = i; (subst e; omega); exact hgr.2.2 j (by omega) hb⟩) (by omega)
            · have hkI9 := hkI i (by omega)
              refine J_aload_n 0 d_M_sum_55 rfl rfl ?_
              refine gf_M_16 (by omega) (by rw [va_up_self]) rfl d_M_sum_56 ?_
              refine J_iload 4 d_M_sum_59 rfl ?_
              refine J_iaload 0 rfl (by omega) (by rw [va_up_ne _ _ (by decide)]; exact hKk) (by omega) d_M_sum_61 ?_
              refine J_topi (r := kk i) (congrArg (fun q => iI (kk q)) (by omega)) ?_
              refine J_iconst d_M_sum_62 ?_
              refine J_if_icmpeq (tgt := 70) d_M_sum_63 (by decide) ⟨by omega, by omega⟩ ⟨by omega, by omega⟩ (fun c63 => ?_) (fun c63 => ?_)
              · refine J_iconst d_M_sum_70 ?_
                refine J_istore_n (lv' := [(3, .int (iI 0)), (0, .ref (ad 98)), (1, .int (iI set)), (2, .int (iI to)), (4, .int (iI (i : Int)))]) d_M_sum_71 rfl (by decide) rfl ?_
                refine J_iinc (j := 4) (b := (i : Int) + 1) (lv' := [(4, .int (iI ((i : Int) + 1))), (3, .int (iI 0)), (0, .ref (ad 98)), (1, .int (iI set)), (2, .int (iI to))]) d_M_sum_72 rfl (by omega) (by decide) rfl ?_
                refine J_goto (tgt := 35) d_M_sum_75 (by decide) ?_
                refine J_pick (lv' := [(0, .ref (ad 98)), (1, .int (iI set)), (2, .int (iI to)), (3, .int (iI 0)), (4, .int (iI ((i : Int) + 1)))]) [2, 3, 4, 1, 0] rfl ?_
                exact ih (i + 1) (0 : Int) (by omega) (Or.inr ⟨rfl, fun h => h.2.2 i (by omega) (by omega) (by rw [← hki]; omega)⟩) (by omega)
              · refine J_iconst d_M_sum_66 ?_
                refine J_goto (tgt := 71) d_M_sum_67 (by decide) ?_
                refine J_istore_n (lv' := [(3, .int (iI 1)), (0, .ref (ad 98)), (1, .int (iI set)), (2, .int (iI to)), (4, .int (iI (i : Int)))]) d_M_sum_71 rfl (by decide) rfl ?_
                refine J_iinc (j := 4) (b := (i : Int) + 1) (lv' := [(4, .int (iI ((i : Int) + 1))), (3, .int (iI 1)), (0, .ref (ad 98)), (1, .int (iI set)), (2, .int (iI to))]) d_M_sum_72 rfl (by omega) (by decide) rfl ?_
                refine J_goto (tgt := 35) d_M_sum_75 (by decide) ?_
                refine J_pick (lv' := [(0, .ref (ad 98)), (1, .int (iI set)), (2, .int (iI to)), (3, .int (iI 1)), (4, .int (iI ((i : Int) + 1)))]) [2, 3, 4, 1, 0] rfl ?_
                exact ih (i + 1) (1 : Int) (by omega) (Or.inl ⟨rfl, hgr.1, hgr.2.1, fun j hj hb => by by_cases e : j = i; (subst e; rw [← hki]; omega); exact hgr.2.2 j (by omega) hb⟩) (by omega)
    exact loop35 ((8 - 0) + 1) 0 gd (by omega) (by rcases hg0 with w | w; exact Or.inl ⟨w.1, w.2.1, w.2.2, fun j hj => absurd hj (Nat.not_lt_zero _)⟩; exact Or.inr w) (Nat.lt_succ_self _)
  refine J_iload_n 1 d_M_sum_5 rfl rfl ?_
  refine J_iconst d_M_sum_6 ?_
  refine J_sipush d_M_sum_7 (i16_ok (by decide)) ?_
  refine J_callSi cw_M_138 nh_M_in pn_M_in rfl (As := [.int (iI set), .int (iI 0), .int (iI 255)]) (rest := []) rfl (Nat.le_of_ble_eq_true rfl) ⟨by decide, by decide⟩ rfl ⟨by decide, by decide⟩ d_M_sum_10 (c_M_in hfl (a := set) (b := 0) (c := 255) (hse) (by decide) (by decide)) (fun za F14 hq => ?_)
  obtain ⟨hza, eF14⟩ := hq
  refine J_eqF eF14 ?_
  refine J_ifeq (tgt := 30) d_M_sum_13 (by decide) ⟨by omega, by omega⟩ (fun c13 => ?_) (fun c13 => ?_)
  · refine J_iconst d_M_sum_30 ?_
    refine J_istore_n (lv' := [(3, .int (iI 0)), (0, .ref (ad 98)), (1, .int (iI set)), (2, .int (iI to))]) d_M_sum_31 rfl (by decide) rfl ?_
    refine J_pick (lv' := [(0, .ref (ad 98)), (1, .int (iI set)), (2, .int (iI to)), (3, .int (iI 0))]) [1, 2, 3, 0] rfl ?_
    exact lab32 (0 : Int) (Or.inr ⟨rfl, fun h => by have h1 := h.1; have h2 := h.2.1; omega⟩)
  · refine J_iload_n 2 d_M_sum_16 rfl rfl ?_
    refine J_iconst d_M_sum_17 ?_
    refine J_bipush d_M_sum_18 (i8_ok (by decide)) ?_
    refine J_callSi cw_M_138 nh_M_in pn_M_in rfl (As := [.int (iI to), .int (iI 0), .int (iI 7)]) (rest := []) rfl (Nat.le_of_ble_eq_true rfl) ⟨by decide, by decide⟩ rfl ⟨by decide, by decide⟩ d_M_sum_20 (c_M_in hfl (a := to) (b := 0) (c := 7) (hto) (by decide) (by decide)) (fun zb F15 hq => ?_)
    obtain ⟨hzb, eF15⟩ := hq
    refine J_eqF eF15 ?_
    refine J_ifeq (tgt := 30) d_M_sum_23 (by decide) ⟨by omega, by omega⟩ (fun c23 => ?_) (fun c23 => ?_)
    · refine J_iconst d_M_sum_30 ?_
      refine J_istore_n (lv' := [(3, .int (iI 0)), (0, .ref (ad 98)), (1, .int (iI set)), (2, .int (iI to))]) d_M_sum_31 rfl (by decide) rfl ?_
      refine J_pick (lv' := [(0, .ref (ad 98)), (1, .int (iI set)), (2, .int (iI to)), (3, .int (iI 0))]) [1, 2, 3, 0] rfl ?_
      exact lab32 (0 : Int) (Or.inr ⟨rfl, fun h => by have h1 := h.1; have h2 := h.2.1; omega⟩)
    · refine J_iconst d_M_sum_26 ?_
      refine J_goto (tgt := 31) d_M_sum_27 (by decide) ?_
      refine J_istore_n (lv' := [(3, .int (iI 1)), (0, .ref (ad 98)), (1, .int (iI set)), (2, .int (iI to))]) d_M_sum_31 rfl (by decide) rfl ?_
      refine J_pick (lv' := [(0, .ref (ad 98)), (1, .int (iI set)), (2, .int (iI to)), (3, .int (iI 1))]) [1, 2, 3, 0] rfl ?_
      exact lab32 (1 : Int) (Or.inl ⟨rfl, by omega, by omega⟩)
