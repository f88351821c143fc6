/-! the Model: whole, real -/
theorem rg0 {z : Int} (hz : inI z) : (0 ≤ Op.cmpValue (Jvm.FP.dcmp (fd (decide (z < 0)) z.natAbs (-3)) (fd false 0 0)) .g ↔ 0 ≤ z) := by
  by_cases h : z < 0
  · rw [show decide (z < 0) = true from decide_eq_true h]
    have h1 : exD z.natAbs (-3) := ⟨by omega, by omega, by omega⟩
    obtain ⟨c, q, a1, a2⟩ := ex_can h1 true
    obtain ⟨d, r, b1, b2⟩ := ex_can (show exD 0 0 from ⟨by decide, by decide, by decide⟩) false
    have hc : Jvm.FP.dcmp (fd true z.natAbs (-3)) (fd false 0 0) = some (compare (-((c * 2 ^ (q - min q r).toNat : Nat) : Int)) ((d * 2 ^ (r - min q r).toNat : Nat) : Int)) := by
      show Jvm.FP.Core.order (Jvm.FP.Core.val64 (fd true z.natAbs (-3))) (Jvm.FP.Core.val64 (fd false 0 0)) = _
      rw [fd_val, fd_val, a1, b1]; rfl
    have hc0 : 0 < c := by
      apply Nat.pos_of_ne_zero
      intro e
      unfold sameV at a2
      rw [e, Nat.zero_mul] at a2
      rcases Nat.mul_eq_zero.mp a2 with w | w
      · omega
      · exact absurd w (Nat.ne_of_gt (Nat.two_pow_pos _))
    have hp := Nat.mul_pos hc0 (Nat.two_pow_pos (q - min q r).toNat)
    rw [hc, (cmp_i _ _).1 (by omega)]
    constructor
    · intro w; exact absurd w (by decide)
    · intro w; omega
  · rw [show decide (z < 0) = false from decide_eq_false h]
    obtain ⟨c1, c2⟩ := fd_zero (show exD z.natAbs (-3) from ⟨by omega, by omega, by omega⟩)
    by_cases z0 : z.natAbs = 0
    · rw [c1 z0]
      constructor
      · intro _; omega
      · intro _; decide
    · rw [c2 z0]
      constructor
      · intro _; omega
      · intro _; decide
theorem real_me {z : Int} (hz : inI z) : ∃ m e0, fd false z.natAbs (-3) = fd false m e0 ∧ ((m = 0 ∧ e0 = 0) ∨ (4503599627370496 ≤ m ∧ m < 9007199254740992)) ∧ (-60 ≤ e0 ∧ e0 ≤ 0) ∧ su m e0 * 8 = z.natAbs * sd 1 e0 ∧ isR m e0 ∧ (z = 0 → m = 0) ∧ ∃ w, near z.sign z.natAbs 8 = some w := by
  by_cases h0 : z.natAbs = 0
  · refine ⟨0, 0, fd_congr (by rw [h0, Nat.zero_mul, Nat.zero_mul]), Or.inl ⟨rfl, rfl⟩, by decide, by rw [h0, Nat.zero_mul]; rfl, Or.inl rfl, fun _ => rfl, ?_⟩
    rw [h0]; exact ⟨_, if_pos rfl⟩
  · obtain ⟨b1, b2, b3⟩ := blen_rng (show 0 < z.natAbs by omega)
    have b4 : blen z.natAbs ≤ 32 := blen_le.mpr (by omega)
    generalize hx : z.natAbs = x at *
    have k1 : 4503599627370496 ≤ x * 2 ^ (53 - blen x) := by
      have := Nat.mul_le_mul_right (2 ^ (53 - blen x)) b1
      rw [← Nat.pow_add, show blen x - 1 + (53 - blen x) = 52 by omega] at this
      exact this
    have k2 : x * 2 ^ (53 - blen x) < 9007199254740992 := by
      have := Nat.mul_lt_mul_of_pos_right b2 (Nat.two_pow_pos (53 - blen x))
      rw [← Nat.pow_add, show blen x + (53 - blen x) = 53 by omega] at this
      exact this
    have k3 : su (x * 2 ^ (53 - blen x)) (-3 - ((53 - blen x : Nat) : Int)) * 8 = x * sd 1 (-3 - ((53 - blen x : Nat) : Int)) := by
      unfold su sd
      rw [show (-3 - ((53 - blen x : Nat) : Int)).toNat = 0 by omega, Nat.pow_zero, Nat.mul_one, Nat.one_mul, Nat.mul_assoc, show (8 : Nat) = 2 ^ 3 by decide, ← Nat.pow_add]
      congr 2; omega
    have k4 : ∃ w, near z.sign x 8 = some w := by
      have h := (near_exact (s := z.sign) (e := -3 - ((53 - blen x : Nat) : Int)) k1 k2).2.2
      rw [if_pos (by omega)] at h
      rw [← near_ratio (s := z.sign) (sd_pos (by decide) _) (by decide) k3, h]
      exact ⟨_, rfl⟩
    have b5 : blen (x * 2 ^ (53 - blen x)) ≤ 53 := blen_le.mpr (by omega)
    have b6 : ¬ blen (x * 2 ^ (53 - blen x)) ≤ 52 := fun z => by have := blen_le.mp z; omega
    refine ⟨x * 2 ^ (53 - blen x), -3 - ((53 - blen x : Nat) : Int), fd_congr ?_, Or.inr ⟨k1, k2⟩, by omega, k3, Or.inr ⟨by omega, by omega⟩, fun e => by omega, k4⟩
    rw [show (-3 - (-3 - ((53 - blen x : Nat) : Int))).toNat = 53 - blen x by omega, show (-3 - ((53 - blen x : Nat) : Int) - -3).toNat = 0 by omega, Nat.pow_zero, Nat.mul_one]
def wholeV (v : Int) : Vn := (0, v.sign, v.natAbs, 1)
theorem sign_c (v : Int) : (v < 0 ∧ v.sign = -1) ∨ (v = 0 ∧ v.sign = 0) ∨ (0 < v ∧ v.sign = 1) := by
  rcases Int.lt_trichotomy v 0 with h | h | h
  · exact Or.inl ⟨h, Int.sign_eq_neg_one_of_neg h⟩
  · exact Or.inr (Or.inl ⟨h, by rw [h]; rfl⟩)
  · exact Or.inr (Or.inr ⟨h, Int.sign_eq_one_of_pos h⟩)
theorem fin_whole {v : Int} (hv : v.natAbs < 2 ^ 120) : fin 0 v.sign v.natAbs 1 = some (wholeV v) := by
  unfold fin wholeV
  rw [if_neg (by decide), low_one.1, low_one.2, if_pos ⟨blen_le.mpr hv, by decide⟩]
  have := sign_c v
  split
  · have : v.sign = 0 := by omega
    rw [this]
  · rfl
theorem stoQ_some {ad : Nat → Nat} {g : Nat → ClassId} {R : Nat → Vn} {ln sh : List Nat} {to : Nat} {r : Option Vn} {kd code c0 z : Int} {F' : Nat → va_E} {w : Vn} (h : stoQ ad g R ln sh to r kd code c0 z F') (hr : r = some w) (hc : c0 = 0) : z = kd ∧ okv w ∧ mst ad g (va_up R to w) ln sh 0 F' := by
  rcases h with ⟨h1, _⟩ | ⟨w', h1, h2, h3, h4, h5⟩
  · rw [hr] at h1; exact absurd h1 (by simp)
  · rw [hr] at h1
    injection h1 with h1
    subst h1
    exact ⟨h4, h2, by rw [← hc]; exact h5⟩
set_option maxRecDepth 100000 in
set_option maxHeartbeats 4000000 in
theorem c_M_whole {l : Launch} (hfl : l.flags = flags0) {D : va_G} {g : Nat → ClassId} {ad : Nat → Nat} {N : Nat} {F : Nat → va_E} {R : Nat → Vn} {ln sh : List Nat} {th0 : Int} {r v0 : Int}
    (hN : 109 ≤ N) (hM : mst ad g R ln sh th0 F) (hr : inI r) (hv : inL v0) :
    JC l y_M_whole b_M_whole 4 (Option.some Jvm.ClassFile.FieldType.boolean) rm_M_whole (0, 0) D jCl (jTys g) ad N F [.ref (ad 98), .int (iI r), .long (lI v0)] (ji ad N (fun z F' => ((z = 1 ∧ (0 ≤ r ∧ r ≤ 7) ∧ okv (wholeV v0) ∧ mst ad g (va_up R r.toNat (wholeV v0)) ln sh 0 F') ∨ (z = 0 ∧ ¬(0 ≤ r ∧ r ≤ 7) ∧ mst ad g R ln sh 0 F')) ∧ offM F F')) := by
  obtain ⟨hh, ll, f, v, V, br, kk, bb, rr, lh, xh, dh, tt, hD0, hth⟩ := hM
  have hD := hD0
  obtain ⟨hO, hB, hL, hR, hzz, hKk, hBb, hRr, hmr, h104, h105, h106, h107, hln, hsh⟩ := hD
  have hkI := mR_kI hmr
  have hsg := sign_c v0
  refine JC.go hfl (own := "NumberTowerModel") (lv := [(0, .ref (ad 98)), (1, .int (iI r)), (2, .long (lI v0))]) rfl (by decide +kernel) (Nat.le_of_ble_eq_true rfl) rfl (fun A => ?_)
  refine J_aload_n 0 d_M_whole_0 rfl rfl ?_
  refine J_iconst d_M_whole_1 ?_
  refine pm_M_39 (by omega) hO d_M_whole_2 ?_
  refine J_iload_n 1 d_M_whole_5 rfl rfl ?_
  refine J_iconst d_M_whole_6 ?_
  refine J_bipush d_M_whole_7 (i8_ok (by decide)) ?_
  refine J_callSi cw_M_138 nh_M_in pn_M_in rfl (As := [.int (iI r), .int (iI 0), .int (iI 7)]) (rest := []) rfl (Nat.le_of_ble_eq_true rfl) ⟨by decide, by decide⟩ rfl ⟨by decide, by decide⟩ d_M_whole_9 (c_M_in hfl (a := r) (b := 0) (c := 7) (hr) (by decide) (by decide)) (fun z1 F1 hq => ?_)
  obtain ⟨hz1, eF1⟩ := hq
  refine J_eqF eF1 ?_
  refine J_ifne (tgt := 17) d_M_whole_12 (by decide) ⟨by omega, by omega⟩ (fun c12 => ?_) (fun c12 => ?_)
  · refine J_aload_n 0 d_M_whole_17 rfl rfl ?_
    refine J_bipush d_M_whole_18 (i8_ok (by decide)) ?_
    refine J_lload_n 2 d_M_whole_20 rfl rfl ?_
    refine J_lconst (v := 0) d_M_whole_21 rfl ?_
    refine J_lcmpge (tgt := 31) d_M_whole_22 d_M_whole_23 (by decide) hv ⟨by omega, by omega⟩ (fun c22 => ?_) (fun c22 => ?_)
    · refine J_lload_n 2 d_M_whole_31 rfl rfl ?_
      refine J_topl (r := ((v0.natAbs : Nat) : Int)) (congrArg lI (by omega)) ?_
      refine J_callVv cw_M_82 nh_M_put pn_M_put rfl rfl (by omega) (by rw [va_up_self]) (As := [.int (iI 20), .long (lI ((v0.natAbs : Nat) : Int))]) (rest := []) rfl (Nat.le_of_ble_eq_true rfl) ⟨by decide, by decide⟩ rfl ⟨by decide, by decide⟩ d_M_whole_32 (k_M_put hfl (a := 20) (n := v0.natAbs) (hh := hh) (ll := ll) (V := V) (br := br) (hN := hN) (hO := (by rw [va_up_self])) (hB := (by rw [va_up_ne _ _ (by decide)]; exact hB)) (hL := (by rw [va_up_ne _ _ (by decide)]; exact hL)) (hR := hR) (ha := by omega) (hn := by omega)) (fun  F2 hq => ?_)
      obtain ⟨bh2, bl3, hR4, eF2⟩ := hq
      refine J_eqF (F2 := va_up (va_up (va_up F 98 (oM ad (va_up f 10 0) v)) 99 (.inl (g 0, 858, .inl (aI bh2)))) 100 (.inl (g 0, 33, .inl (aI bl3)))) eF2 ?_
      have hR7 := reg_w1 (hzz.1 _) hR4
      refine J_aload_n 0 d_M_whole_35 rfl rfl ?_
      refine J_bipush d_M_whole_36 (i8_ok (by decide)) ?_
      refine J_lconst (v := 1) d_M_whole_38 rfl ?_
      refine J_callVv cw_M_82 nh_M_put pn_M_put rfl rfl (by omega) (by rw [va_up_ne _ _ (by decide), va_up_ne _ _ (by decide), va_up_self]) (As := [.int (iI 21), .long (lI 1)]) (rest := []) rfl (Nat.le_of_ble_eq_true rfl) ⟨by decide, by decide⟩ rfl ⟨by decide, by decide⟩ d_M_whole_39 (k_M_put hfl (a := 21) (n := 1) (hh := bh2) (ll := bl3) (V := va_up V 20 v0.natAbs) (br := br) (hN := hN) (hO := (by rw [va_up_ne _ _ (by decide), va_up_ne _ _ (by decide), va_up_self])) (hB := (by rw [va_up_ne _ _ (by decide), va_up_self])) (hL := (by rw [va_up_self])) (hR := hR7) (ha := by omega) (hn := by decide)) (fun  F3 hq => ?_)
      obtain ⟨bh8, bl9, hR10, eF3⟩ := hq
      refine J_eqF (F2 := va_up (va_up (va_up F 98 (oM ad (va_up f 10 0) v)) 99 (.inl (g 0, 858, .inl (aI bh8)))) 100 (.inl (g 0, 33, .inl (aI bl9)))) (eF3.trans (Eq.trans (congrArg (fun q : Nat → va_E => va_up q 100 (.inl (g 0, 33, .inl (aI bl9)))) (up_in1 (by decide))) (up_in0))) ?_
      have hR13 := reg_w1 (hzz.1 _) hR10
      refine J_aload_n 0 d_M_whole_42 rfl rfl ?_
      refine J_lload_n 2 d_M_whole_43 rfl rfl ?_
      refine J_lconst (v := 0) d_M_whole_44 rfl ?_
      refine J_lcmpge (tgt := 53) d_M_whole_45 d_M_whole_46 (by decide) hv ⟨by omega, by omega⟩ (fun c45 => ?_) (fun c45 => ?_)
      · refine J_iconst d_M_whole_53 ?_
        refine pm_M_129 (by omega) (by rw [va_up_ne _ _ (by decide), va_up_ne _ _ (by decide), va_up_self]) (nb01 (by omega)) d_M_whole_54 ?_
        refine J_eqF (F2 := va_up (va_up (va_up F 98 (oM ad (va_up (va_up f 10 0) 7 0) v)) 99 (.inl (g 0, 858, .inl (aI bh8)))) 100 (.inl (g 0, 33, .inl (aI bl9)))) (up_in2 (by decide) (by decide)) ?_
        refine J_aload_n 0 d_M_whole_57 rfl rfl ?_
        refine J_iconst d_M_whole_58 ?_
        refine J_iload_n 1 d_M_whole_59 rfl rfl ?_
        refine J_topi (r := ((r.toNat : Nat) : Int)) (congrArg iI (by omega)) ?_
        refine J_iconst d_M_whole_60 ?_
        have hD9 := mstd_3 hD0 (f' := va_up (va_up f 10 0) 7 0) (v' := v) hR13 hzz (fun k hk => (show (va_up (va_up V 20 v0.natAbs) 21 1) k = V k from by rw [va_up_ne _ _ (by omega), va_up_ne _ _ (by omega)])) ((va_up_ne _ _ (by decide)).trans (va_up_ne _ _ (by decide))) ((va_up_ne _ _ (by decide)).trans (va_up_ne _ _ (by decide)))
        have hof9 : offM F (va_up (va_up (va_up F 98 (oM ad (va_up (va_up f 10 0) 7 0) v)) 99 (.inl (g 0, 858, .inl (aI bh8)))) 100 (.inl (g 0, 33, .inl (aI bl9)))) := offM_3
        have hc10 : (va_up (va_up f 10 0) 7 0) 10 = 0 := ((va_up_ne _ _ (by decide)).trans (va_up_self ..))
        refine J_callVi cw_M_142 nh_M_store pn_M_store rfl rfl (by omega) (by rw [va_up_ne _ _ (by decide), va_up_ne _ _ (by decide), va_up_self]) (As := [.int (iI 0), .int (iI ((r.toNat : Nat) : Int)), .int (iI 0)]) (rest := []) rfl (Nat.le_of_ble_eq_true rfl) ⟨by decide, by decide⟩ rfl ⟨by decide, by decide⟩ d_M_whole_61 (c_M_store2 hfl (X := v0.natAbs) (Y := 1) (to := r.toNat) (kd := 0) (s := v0.sign) (code := 0) hN hD9 (((va_up_ne _ _ (by decide)).trans (va_up_self ..))) ((va_up_self ..)) (by decide) ((lnw_le (by decide)).mpr (by omega)) (by decide) (blen_le.mpr (by omega)) (by decide) (by decide) (((va_up_self ..)).trans (by rw [if_neg (by omega)])) (by omega) (by omega) (fun _ => Nat.one_dvd _) (fun e => by omega)) (fun z9 F9 hq => ?_)
        obtain ⟨hq9, hoff9⟩ := hq
        replace hoff9 := offM_t hof9 hoff9
        obtain ⟨hz9, hok9, hm9⟩ := stoQ_some hq9 (fin_whole (by omega)) hc10
        refine J_ifne (tgt := 71) d_M_whole_64 (by decide) ⟨by omega, by omega⟩ (fun c64 => ?_) (fun c64 => ?_)
        · exact absurd hz9 c64
        · refine J_iconst d_M_whole_67 ?_
          refine J_goto (tgt := 72) d_M_whole_68 (by decide) ?_
          refine J_iret rfl (nb01 (by omega)).1 d_M_whole_72 ⟨by decide, by decide⟩ ?_
          exact ⟨_, rfl, rfl, rfl, Or.inl ⟨rfl, by omega, hok9, hm9⟩, hoff9⟩
      · exact absurd c45 (by omega)
    · refine J_lload_n 2 d_M_whole_26 rfl rfl ?_
      refine J_lneg d_M_whole_27 ?_
      refine J_goto (tgt := 32) d_M_whole_28 (by decide) ?_
      refine J_topl (r := ((v0.natAbs : Nat) : Int)) (congrArg lI (by omega)) ?_
      refine J_callVv cw_M_82 nh_M_put pn_M_put rfl rfl (by omega) (by rw [va_up_self]) (As := [.int (iI 20), .long (lI ((v0.natAbs : Nat) : Int))]) (rest := []) rfl (Nat.le_of_ble_eq_true rfl) ⟨by decide, by decide⟩ rfl ⟨by decide, by decide⟩ d_M_whole_32 (k_M_put hfl (a := 20) (n := v0.natAbs) (hh := hh) (ll := ll) (V := V) (br := br) (hN := hN) (hO := (by rw [va_up_self])) (hB := (by rw [va_up_ne _ _ (by decide)]; exact hB)) (hL := (by rw [va_up_ne _ _ (by decide)]; exact hL)) (hR := hR) (ha := by omega) (hn := by omega)) (fun  F4 hq => ?_)
      obtain ⟨bh14, bl15, hR16, eF4⟩ := hq
      refine J_eqF (F2 := va_up (va_up (va_up F 98 (oM ad (va_up f 10 0) v)) 99 (.inl (g 0, 858, .inl (aI bh14)))) 100 (.inl (g 0, 33, .inl (aI bl15)))) eF4 ?_
      have hR19 := reg_w1 (hzz.1 _) hR16
      refine J_aload_n 0 d_M_whole_35 rfl rfl ?_
      refine J_bipush d_M_whole_36 (i8_ok (by decide)) ?_
      refine J_lconst (v := 1) d_M_whole_38 rfl ?_
      refine J_callVv cw_M_82 nh_M_put pn_M_put rfl rfl (by omega) (by rw [va_up_ne _ _ (by decide), va_up_ne _ _ (by decide), va_up_self]) (As := [.int (iI 21), .long (lI 1)]) (rest := []) rfl (Nat.le_of_ble_eq_true rfl) ⟨by decide, by decide⟩ rfl ⟨by decide, by decide⟩ d_M_whole_39 (k_M_put hfl (a := 21) (n := 1) (hh := bh14) (ll := bl15) (V := va_up V 20 v0.natAbs) (br := br) (hN := hN) (hO := (by rw [va_up_ne _ _ (by decide), va_up_ne _ _ (by decide), va_up_self])) (hB := (by rw [va_up_ne _ _ (by decide), va_up_self])) (hL := (by rw [va_up_self])) (hR := hR19) (ha := by omega) (hn := by decide)) (fun  F5 hq => ?_)
      obtain ⟨bh20, bl21, hR22, eF5⟩ := hq
      refine J_eqF (F2 := va_up (va_up (va_up F 98 (oM ad (va_up f 10 0) v)) 99 (.inl (g 0, 858, .inl (aI bh20)))) 100 (.inl (g 0, 33, .inl (aI bl21)))) (eF5.trans (Eq.trans (congrArg (fun q : Nat → va_E => va_up q 100 (.inl (g 0, 33, .inl (aI bl21)))) (up_in1 (by decide))) (up_in0))) ?_
      have hR25 := reg_w1 (hzz.1 _) hR22
      refine J_aload_n 0 d_M_whole_42 rfl rfl ?_
      refine J_lload_n 2 d_M_whole_43 rfl rfl ?_
      refine J_lconst (v := 0) d_M_whole_44 rfl ?_
      refine J_lcmpge (tgt := 53) d_M_whole_45 d_M_whole_46 (by decide) hv ⟨by omega, by omega⟩ (fun c45 => ?_) (fun c45 => ?_)
      · exact absurd c45 (by omega)
      · refine J_iconst d_M_whole_49 ?_
        refine J_goto (tgt := 54) d_M_whole_50 (by decide) ?_
        refine pm_M_129 (by omega) (by rw [va_up_ne _ _ (by decide), va_up_ne _ _ (by decide), va_up_self]) (nb01 (by omega)) d_M_whole_54 ?_
        refine J_eqF (F2 := va_up (va_up (va_up F 98 (oM ad (va_up (va_up f 10 0) 7 1) v)) 99 (.inl (g 0, 858, .inl (aI bh20)))) 100 (.inl (g 0, 33, .inl (aI bl21)))) (up_in2 (by decide) (by decide)) ?_
        refine J_aload_n 0 d_M_whole_57 rfl rfl ?_
        refine J_iconst d_M_whole_58 ?_
        refine J_iload_n 1 d_M_whole_59 rfl rfl ?_
        refine J_topi (r := ((r.toNat : Nat) : Int)) (congrArg iI (by omega)) ?_
        refine J_iconst d_M_whole_60 ?_
        have hD9 := mstd_3 hD0 (f' := va_up (va_up f 10 0) 7 1) (v' := v) hR25 hzz (fun k hk => (show (va_up (va_up V 20 v0.natAbs) 21 1) k = V k from by rw [va_up_ne _ _ (by omega), va_up_ne _ _ (by omega)])) ((va_up_ne _ _ (by decide)).trans (va_up_ne _ _ (by decide))) ((va_up_ne _ _ (by decide)).trans (va_up_ne _ _ (by decide)))
        have hof9 : offM F (va_up (va_up (va_up F 98 (oM ad (va_up (va_up f 10 0) 7 1) v)) 99 (.inl (g 0, 858, .inl (aI bh20)))) 100 (.inl (g 0, 33, .inl (aI bl21)))) := offM_3
        have hc10 : (va_up (va_up f 10 0) 7 1) 10 = 0 := ((va_up_ne _ _ (by decide)).trans (va_up_self ..))
        refine J_callVi cw_M_142 nh_M_store pn_M_store rfl rfl (by omega) (by rw [va_up_ne _ _ (by decide), va_up_ne _ _ (by decide), va_up_self]) (As := [.int (iI 0), .int (iI ((r.toNat : Nat) : Int)), .int (iI 0)]) (rest := []) rfl (Nat.le_of_ble_eq_true rfl) ⟨by decide, by decide⟩ rfl ⟨by decide, by decide⟩ d_M_whole_61 (c_M_store2 hfl (X := v0.natAbs) (Y := 1) (to := r.toNat) (kd := 0) (s := v0.sign) (code := 0) hN hD9 (((va_up_ne _ _ (by decide)).trans (va_up_self ..))) ((va_up_self ..)) (by decide) ((lnw_le (by decide)).mpr (by omega)) (by decide) (blen_le.mpr (by omega)) (by decide) (by decide) (((va_up_self ..)).trans (by rw [if_pos (by omega)])) (by omega) (by omega) (fun _ => Nat.one_dvd _) (fun e => by omega)) (fun z9 F9 hq => ?_)
        obtain ⟨hq9, hoff9⟩ := hq
        replace hoff9 := offM_t hof9 hoff9
        obtain ⟨hz9, hok9, hm9⟩ := stoQ_some hq9 (fin_whole (by omega)) hc10
        refine J_ifne (tgt := 71) d_M_whole_64 (by decide) ⟨by omega, by omega⟩ (fun c64 => ?_) (fun c64 => ?_)
        · exact absurd hz9 c64
        · refine J_iconst d_M_whole_67 ?_
          refine J_goto (tgt := 72) d_M_whole_68 (by decide) ?_
          refine J_iret rfl (nb01 (by omega)).1 d_M_whole_72 ⟨by decide, by decide⟩ ?_
          exact ⟨_, rfl, rfl, rfl, Or.inl ⟨rfl, by omega, hok9, hm9⟩, hoff9⟩
  · refine J_iconst d_M_whole_15 ?_
    refine J_eqF (F2 := va_up (va_up F 98 (oM ad (va_up f 10 0) v)) 99 (.inl (g 0, 858, .inl (aI hh)))) (up_same1 (by rw [va_up_ne _ _ (by decide)]; exact hB)) ?_
    refine J_eqF (F2 := va_up (va_up (va_up F 98 (oM ad (va_up f 10 0) v)) 99 (.inl (g 0, 858, .inl (aI hh)))) 100 (.inl (g 0, 33, .inl (aI ll)))) (up_same1 (by rw [va_up_ne _ _ (by decide), va_up_ne _ _ (by decide)]; exact hL)) ?_
    refine J_iret rfl (nb01 (by omega)).1 d_M_whole_16 ⟨by decide, by decide⟩ ?_
    exact ⟨_, rfl, rfl, rfl, Or.inr ⟨rfl, by omega, mst_3 hD0 hR hzz (fun k hk => (show (V) k = V k from by rfl)) (va_up_ne _ _ (by decide)) (va_up_ne _ _ (by decide)) (va_up_self ..)⟩, offM_3⟩
set_option maxRecDepth 100000 in
set_option maxHeartbeats 4000000 in
theorem c_M_real {l : Launch} (hfl : l.flags = flags0) {D : va_G} {g : Nat → ClassId} {ad : Nat → Nat} {N : Nat} {F : Nat → va_E} {R : Nat → Vn} {ln sh : List Nat} {th0 : Int} {r z : Int}
    (hN : 109 ≤ N) (hM : mst ad g R ln sh th0 F) (hr : inI r) (hz : inI z) :
    JC l y_M_real b_M_real 4 (Option.some Jvm.ClassFile.FieldType.boolean) rm_M_real (0, 0) D jCl (jTys g) ad N F [.ref (ad 98), .int (iI r), .double (fd (decide (z < 0)) z.natAbs (-3))] (ji ad N (fun z9 F' => ((z9 = 1 ∧ (0 ≤ r ∧ r ≤ 7) ∧ ∃ w, near z.sign z.natAbs 8 = some w ∧ okv w ∧ mst ad g (va_up R r.toNat w) ln sh 0 F') ∨ (z9 = 0 ∧ ¬(0 ≤ r ∧ r ≤ 7) ∧ mst ad g R ln sh 0 F')) ∧ offM F F')) := by
  obtain ⟨hh, ll, f, v, V, br, kk, bb, rr, lh, xh, dh, tt, hD0, hth⟩ := hM
  have hD := hD0
  obtain ⟨hO, hB, hL, hR, hzz, hKk, hBb, hRr, hmr, h104, h105, h106, h107, hln, hsh⟩ := hD
  have hkI := mR_kI hmr
  have hsg := sign_c z
  obtain ⟨m, e0, hme, hmm, hee, hsu, hisr, hz0, w, hw⟩ := real_me hz
  refine JC.go hfl (own := "NumberTowerModel") (lv := [(0, .ref (ad 98)), (1, .int (iI r)), (2, .double (fd (decide (z < 0)) z.natAbs (-3)))]) rfl (by decide +kernel) (Nat.le_of_ble_eq_true rfl) rfl (fun A => ?_)
  refine J_aload_n 0 d_M_real_0 rfl rfl ?_
  refine J_iconst d_M_real_1 ?_
  refine pm_M_39 (by omega) hO d_M_real_2 ?_
  refine J_iload_n 1 d_M_real_5 rfl rfl ?_
  refine J_iconst d_M_real_6 ?_
  refine J_bipush d_M_real_7 (i8_ok (by decide)) ?_
  refine J_callSi cw_M_138 nh_M_in pn_M_in rfl (As := [.int (iI r), .int (iI 0), .int (iI 7)]) (rest := []) rfl (Nat.le_of_ble_eq_true rfl) ⟨by decide, by decide⟩ rfl ⟨by decide, by decide⟩ d_M_real_9 (c_M_in hfl (a := r) (b := 0) (c := 7) (hr) (by decide) (by decide)) (fun z26 F1 hq => ?_)
  obtain ⟨hz26, eF1⟩ := hq
  refine J_eqF eF1 ?_
  refine J_ifeq (tgt := 33) d_M_real_12 (by decide) ⟨by omega, by omega⟩ (fun c12 => ?_) (fun c12 => ?_)
  · refine J_iconst d_M_real_33 ?_
    refine J_eqF (F2 := va_up (va_up F 98 (oM ad (va_up f 10 0) v)) 99 (.inl (g 0, 858, .inl (aI hh)))) (up_same1 (by rw [va_up_ne _ _ (by decide)]; exact hB)) ?_
    refine J_eqF (F2 := va_up (va_up (va_up F 98 (oM ad (va_up f 10 0) v)) 99 (.inl (g 0, 858, .inl (aI hh)))) 100 (.inl (g 0, 33, .inl (aI ll)))) (up_same1 (by rw [va_up_ne _ _ (by decide), va_up_ne _ _ (by decide)]; exact hL)) ?_
    refine J_iret rfl (nb01 (by omega)).1 d_M_real_34 ⟨by decide, by decide⟩ ?_
    exact ⟨_, rfl, rfl, rfl, Or.inr ⟨rfl, by omega, mst_3 hD0 hR hzz (fun k hk => (show (V) k = V k from by rfl)) (va_up_ne _ _ (by decide)) (va_up_ne _ _ (by decide)) (va_up_self ..)⟩, offM_3⟩
  · refine J_dload_n 2 d_M_real_15 rfl rfl ?_
    refine J_dconst0 d_M_real_16 ?_
    refine J_topd (y := (fd false 0 0)) c_d0 ?_
    refine J_dcmp d_M_real_17 ?_
    refine J_rifge (tgt := 26) d_M_real_18 (by decide) (fun c17 => ?_) (fun c17 => ?_)
    · have hq17 := (rg0 hz).mp c17
      refine J_dload_n 2 d_M_real_26 rfl rfl ?_
      refine J_topd (y := (fd false m e0)) (by rw [show decide (z < 0) = false from decide_eq_false (by omega)]; exact hme) ?_
      refine J_callSi cw_M_108 nh_M_isReal pn_M_isReal rfl (As := [.double (fd false m e0)]) (rest := []) rfl (Nat.le_of_ble_eq_true rfl) ⟨by decide, by decide⟩ rfl ⟨by decide, by decide⟩ d_M_real_27 (c_M_isReal hfl (q := m) (e := e0) ⟨by omega, by omega, by omega⟩ ⟨by omega, by omega⟩) (fun ir F2 hq => ?_)
      obtain ⟨hir, eF2⟩ := hq
      refine J_eqF eF2 ?_
      refine J_ifne (tgt := 35) d_M_real_30 (by decide) ⟨by omega, by omega⟩ (fun c30 => ?_) (fun c30 => ?_)
      · refine J_aload_n 0 d_M_real_35 rfl rfl ?_
        refine J_dload_n 2 d_M_real_36 rfl rfl ?_
        refine J_dconst0 d_M_real_37 ?_
        refine J_topd (y := (fd false 0 0)) c_d0 ?_
        refine J_dcmp d_M_real_38 ?_
        refine J_rifge (tgt := 47) d_M_real_39 (by decide) (fun c38 => ?_) (fun c38 => ?_)
        · refine J_dload_n 2 d_M_real_47 rfl rfl ?_
          refine J_topd (y := (fd false m e0)) (by rw [show decide (z < 0) = false from decide_eq_false (by omega)]; exact hme) ?_
          refine J_bipush d_M_real_48 (i8_ok (by decide)) ?_
          refine J_bipush d_M_real_50 (i8_ok (by decide)) ?_
          refine J_callVv cw_M_114 nh_M_split pn_M_split rfl rfl (by omega) (by rw [va_up_self]) (As := [.double (fd false m e0), .int (iI 20), .int (iI 21)]) (rest := []) rfl (Nat.le_of_ble_eq_true rfl) ⟨by decide, by decide⟩ rfl ⟨by decide, by decide⟩ d_M_real_52 (c_M_split hfl (u := 20) (d := 21) (m := m) (e0 := e0) (hh := hh) (ll := ll) (V := V) (br := br) hN (by rw [va_up_self]) (by rw [va_up_ne _ _ (by decide)]; exact hB) (by rw [va_up_ne _ _ (by decide)]; exact hL) hR hzz (by omega) (by omega) (hzz.2 20 (by decide) (by decide)) (hzz.2 21 (by decide) (by decide)) (by omega) hmm ⟨by omega, by omega⟩) (fun  F3 hq => ?_)
          obtain ⟨bh27, bl28, hR29, eF3⟩ := hq
          refine J_eqF (F2 := va_up (va_up (va_up F 98 (oM ad (va_up f 10 0) v)) 99 (.inl (g 0, 858, .inl (aI bh27)))) 100 (.inl (g 0, 33, .inl (aI bl28)))) eF3 ?_
          refine J_aload_n 0 d_M_real_55 rfl rfl ?_
          refine J_dload_n 2 d_M_real_56 rfl rfl ?_
          refine J_dconst0 d_M_real_57 ?_
          refine J_topd (y := (fd false 0 0)) c_d0 ?_
          refine J_dcmp d_M_real_58 ?_
          refine J_rifge (tgt := 66) d_M_real_59 (by decide) (fun c58 => ?_) (fun c58 => ?_)
          · refine J_iconst d_M_real_66 ?_
            refine pm_M_129 (by omega) (by rw [va_up_ne _ _ (by decide), va_up_ne _ _ (by decide), va_up_self]) (nb01 (by omega)) d_M_real_67 ?_
            refine J_eqF (F2 := va_up (va_up (va_up F 98 (oM ad (va_up (va_up f 10 0) 7 0) v)) 99 (.inl (g 0, 858, .inl (aI bh27)))) 100 (.inl (g 0, 33, .inl (aI bl28)))) (up_in2 (by decide) (by decide)) ?_
            refine J_aload_n 0 d_M_real_70 rfl rfl ?_
            refine J_iconst d_M_real_71 ?_
            refine J_iload_n 1 d_M_real_72 rfl rfl ?_
            refine J_topi (r := ((r.toNat : Nat) : Int)) (congrArg iI (by omega)) ?_
            refine J_iconst d_M_real_73 ?_
            have hD9 := mstd_3 hD0 (f' := va_up (va_up f 10 0) 7 0) (v' := v) hR29 hzz (fun k hk => (show (va_up (va_up V 21 (sd 1 e0)) 20 (su m e0)) k = V k from by rw [va_up_ne _ _ (by omega), va_up_ne _ _ (by omega)])) ((va_up_ne _ _ (by decide)).trans (va_up_ne _ _ (by decide))) ((va_up_ne _ _ (by decide)).trans (va_up_ne _ _ (by decide)))
            have hof9 : offM F (va_up (va_up (va_up F 98 (oM ad (va_up (va_up f 10 0) 7 0) v)) 99 (.inl (g 0, 858, .inl (aI bh27)))) 100 (.inl (g 0, 33, .inl (aI bl28)))) := offM_3
            have hc10 : (va_up (va_up f 10 0) 7 0) 10 = 0 := ((va_up_ne _ _ (by decide)).trans (va_up_self ..))
            refine J_callVi cw_M_142 nh_M_store pn_M_store rfl rfl (by omega) (by rw [va_up_ne _ _ (by decide), va_up_ne _ _ (by decide), va_up_self]) (As := [.int (iI 2), .int (iI ((r.toNat : Nat) : Int)), .int (iI 0)]) (rest := []) rfl (Nat.le_of_ble_eq_true rfl) ⟨by decide, by decide⟩ rfl ⟨by decide, by decide⟩ d_M_real_74 (c_M_store2 hfl (X := su m e0) (Y := sd 1 e0) (to := r.toNat) (kd := 2) (s := z.sign) (code := 0) hN hD9 ((va_up_self ..)) (((va_up_ne _ _ (by decide)).trans (va_up_self ..))) (sd_pos (by decide) _) ((lnw_le (by decide)).mpr (Nat.lt_trans (sus_b (by omega) (by omega)) (by decide))) ((lnw_le (by decide)).mpr (Nat.lt_trans (sds_b (by omega)) (by decide))) (blen_le.mpr (Nat.lt_trans (sus_b (by omega) (by omega)) (by decide))) (blen_le.mpr (Nat.lt_trans (sds_b (by omega)) (by decide))) (by decide) (((va_up_self ..)).trans (by rw [if_neg (by omega)])) (by omega) (by omega) (fun e => absurd e (by decide)) (fun e => by rw [hz0 (by omega)]; exact Nat.zero_mul _)) (fun z9 F9 hq => ?_)
            obtain ⟨hq9, hoff9⟩ := hq
            replace hoff9 := offM_t hof9 hoff9
            obtain ⟨hz9, hok9, hm9⟩ := stoQ_some hq9 (show fin 2 z.sign (su m e0) (sd 1 e0) = some w by unfold fin; rw [if_pos rfl, near_ratio (sd_pos (by decide) _) (by decide) hsu]; exact hw) hc10
            refine J_iconst d_M_real_77 ?_
            refine J_if_icmpne (tgt := 85) d_M_real_78 (by decide) ⟨by omega, by omega⟩ ⟨by omega, by omega⟩ (fun c78 => ?_) (fun c78 => ?_)
            · exact absurd hz9 c78
            · refine J_iconst d_M_real_81 ?_
              refine J_goto (tgt := 86) d_M_real_82 (by decide) ?_
              refine J_iret rfl (nb01 (by omega)).1 d_M_real_86 ⟨by decide, by decide⟩ ?_
              exact ⟨_, rfl, rfl, rfl, Or.inl ⟨rfl, by omega, w, hw, hok9, hm9⟩, hoff9⟩
          · exact absurd c17 c58
        · exact absurd c17 c38
      · exact absurd hisr (by rcases hir with w1 | w1; omega; exact w1.2)
    · have hq17 : z < 0 := by
        have h5 := rg0 hz
        have h6 : ¬ 0 ≤ z := fun w => c17 (h5.mpr w)
        omega
      refine J_dload_n 2 d_M_real_21 rfl rfl ?_
      refine J_dneg d_M_real_22 ?_
      refine J_goto (tgt := 27) d_M_real_23 (by decide) ?_
      refine J_topd (y := (fd false m e0)) (by rw [show decide (z < 0) = true from decide_eq_true (by omega)]; exact fd_neg.trans hme) ?_
      refine J_callSi cw_M_108 nh_M_isReal pn_M_isReal rfl (As := [.double (fd false m e0)]) (rest := []) rfl (Nat.le_of_ble_eq_true rfl) ⟨by decide, by decide⟩ rfl ⟨by decide, by decide⟩ d_M_real_27 (c_M_isReal hfl (q := m) (e := e0) ⟨by omega, by omega, by omega⟩ ⟨by omega, by omega⟩) (fun ir F4 hq => ?_)
      obtain ⟨hir, eF4⟩ := hq
      refine J_eqF eF4 ?_
      refine J_ifne (tgt := 35) d_M_real_30 (by decide) ⟨by omega, by omega⟩ (fun c30 => ?_) (fun c30 => ?_)
      · refine J_aload_n 0 d_M_real_35 rfl rfl ?_
        refine J_dload_n 2 d_M_real_36 rfl rfl ?_
        refine J_dconst0 d_M_real_37 ?_
        refine J_topd (y := (fd false 0 0)) c_d0 ?_
        refine J_dcmp d_M_real_38 ?_
        refine J_rifge (tgt := 47) d_M_real_39 (by decide) (fun c38 => ?_) (fun c38 => ?_)
        · exact absurd c38 c17
        · refine J_dload_n 2 d_M_real_42 rfl rfl ?_
          refine J_dneg d_M_real_43 ?_
          refine J_goto (tgt := 48) d_M_real_44 (by decide) ?_
          refine J_topd (y := (fd false m e0)) (by rw [show decide (z < 0) = true from decide_eq_true (by omega)]; exact fd_neg.trans hme) ?_
          refine J_bipush d_M_real_48 (i8_ok (by decide)) ?_
          refine J_bipush d_M_real_50 (i8_ok (by decide)) ?_
          refine J_callVv cw_M_114 nh_M_split pn_M_split rfl rfl (by omega) (by rw [va_up_self]) (As := [.double (fd false m e0), .int (iI 20), .int (iI 21)]) (rest := []) rfl (Nat.le_of_ble_eq_true rfl) ⟨by decide, by decide⟩ rfl ⟨by decide, by decide⟩ d_M_real_52 (c_M_split hfl (u := 20) (d := 21) (m := m) (e0 := e0) (hh := hh) (ll := ll) (V := V) (br := br) hN (by rw [va_up_self]) (by rw [va_up_ne _ _ (by decide)]; exact hB) (by rw [va_up_ne _ _ (by decide)]; exact hL) hR hzz (by omega) (by omega) (hzz.2 20 (by decide) (by decide)) (hzz.2 21 (by decide) (by decide)) (by omega) hmm ⟨by omega, by omega⟩) (fun  F5 hq => ?_)
          obtain ⟨bh30, bl31, hR32, eF5⟩ := hq
          refine J_eqF (F2 := va_up (va_up (va_up F 98 (oM ad (va_up f 10 0) v)) 99 (.inl (g 0, 858, .inl (aI bh30)))) 100 (.inl (g 0, 33, .inl (aI bl31)))) eF5 ?_
          refine J_aload_n 0 d_M_real_55 rfl rfl ?_
          refine J_dload_n 2 d_M_real_56 rfl rfl ?_
          refine J_dconst0 d_M_real_57 ?_
          refine J_topd (y := (fd false 0 0)) c_d0 ?_
          refine J_dcmp d_M_real_58 ?_
          refine J_rifge (tgt := 66) d_M_real_59 (by decide) (fun c58 => ?_) (fun c58 => ?_)
          · exact absurd c58 c17
          · refine J_iconst d_M_real_62 ?_
            refine J_goto (tgt := 67) d_M_real_63 (by decide) ?_
            refine pm_M_129 (by omega) (by rw [va_up_ne _ _ (by decide), va_up_ne _ _ (by decide), va_up_self]) (nb01 (by omega)) d_M_real_67 ?_
            refine J_eqF (F2 := va_up (va_up (va_up F 98 (oM ad (va_up (va_up f 10 0) 7 1) v)) 99 (.inl (g 0, 858, .inl (aI bh30)))) 100 (.inl (g 0, 33, .inl (aI bl31)))) (up_in2 (by decide) (by decide)) ?_
            refine J_aload_n 0 d_M_real_70 rfl rfl ?_
            refine J_iconst d_M_real_71 ?_
            refine J_iload_n 1 d_M_real_72 rfl rfl ?_
            refine J_topi (r := ((r.toNat : Nat) : Int)) (congrArg iI (by omega)) ?_
            refine J_iconst d_M_real_73 ?_
            have hD9 := mstd_3 hD0 (f' := va_up (va_up f 10 0) 7 1) (v' := v) hR32 hzz (fun k hk => (show (va_up (va_up V 21 (sd 1 e0)) 20 (su m e0)) k = V k from by rw [va_up_ne _ _ (by omega), va_up_ne _ _ (by omega)])) ((va_up_ne _ _ (by decide)).trans (va_up_ne _ _ (by decide))) ((va_up_ne _ _ (by decide)).trans (va_up_ne _ _ (by decide)))
            have hof9 : offM F (va_up (va_up (va_up F 98 (oM ad (va_up (va_up f 10 0) 7 1) v)) 99 (.inl (g 0, 858, .inl (aI bh30)))) 100 (.inl (g 0, 33, .inl (aI bl31)))) := offM_3
            have hc10 : (va_up (va_up f 10 0) 7 1) 10 = 0 := ((va_up_ne _ _ (by decide)).trans (va_up_self ..))
            refine J_callVi cw_M_142 nh_M_store pn_M_store rfl rfl (by omega) (by rw [va_up_ne _ _ (by decide), va_up_ne _ _ (by decide), va_up_self]) (As := [.int (iI 2), .int (iI ((r.toNat : Nat) : Int)), .int (iI 0)]) (rest := []) rfl (Nat.le_of_ble_eq_true rfl) ⟨by decide, by decide⟩ rfl ⟨by decide, by decide⟩ d_M_real_74 (c_M_store2 hfl (X := su m e0) (Y := sd 1 e0) (to := r.toNat) (kd := 2) (s := z.sign) (code := 0) hN hD9 ((va_up_self ..)) (((va_up_ne _ _ (by decide)).trans (va_up_self ..))) (sd_pos (by decide) _) ((lnw_le (by decide)).mpr (Nat.lt_trans (sus_b (by omega) (by omega)) (by decide))) ((lnw_le (by decide)).mpr (Nat.lt_trans (sds_b (by omega)) (by decide))) (blen_le.mpr (Nat.lt_trans (sus_b (by omega) (by omega)) (by decide))) (blen_le.mpr (Nat.lt_trans (sds_b (by omega)) (by decide))) (by decide) (((va_up_self ..)).trans (by rw [if_pos (by omega)])) (by omega) (by omega) (fun e => absurd e (by decide)) (fun e => by rw [hz0 (by omega)]; exact Nat.zero_mul _)) (fun z9 F9 hq => ?_)
            obtain ⟨hq9, hoff9⟩ := hq
            replace hoff9 := offM_t hof9 hoff9
            obtain ⟨hz9, hok9, hm9⟩ := stoQ_some hq9 (show fin 2 z.sign (su m e0) (sd 1 e0) = some w by unfold fin; rw [if_pos rfl, near_ratio (sd_pos (by decide) _) (by decide) hsu]; exact hw) hc10
            refine J_iconst d_M_real_77 ?_
            refine J_if_icmpne (tgt := 85) d_M_real_78 (by decide) ⟨by omega, by omega⟩ ⟨by omega, by omega⟩ (fun c78 => ?_) (fun c78 => ?_)
            · exact absurd hz9 c78
            · refine J_iconst d_M_real_81 ?_
              refine J_goto (tgt := 86) d_M_real_82 (by decide) ?_
              refine J_iret rfl (nb01 (by omega)).1 d_M_real_86 ⟨by decide, by decide⟩ ?_
              exact ⟨_, rfl, rfl, rfl, Or.inl ⟨rfl, by omega, w, hw, hok9, hm9⟩, hoff9⟩
      · exact absurd hisr (by rcases hir with w1 | w1; omega; exact w1.2)
