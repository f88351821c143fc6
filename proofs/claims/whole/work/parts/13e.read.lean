/-! the Model: read -/
theorem near_none {s : Int} {X Y : Nat} (hX : 0 < X) (hY : 0 < Y) (h : 108 + blen X ≤ blen Y ∨ blen Y + 114 ≤ blen X) : near s X Y = none :=
  (near_isR hX hY).2 (far_isR hX hY rfl (by omega))
theorem readF_clm {k s t : Int} {u d : Nat} (hd : 0 < d) (hu : u < 16 ^ 40) (ht : k ≠ 2 → t = 0) (h1 : k ≠ 1 → d = 1) : fin k s (u * 10 ^ (clm t).toNat) (d * 10 ^ (-clm t).toNat) = readF k s u d t := by
  unfold readF
  by_cases c : k = 2 ∧ u ≠ 0
  · obtain ⟨rfl, c2⟩ := c
    rw [if_pos ⟨rfl, c2⟩]
    have hd1 : d = 1 := h1 (by decide)
    subst hd1
    show near s _ _ = _
    by_cases b : 40 < t ∨ t < -80
    · rw [if_pos b]
      rcases b with b | b
      · have e1 : (-clm t).toNat = 0 := by unfold clm; split; decide; (split <;> omega)
        have e2 : 41 ≤ (clm t).toNat := by unfold clm; split; decide; (split <;> omega)
        rw [e1]
        have b1 : (10 : Nat) ^ 41 ≤ 10 ^ (clm t).toNat := Nat.pow_le_pow_right (by decide) e2
        have b2 : 10 ^ (clm t).toNat ≤ u * 10 ^ (clm t).toNat := Nat.le_mul_of_pos_left _ (by omega)
        have b3 : ¬ blen (u * 10 ^ (clm t).toNat) ≤ 136 := fun z => by
          have h9 := blen_le.mp z
          have h8 : (2 : Nat) ^ 136 ≤ 10 ^ 41 := by decide +kernel
          omega
        have b4 : blen (1 * 10 ^ 0) ≤ 1 := blen_le.mpr (by decide)
        exact near_none (by omega) (by decide) (Or.inr (by omega))
      · have e1 : (clm t).toNat = 0 := by unfold clm; split; omega; (split; decide; omega)
        have e2 : 81 ≤ (-clm t).toNat := by unfold clm; split; omega; (split; decide; omega)
        rw [e1, Nat.pow_zero, Nat.mul_one, Nat.one_mul]
        have b1 : (10 : Nat) ^ 81 ≤ 10 ^ (-clm t).toNat := Nat.pow_le_pow_right (by decide) e2
        have b3 : ¬ blen (10 ^ (-clm t).toNat) ≤ 268 := fun z => by
          have h9 := blen_le.mp z
          have h8 : (2 : Nat) ^ 268 ≤ 10 ^ 81 := by decide +kernel
          omega
        have b4 : blen u ≤ 160 := blen_le.mpr (Nat.lt_of_lt_of_le hu (by decide))
        exact near_none (by omega) (Nat.pow_pos (by decide)) (Or.inl (by omega))
    · rw [if_neg b]
      have e1 : clm t = t := by unfold clm; rw [if_neg (by omega), if_neg (by omega)]
      rw [e1]
      rfl
  · rw [if_neg c]
    by_cases c2 : k = 2
    · have c3 : u = 0 := by
        apply Classical.byContradiction
        intro h
        exact c ⟨c2, h⟩
      subst c2 c3
      have hf : ∀ X Y, fin 2 s X Y = near s X Y := fun _ _ => if_pos rfl
      rw [hf, hf]
      unfold near
      rw [Nat.zero_mul, if_pos rfl, if_pos rfl]
    · have e0 : t = 0 := ht c2
      subst e0
      rw [show clm 0 = 0 from rfl]
      show fin k s (u * 1) (d * 1) = _
      rw [Nat.mul_one, Nat.mul_one]
def psv (w : List Nat) : Int := if chr w 0 = 45 then -1 else 1
/-- what read does with a line and a register -/
def readO (w : List Nat) (r : Int) : Sum Int Vn :=
  if 0 ≤ r ∧ r ≤ 7 then (match prs w with
    | none => .inl 0
    | some (k, u, d, t) => if d = 0 then .inl 1 else optO (readF k (psv w) u d t)) else .inl 0
theorem readO_n {w : List Nat} {r : Int} (h : prs w = none) : readO w r = .inl 0 := by
  unfold readO
  rw [h]
  split <;> rfl
theorem readO_out {w : List Nat} {r : Int} (h : ¬(0 ≤ r ∧ r ≤ 7)) : readO w r = .inl 0 := if_neg h
theorem readO_z {w : List Nat} {r k t : Int} {u d : Nat} (hr : 0 ≤ r ∧ r ≤ 7) (h : prs w = some (k, u, d, t)) (hd : d = 0) : readO w r = .inl 1 := by
  unfold readO
  rw [if_pos hr, h]
  exact if_pos hd
theorem readO_s {w : List Nat} {r k t : Int} {u d : Nat} (hr : 0 ≤ r ∧ r ≤ 7) (h : prs w = some (k, u, d, t)) (hd : d ≠ 0) : readO w r = optO (readF k (psv w) u d t) := by
  unfold readO
  rw [if_pos hr, h]
  exact if_neg hd
theorem mstd_l {ad : Nat → Nat} {g : Nat → ClassId} {R : Nat → Vn} {ln sh : List Nat} {F : Nat → va_E} {hh ll f : Nat → Int} {v : UInt64} {V br : Nat → Nat} {kk bb : Nat → Int} {rr : Nat → UInt64} {lh xh dh th : Nat → Int} (h : mstd ad g R ln sh F hh ll f v V br kk bb rr lh xh dh th)
    {hh' ll' f' : Nat → Int} {v' : UInt64} {W br' : Nat → Nat} (hR : reg br' hh' ll' W) (hz : okB br') (hW : ∀ k, k < 16 → W k = V k) (hf12 : f' 12 = 0) (hf14 : f' 14 = f 14) : mstd ad g R [] sh (va_up (va_up (va_up F 98 (oM ad f' v')) 99 (aB g hh')) 100 (aL g ll')) hh' ll' f' v' W br' kk bb rr lh xh dh th := by
  obtain ⟨a1, a2, a3, a4, a5, a6, a7, a8, a9, b1, b2, b3, b4, ⟨c1, c2, c3⟩, d1, d2, d3⟩ := h
  refine ⟨rfl, rfl, rfl, hR, hz, a6, a7, a8, mR_fr a9 hW, b1, b2, b3, b4, ⟨fun j hj => absurd hj (Nat.not_lt_zero _), hf12, Nat.zero_le _, fun c hc => absurd hc (List.not_mem_nil)⟩, d1, hf14.trans d2, d3⟩
theorem t504 {x : Nat} {p : Nat} (h : x < 16 ^ 40) (hp : p ≤ 90) : x * 10 ^ p < 2 ^ 504 :=
  Nat.lt_of_lt_of_le (Nat.mul_lt_mul_of_lt_of_le h (Nat.pow_le_pow_right (by decide) hp : 10 ^ p ≤ 10 ^ 90) (Nat.pow_pos (by decide))) (by decide +kernel)
theorem t504b {p : Nat} (hp : p ≤ 110) : 1 * 10 ^ p < 2 ^ 504 := by
  rw [Nat.one_mul]
  exact Nat.lt_of_le_of_lt (Nat.pow_le_pow_right (by decide) hp) (by decide +kernel)
theorem clm_b (t : Int) : -110 ≤ clm t ∧ clm t ≤ 70 := by
  unfold clm
  split
  · decide
  · split
    · decide
    · omega
set_option maxRecDepth 100000 in
set_option maxHeartbeats 4000000 in
theorem c_M_read {l : Launch} (hfl : l.flags = flags0) {D : va_G} {g : Nat → ClassId} {ad : Nat → Nat} {N : Nat} {F : Nat → va_E} {R : Nat → Vn} {ln sh : List Nat} {th0 : Int} {r : Int}
    (hN : 109 ≤ N) (hM : mst ad g R ln sh th0 F) (hr : inI r) :
    JC l y_M_read b_M_read 3 (Option.some Jvm.ClassFile.FieldType.int) rm_M_read (0, 0) D jCl (jTys g) ad N F [.ref (ad 98), .int (iI r)] (ji ad N (fun z F' => msto ad g R [] sh (fun k => k + 1) r (readO ln r) z F' ∧ offM F F')) := by
  obtain ⟨hh, ll, f, v, V, br, kk, bb, rr, lh, xh, dh, tt, hD0, hth⟩ := hM
  have hD := hD0
  obtain ⟨hO, hB, hL, hR, hzz, hKk, hBb, hRr, hmr, h104, h105, h106, h107, hln, hsh⟩ := hD
  have hkI := mR_kI hmr
  refine JC.go hfl (own := "NumberTowerModel") (lv := [(0, .ref (ad 98)), (1, .int (iI r))]) rfl (by decide +kernel) (Nat.le_of_ble_eq_true rfl) rfl (fun A => ?_)
  refine J_aload_n 0 d_M_read_0 rfl rfl ?_
  refine J_iconst d_M_read_1 ?_
  refine pm_M_39 (by omega) hO d_M_read_2 ?_
  refine J_iload_n 1 d_M_read_5 rfl rfl ?_
  refine J_iconst d_M_read_6 ?_
  refine J_bipush d_M_read_7 (i8_ok (by decide)) ?_
  refine J_callSi cw_M_138 nh_M_in pn_M_in rfl (As := [.int (iI r), .int (iI 0), .int (iI 7)]) (rest := []) rfl (Nat.le_of_ble_eq_true rfl) ⟨by decide, by decide⟩ rfl ⟨by decide, by decide⟩ d_M_read_9 (c_M_in hfl (a := r) (b := 0) (c := 7) (hr) (by decide) (by decide)) (fun za F1 hq => ?_)
  obtain ⟨hza, eF1⟩ := hq
  refine J_eqF eF1 ?_
  refine J_ifeq (tgt := 22) d_M_read_12 (by decide) ⟨by omega, by omega⟩ (fun c12 => ?_) (fun c12 => ?_)
  · refine J_iconst d_M_read_22 ?_
    refine J_istore_n (lv' := [(2, .int (iI (-1))), (0, .ref (ad 98)), (1, .int (iI r))]) d_M_read_23 rfl (by decide) rfl ?_
    refine J_aload_n 1 d_M_read_24 rfl rfl ?_
    refine J_iconst d_M_read_25 ?_
    refine pm_M_241 (by omega) (by rw [va_up_self]) d_M_read_26 ?_
    refine J_eqF (F2 := va_up F 98 (oM ad (va_up (va_up f 10 0) 12 0) v)) (up_in0) ?_
    refine J_iload_n 0 d_M_read_29 rfl rfl ?_
    refine J_ifge (tgt := 39) d_M_read_30 (by decide) ⟨by omega, by omega⟩ (fun c30 => ?_) (fun c30 => ?_)
    · exact absurd c30 (by decide)
    · refine J_aload_n 1 d_M_read_33 rfl rfl ?_
      refine J_iconst d_M_read_34 ?_
      refine J_callVi cw_M_135 nh_M_fail pn_M_fail rfl rfl (by omega) (by rw [va_up_self]) (As := [.int (iI 1)]) (rest := []) rfl (Nat.le_of_ble_eq_true rfl) ⟨by decide, by decide⟩ rfl ⟨by decide, by decide⟩ d_M_read_35 (c_M_fail hfl (code := 1) (f := va_up (va_up f 10 0) 12 0) (v := v) hN (by rw [va_up_self])) (fun z1 F2 hq => ?_)
      obtain ⟨hz1, eF2⟩ := hq
      refine J_eqF (F2 := va_up F 98 (oM ad (va_up (va_up f 10 1) 12 0) v)) ((eF2.trans (congrArg (fun qq : Nat → Int => va_up (va_up F 98 (oM ad (va_up (va_up f 10 0) 12 0) v)) 98 (oM ad qq v)) (up_in1 (by decide)))).trans (up_in0)) ?_
      refine J_topi (r := 0) (congrArg iI hz1) ?_
      refine J_eqF (F2 := va_up (va_up F 98 (oM ad (va_up (va_up f 10 1) 12 0) v)) 99 (.inl (g 0, 858, .inl (aI hh)))) (up_same1 (by rw [va_up_ne _ _ (by decide)]; exact hB)) ?_
      refine J_eqF (F2 := va_up (va_up (va_up F 98 (oM ad (va_up (va_up f 10 1) 12 0) v)) 99 (.inl (g 0, 858, .inl (aI hh)))) 100 (.inl (g 0, 33, .inl (aI ll)))) (up_same1 (by rw [va_up_ne _ _ (by decide), va_up_ne _ _ (by decide)]; exact hL)) ?_
      refine J_iret rfl rfl d_M_read_38 ⟨by decide, by decide⟩ ?_
      exact ⟨_, rfl, rfl, rfl, Or.inl ⟨0, readO_out (by omega), rfl, ⟨_, _, _, _, _, _, _, _, _, _, _, _, _, mstd_l hD0 (f' := va_up (va_up f 10 1) 12 0) (v' := v) hR hzz (fun k hk => (show (V) k = V k from by rfl)) (va_up_self ..) ((va_up_ne _ _ (by decide)).trans (va_up_ne _ _ (by decide))), ((va_up_ne _ _ (by decide)).trans (va_up_self ..))⟩⟩, offM_3⟩
  · refine J_aload_n 0 d_M_read_15 rfl rfl ?_
    refine J_callVi cw_M_261 nh_M_parsed pn_M_parsed rfl rfl (by omega) (by rw [va_up_self]) (As := []) (rest := []) rfl (Nat.le_of_ble_eq_true rfl) ⟨by decide, by decide⟩ rfl ⟨by decide, by decide⟩ d_M_read_16 (c_M_parsed hfl (f := va_up f 10 0) (v := v) (lh := lh) (ln := ln) (hh := hh) (ll := ll) (V := V) (br := br) hN (by rw [va_up_self]) (by rw [va_up_ne _ _ (by decide)]; exact h104) hln.1 ((va_up_ne _ _ (by decide)).trans hln.2.1) hln.2.2.1 hln.2.2.2 (by rw [va_up_ne _ _ (by decide)]; exact hB) (by rw [va_up_ne _ _ (by decide)]; exact hL) hR hzz) (fun zk F3 hq => ?_)
    obtain ⟨bh9, bl9, f9, W9, hR9, hW9, hf9, hpo, hf7, eF3⟩ := hq
    refine J_eqF (F2 := va_up (va_up (va_up F 98 (oM ad f9 v)) 99 (.inl (g 0, 858, .inl (aI bh9)))) 100 (.inl (g 0, 33, .inl (aI bl9)))) (eF3.trans (congrArg (fun q : Nat → va_E => va_up q 100 (.inl (g 0, 33, .inl (aI bl9)))) (congrArg (fun q : Nat → va_E => va_up q 99 (.inl (g 0, 858, .inl (aI bh9)))) (up_in0)))) ?_
    have hzkb : -1 ≤ zk ∧ zk ≤ 2 := by
      rcases hpo with w | ⟨k, u, d, t, w1, w2, w3, w4⟩
      · omega
      · omega
    replace hpo : hold _ := hpo
    refine J_goto (tgt := 23) d_M_read_19 (by decide) ?_
    refine J_istore_n (lv' := [(2, .int (iI zk)), (0, .ref (ad 98)), (1, .int (iI r))]) d_M_read_23 rfl (by decide) rfl ?_
    refine J_aload_n 1 d_M_read_24 rfl rfl ?_
    refine J_iconst d_M_read_25 ?_
    refine pm_M_241 (by omega) (by rw [va_up_ne _ _ (by decide), va_up_ne _ _ (by decide), va_up_self]) d_M_read_26 ?_
    refine J_eqF (F2 := va_up (va_up (va_up F 98 (oM ad (va_up f9 12 0) v)) 99 (.inl (g 0, 858, .inl (aI bh9)))) 100 (.inl (g 0, 33, .inl (aI bl9)))) (up_in2 (by decide) (by decide)) ?_
    refine J_iload_n 0 d_M_read_29 rfl rfl ?_
    refine J_ifge (tgt := 39) d_M_read_30 (by decide) ⟨by omega, by omega⟩ (fun c30 => ?_) (fun c30 => ?_)
    · have hin : 0 ≤ r ∧ r ≤ 7 := by omega
      obtain ⟨k, u, d, t, hpk, hzk, hkr, hU, hD, hub, hdb, hkt, hkd⟩ : ∃ (k : Int) (u d : Nat) (t : Int), prs ln = some (k, u, d, t) ∧ zk = k ∧ (0 ≤ k ∧ k ≤ 2) ∧ W9 20 = u * 10 ^ (clm t).toNat ∧ W9 21 = d * 10 ^ (-clm t).toNat ∧ u < 16 ^ 40 ∧ d < 16 ^ 40 ∧ (k ≠ 2 → t = 0) ∧ (k ≠ 1 → d = 1) := by
        rcases hpo with w | w
        · omega
        · exact w
      subst hzk
      have htb := clm_b t
      replace hkt : hold _ := hkt
      replace hkd : hold _ := hkd
      refine J_aload_n 1 d_M_read_39 rfl rfl ?_
      refine J_bipush d_M_read_40 (i8_ok (by decide)) ?_
      refine J_callVi cw_M_75 nh_M_zero pn_M_zero rfl rfl (by omega) (by rw [va_up_ne _ _ (by decide), va_up_ne _ _ (by decide), va_up_self]) (As := [.int (iI 21)]) (rest := []) rfl (Nat.le_of_ble_eq_true rfl) ⟨by decide, by decide⟩ rfl ⟨by decide, by decide⟩ d_M_read_42 (k_M_zero hfl (a := 21) (hh := bh9) (ll := bl9) (V := W9) (br := br) (hN := hN) (hO := (by rw [va_up_ne _ _ (by decide), va_up_ne _ _ (by decide), va_up_self])) (hB := (by rw [va_up_ne _ _ (by decide), va_up_self])) (hL := (by rw [va_up_self])) (hR := hR9) (ha := by omega) (hxa := hD) (bra := (hzz.2 21 (by decide) (by decide)))) (fun z2 F4 hq => ?_)
      obtain ⟨hz2, eF4⟩ := hq
      refine J_eqF eF4 ?_
      refine J_ifeq (tgt := 54) d_M_read_45 (by decide) ⟨by omega, by omega⟩ (fun c45 => ?_) (fun c45 => ?_)
      · have hz9 : ¬(d * 10 ^ (-clm t).toNat = 0) := by omega
        have hd0 : d ≠ 0 := fun w => absurd hz9 (by rw [w, Nat.zero_mul]; simp)
        have hYs : d * 10 ^ (-clm t).toNat < 2 ^ 504 := by
          by_cases w : zk = 1
          · have w2 : t = 0 := (show zk ≠ 2 → t = 0 from hkt) (by omega)
            rw [w2]; exact t504 hdb (by decide)
          · rw [(show zk ≠ 1 → d = 1 from hkd) w]; exact t504b (by omega)
        have hXs : u * 10 ^ (clm t).toNat < 2 ^ 504 := t504 hub (by omega)
        have hdv : zk = 0 → d * 10 ^ (-clm t).toNat ∣ u * 10 ^ (clm t).toNat := fun w => by
          rw [(show zk ≠ 1 → d = 1 from hkd) (by omega), (show zk ≠ 2 → t = 0 from hkt) (by omega)]; exact ⟨_, (Nat.one_mul _).symm⟩
        refine J_aload_n 1 d_M_read_54 rfl rfl ?_
        refine J_iload_n 0 d_M_read_55 rfl rfl ?_
        refine J_iload_n 2 d_M_read_56 rfl rfl ?_
        refine J_topi (r := ((r.toNat : Nat) : Int)) (congrArg iI (by omega)) ?_
        refine J_iconst d_M_read_57 ?_
        have hD9 := mstd_l hD0 (f' := va_up f9 12 0) (v' := v) hR9 hzz (fun k hk => ((show (W9) k = W9 k from by rfl).trans ((hW9 k (by omega) (by omega)).trans (show (V) k = V k from by rfl)))) (va_up_self ..) ((va_up_ne _ _ (by decide)).trans (((hf9 _ (by omega) (by omega) (by omega))).trans (va_up_ne _ _ (by decide))))
        have hof9 : offM F (va_up (va_up (va_up F 98 (oM ad (va_up f9 12 0) v)) 99 (.inl (g 0, 858, .inl (aI bh9)))) 100 (.inl (g 0, 33, .inl (aI bl9)))) := offM_3
        have hc10 : (va_up f9 12 0) 10 = 0 := ((va_up_ne _ _ (by decide)).trans (((hf9 _ (by omega) (by omega) (by omega))).trans (va_up_self ..)))
        refine J_callVi cw_M_142 nh_M_store pn_M_store rfl rfl (by omega) (by rw [va_up_ne _ _ (by decide), va_up_ne _ _ (by decide), va_up_self]) (As := [.int (iI zk), .int (iI ((r.toNat : Nat) : Int)), .int (iI 3)]) (rest := []) rfl (Nat.le_of_ble_eq_true rfl) ⟨by decide, by decide⟩ rfl ⟨by decide, by decide⟩ d_M_read_58 (c_M_store2 hfl (X := (u * 10 ^ (clm t).toNat)) (Y := (d * 10 ^ (-clm t).toNat)) (to := r.toNat) (kd := zk) (s := psv ln) (code := 3) hN hD9 (hU) (hD) (Nat.mul_pos (by omega) (Nat.pow_pos (by decide))) ((lnw_le (by decide)).mpr (hXs)) ((lnw_le (by decide)).mpr (hYs)) (blen_le.mpr hXs) (blen_le.mpr hYs) hkr (Eq.trans ((((va_up_ne _ _ (by decide)).trans hf7))) (by unfold psv; split <;> rfl)) (by unfold psv; split <;> decide) (by omega) hdv (fun w => by unfold psv at w; split at w <;> omega)) (fun z9 F9 hq => ?_)
        obtain ⟨hq9, hoff9⟩ := hq
        replace hoff9 := offM_t hof9 hoff9
        refine J_iret rfl rfl d_M_read_61 ⟨by decide, by decide⟩ ?_
        exact ⟨_, rfl, rfl, rfl, msto_i (by rw [readO_s hin hpk hd0, ← readF_clm (by omega) hub hkt hkd]) rfl hc10 hq9, hoff9⟩
      · have hz9 : d * 10 ^ (-clm t).toNat = 0 := by omega
        refine J_aload_n 1 d_M_read_48 rfl rfl ?_
        refine J_iconst d_M_read_49 ?_
        refine J_callVi cw_M_135 nh_M_fail pn_M_fail rfl rfl (by omega) (by rw [va_up_ne _ _ (by decide), va_up_ne _ _ (by decide), va_up_self]) (As := [.int (iI 2)]) (rest := []) rfl (Nat.le_of_ble_eq_true rfl) ⟨by decide, by decide⟩ rfl ⟨by decide, by decide⟩ d_M_read_50 (c_M_fail hfl (code := 2) (f := va_up f9 12 0) (v := v) hN (by rw [va_up_ne _ _ (by decide), va_up_ne _ _ (by decide), va_up_self])) (fun z3 F5 hq => ?_)
        obtain ⟨hz3, eF5⟩ := hq
        refine J_eqF (F2 := va_up (va_up (va_up F 98 (oM ad (va_up (va_up f9 12 0) 10 2) v)) 99 (.inl (g 0, 858, .inl (aI bh9)))) 100 (.inl (g 0, 33, .inl (aI bl9)))) (eF5.trans (up_in2 (by decide) (by decide))) ?_
        refine J_topi (r := 0) (congrArg iI hz3) ?_
        refine J_iret rfl rfl d_M_read_53 ⟨by decide, by decide⟩ ?_
        refine ⟨_, rfl, rfl, rfl, Or.inl ⟨1, readO_z hin hpk ?_, rfl, ⟨_, _, _, _, _, _, _, _, _, _, _, _, _, mstd_l hD0 (f' := va_up (va_up f9 12 0) 10 2) (v' := v) hR9 hzz (fun k hk => ((show (W9) k = W9 k from by rfl).trans ((hW9 k (by omega) (by omega)).trans (show (V) k = V k from by rfl)))) ((va_up_ne _ _ (by decide)).trans (va_up_self ..)) ((va_up_ne _ _ (by decide)).trans ((va_up_ne _ _ (by decide)).trans (((hf9 _ (by omega) (by omega) (by omega))).trans (va_up_ne _ _ (by decide))))), (va_up_self ..)⟩⟩, offM_3⟩
        rcases Nat.mul_eq_zero.mp hz9 with w | w
        · exact w
        · exact absurd w (Nat.ne_of_gt (Nat.pow_pos (by decide)))
    · refine J_aload_n 1 d_M_read_33 rfl rfl ?_
      refine J_iconst d_M_read_34 ?_
      refine J_callVi cw_M_135 nh_M_fail pn_M_fail rfl rfl (by omega) (by rw [va_up_ne _ _ (by decide), va_up_ne _ _ (by decide), va_up_self]) (As := [.int (iI 1)]) (rest := []) rfl (Nat.le_of_ble_eq_true rfl) ⟨by decide, by decide⟩ rfl ⟨by decide, by decide⟩ d_M_read_35 (c_M_fail hfl (code := 1) (f := va_up f9 12 0) (v := v) hN (by rw [va_up_ne _ _ (by decide), va_up_ne _ _ (by decide), va_up_self])) (fun z4 F6 hq => ?_)
      obtain ⟨hz4, eF6⟩ := hq
      refine J_eqF (F2 := va_up (va_up (va_up F 98 (oM ad (va_up (va_up f9 12 0) 10 1) v)) 99 (.inl (g 0, 858, .inl (aI bh9)))) 100 (.inl (g 0, 33, .inl (aI bl9)))) (eF6.trans (up_in2 (by decide) (by decide))) ?_
      refine J_topi (r := 0) (congrArg iI hz4) ?_
      refine J_iret rfl rfl d_M_read_38 ⟨by decide, by decide⟩ ?_
      refine ⟨_, rfl, rfl, rfl, Or.inl ⟨0, readO_n ?_, rfl, ⟨_, _, _, _, _, _, _, _, _, _, _, _, _, mstd_l hD0 (f' := va_up (va_up f9 12 0) 10 1) (v' := v) hR9 hzz (fun k hk => ((show (W9) k = W9 k from by rfl).trans ((hW9 k (by omega) (by omega)).trans (show (V) k = V k from by rfl)))) ((va_up_ne _ _ (by decide)).trans (va_up_self ..)) ((va_up_ne _ _ (by decide)).trans ((va_up_ne _ _ (by decide)).trans (((hf9 _ (by omega) (by omega) (by omega))).trans (va_up_ne _ _ (by decide))))), (va_up_self ..)⟩⟩, offM_3⟩
      rcases hpo with w | ⟨k, u, d, t, w1, w2, w3, w4⟩
      · exact w.1
      · omega
