/-! the Model: the hash of a register -/
def hold (P : Prop) : Prop := P
def powY (kd : Int) (Y : Nat) : Prop := kd = 2 → ∃ e, Y = 2 ^ e
theorem mR_kI {kk bb : Nat → Int} {rr : Nat → UInt64} {V : Nat → Nat} {R : Nat → Vn} (h : mR kk bb rr V R) : ∀ j, j < 8 → -1 ≤ kk j ∧ kk j ≤ 2 := by
  intro j hj
  obtain ⟨h1, h2, h3, h4⟩ := h j hj
  rw [h2]
  rcases h1 with q | q
  · rw [q]; decide
  · omega
theorem mreg_fr {kk bb : Nat → Int} {rr : Nat → UInt64} {V W : Nat → Nat} {r : Nat} {kd s : Int} {u d : Nat} (h : mreg kk bb rr V r kd s u d) (hr : r < 8) (hW : ∀ k, k < 16 → W k = V k) : mreg kk bb rr W r kd s u d := by
  obtain ⟨m1, m2, m3, m4⟩ := h
  refine ⟨m1, m2, ?_, ?_⟩
  · rw [hW _ (by omega), hW _ (by omega)]; exact m3
  · rw [hW _ (by omega), hW _ (by omega)]; exact m4
theorem regV_no {kk bb : Nat → Int} {rr : Nat → UInt64} {V : Nat → Nat} {R : Nat → Vn} (h : mR kk bb rr V R) {a : Int} (hn : ¬((0 ≤ a ∧ a ≤ 7) ∧ 0 ≤ kk a.toNat)) : (regV R a).1 = -1 := by
  by_cases q : 0 ≤ a ∧ a ≤ 7
  · rw [regV_in q]
    obtain ⟨h1, h2, h3, h4⟩ := h a.toNat (by omega)
    rcases h1 with w | w
    · exact w
    · omega
  · rw [regV_out q]
theorem regV_yes {kk bb : Nat → Int} {rr : Nat → UInt64} {V : Nat → Nat} {R : Nat → Vn} (h : mR kk bb rr V R) {a : Int} (hn : (0 ≤ a ∧ a ≤ 7) ∧ 0 ≤ kk a.toNat) : (regV R a).1 ≠ -1 := by
  rw [regV_in hn.1]
  obtain ⟨h1, h2, h3, h4⟩ := h a.toNat (by omega)
  omega

def hamt (x y amt : Nat) : Prop := (Nat.gcd (y % 2305843009213693951) 2305843009213693951 = 1 ∧ ∃ v, v < 2305843009213693951 ∧ y % 2305843009213693951 * v % 2305843009213693951 = 1 % 2305843009213693951 ∧ amt = x % 2305843009213693951 * v % 2305843009213693951) ∨ (Nat.gcd (y % 2305843009213693951) 2305843009213693951 ≠ 1 ∧ amt = 314159)
/-- what the hash of a register is -/
def hashQ (w : Vn) (z : Int) : Prop := (w.1 = -1 ∧ z = 0) ∨ (w.1 ≠ -1 ∧ hashP w.2.1 w.2.2.1 w.2.2.2 z)
theorem hashQ_one {w : Vn} {z1 z2 : Int} (h1 : hashQ w z1) (h2 : hashQ w z2) : z1 = z2 := by
  rcases h1 with ⟨a1, rfl⟩ | ⟨a1, m1, b1, c1, rfl⟩
  · rcases h2 with ⟨a2, rfl⟩ | ⟨a2, _⟩
    · rfl
    · exact absurd a1 a2
  · rcases h2 with ⟨a2, rfl⟩ | ⟨a2, m2, b2, c2, rfl⟩
    · exact absurd a2 a1
    · have : m1 = m2 := by
        rcases c1 with ⟨g1, v1, k1, k2, k3⟩ | ⟨g1, k1⟩
        · rcases c2 with ⟨g2, v2, j1, j2, j3⟩ | ⟨g2, _⟩
          · rw [k3, j3, inv_one k1 j1 k2 j2]
          · exact absurd g1 g2
        · rcases c2 with ⟨g2, _⟩ | ⟨g2, j1⟩
          · exact absurd g2 g1
          · rw [k1, j1]
      rw [this]
set_option maxRecDepth 100000 in
set_option maxHeartbeats 4000000 in
theorem c_M_hash {l : Launch} (hfl : l.flags = flags0) {D : va_G} {g : Nat → ClassId} {ad : Nat → Nat} {N : Nat} {F : Nat → va_E} {R : Nat → Vn} {ln sh : List Nat} {th0 : Int} {a : Int}
    (hN : 109 ≤ N) (hM : mst ad g R ln sh th0 F) (ha : inI a) :
    JC l y_M_hash b_M_hash 10 (Option.some Jvm.ClassFile.FieldType.long) rm_M_hash (0, 0) D jCl (jTys g) ad N F [.ref (ad 98), .int (iI a)] (jl ad N (fun z F' => hashQ (regV R a) z ∧ mst ad g R ln sh 0 F' ∧ offM F F')) := by
  obtain ⟨hh, ll, f, v, V, br, kk, bb, rr, lh, xh, dh, tt, hD0, hth⟩ := hM
  have hD := hD0
  obtain ⟨hO, hB, hL, hR, hzz, hKk, hBb, hRr, hmr, h104, h105, h106, h107, hln, hsh⟩ := hD
  have hkI := mR_kI hmr
  obtain ⟨C, hC⟩ : ∃ C : Nat, C = 2305843009213693949 := ⟨_, rfl⟩
  refine JC.go hfl (own := "NumberTowerModel") (lv := [(0, .ref (ad 98)), (1, .int (iI a))]) rfl (by decide +kernel) (Nat.le_of_ble_eq_true rfl) rfl (fun A => ?_)
  refine J_aload_n 0 d_M_hash_0 rfl rfl ?_
  refine J_iconst d_M_hash_1 ?_
  refine pm_M_39 (by omega) hO d_M_hash_2 ?_
  refine J_aload_n 0 d_M_hash_5 rfl rfl ?_
  refine J_iload_n 1 d_M_hash_6 rfl rfl ?_
  refine J_callVi cw_M_176 nh_M_isNumber pn_M_isNumber rfl rfl (by omega) (by rw [va_up_self]) (As := [.int (iI a)]) (rest := []) rfl (Nat.le_of_ble_eq_true rfl) ⟨by decide, by decide⟩ rfl ⟨by decide, by decide⟩ d_M_hash_7 (c_M_isNumber hfl (r := a) (f := va_up f 10 0) (v := v) (kk := kk) hN (by rw [va_up_self]) (by rw [va_up_ne _ _ (by decide)]; exact hKk) (by omega) (fun j hj => ⟨by have := hkI j hj; omega, by have := hkI j hj; omega⟩)) (fun zn F1 hq => ?_)
  obtain ⟨hzn, eF1⟩ := hq
  refine J_eqF eF1 ?_
  refine J_ifne (tgt := 15) d_M_hash_10 (by decide) ⟨by omega, by omega⟩ (fun c10 => ?_) (fun c10 => ?_)
  · refine J_aload_n 0 d_M_hash_15 rfl rfl ?_
    refine J_iload_n 1 d_M_hash_16 rfl rfl ?_
    obtain ⟨kd, sg, x, y, hRa, hok, hka, hkn, hmg⟩ := mR_at hmr (r := a.toNat) (by omega) (by omega)
    obtain ⟨hk1, hd0, hs1, hfin, hcop, hk0, hb, hs0, hb2, hre⟩ := okv_b hok hkn
    have hrV : regV R a = (kd, sg, x, y) := (regV_in (by omega)).trans hRa
    refine J_topi (r := ((a.toNat : Nat) : Int)) (congrArg iI (by omega)) ?_
    refine J_bipush d_M_hash_17 (i8_ok (by decide)) ?_
    refine J_bipush d_M_hash_19 (i8_ok (by decide)) ?_
    refine J_callVi cw_M_182 nh_M_fetch pn_M_fetch rfl rfl (by omega) (by rw [va_up_self]) (As := [.int (iI ((a.toNat : Nat) : Int)), .int (iI 16), .int (iI 17)]) (rest := []) rfl (Nat.le_of_ble_eq_true rfl) ⟨by decide, by decide⟩ rfl ⟨by decide, by decide⟩ d_M_hash_21 (c_M_fetch hfl (r := a.toNat) (u := 16) (d := 17) (x := x) (y := y) (kd := kd) (sg := sg) (kk := kk) (bb := bb) (rr := rr) (hh := hh) (ll := ll) (f := va_up f 10 0) (v := v) (V := V) (br := br) hN (by rw [va_up_self]) (by rw [va_up_ne _ _ (by decide)]; exact hB) (by rw [va_up_ne _ _ (by decide)]; exact hL) hR hzz (by rw [va_up_ne _ _ (by decide)]; exact hKk) (by rw [va_up_ne _ _ (by decide)]; exact hBb) (by rw [va_up_ne _ _ (by decide)]; exact hRr) (by omega) ⟨by omega, by omega⟩ ⟨by omega, by omega⟩ (hzz.2 16 (by decide) (by decide)) (hzz.2 17 (by decide) (by decide)) (by omega) (mreg_fr hmg (by omega) (fun k hk => (show (V) k = V k from by rfl))) hd0 hk1 hb hre) (fun mi F2 hq => ?_)
    obtain ⟨hmi, bh1, bl2, U, Y, hUY, hU9, hR3, eF2⟩ := hq
    refine J_eqF (F2 := va_up (va_up (va_up F 98 (oM ad (va_up f 10 0) v)) 99 (.inl (g 0, 858, .inl (aI bh1)))) 100 (.inl (g 0, 33, .inl (aI bl2)))) eF2 ?_
    obtain ⟨hU9, hU7⟩ := hU9
    have hU8 : powY kd Y := hU7
    clear hU7
    have hmi1 : (mi = 1 ∧ sg < 0) ∨ (mi = 0 ∧ 0 ≤ sg) := by rw [hmi]; split <;> omega
    refine J_istore_n (lv' := [(2, .int (iI mi)), (0, .ref (ad 98)), (1, .int (iI a))]) d_M_hash_24 rfl (by decide) rfl ?_
    refine J_aload_n 1 d_M_hash_25 rfl rfl ?_
    refine J_bipush d_M_hash_26 (i8_ok (by decide)) ?_
    refine J_callVl cw_M_228 nh_M_modulo pn_M_modulo rfl rfl (by omega) (by rw [va_up_ne _ _ (by decide), va_up_ne _ _ (by decide), va_up_self]) (As := [.int (iI 17)]) (rest := []) rfl (Nat.le_of_ble_eq_true rfl) ⟨by decide, by decide⟩ rfl ⟨by decide, by decide⟩ d_M_hash_28 (c_M_modulo hfl (a := 17) (x := Y) (hh := bh1) (ll := bl2) (f := va_up f 10 0) (v := v) (V := va_up (va_up V 17 Y) 16 U) (br := br) hN (by rw [va_up_ne _ _ (by decide), va_up_ne _ _ (by decide), va_up_self]) (by rw [va_up_ne _ _ (by decide), va_up_self]) (by rw [va_up_self]) hR3 hzz (by omega) (hzz.2 17 (by decide) (by decide)) (((va_up_ne _ _ (by decide)).trans (va_up_self ..)))) (fun z4 F3 hq => ?_)
    obtain ⟨hz4, eF3⟩ := hq
    refine J_eqF eF3 ?_
    refine J_topl (r := ((Y % 2305843009213693951 : Nat) : Int)) (congrArg lI hz4) ?_
    refine J_lstore_n (lv' := [(3, .long (lI ((Y % 2305843009213693951 : Nat) : Int))), (2, .int (iI mi)), (0, .ref (ad 98)), (1, .int (iI a))]) d_M_hash_31 rfl (by decide) rfl ?_
    refine J_aload_n 2 d_M_hash_32 rfl rfl ?_
    refine J_bipush d_M_hash_33 (i8_ok (by decide)) ?_
    refine J_callVl cw_M_228 nh_M_modulo pn_M_modulo rfl rfl (by omega) (by rw [va_up_ne _ _ (by decide), va_up_ne _ _ (by decide), va_up_self]) (As := [.int (iI 16)]) (rest := []) rfl (Nat.le_of_ble_eq_true rfl) ⟨by decide, by decide⟩ rfl ⟨by decide, by decide⟩ d_M_hash_35 (c_M_modulo hfl (a := 16) (x := U) (hh := bh1) (ll := bl2) (f := va_up f 10 0) (v := v) (V := va_up (va_up V 17 Y) 16 U) (br := br) hN (by rw [va_up_ne _ _ (by decide), va_up_ne _ _ (by decide), va_up_self]) (by rw [va_up_ne _ _ (by decide), va_up_self]) (by rw [va_up_self]) hR3 hzz (by omega) (hzz.2 16 (by decide) (by decide)) ((va_up_self ..))) (fun z5 F4 hq => ?_)
    obtain ⟨hz5, eF4⟩ := hq
    refine J_eqF eF4 ?_
    refine J_topl (r := ((U % 2305843009213693951 : Nat) : Int)) (congrArg lI hz5) ?_
    refine J_lstore (lv' := [(5, .long (lI ((U % 2305843009213693951 : Nat) : Int))), (3, .long (lI ((Y % 2305843009213693951 : Nat) : Int))), (2, .int (iI mi)), (0, .ref (ad 98)), (1, .int (iI a))]) d_M_hash_38 (by decide) rfl ?_
    refine J_lconst (v := 1) d_M_hash_40 rfl ?_
    refine J_lstore (lv' := [(7, .long (lI 1)), (5, .long (lI ((U % 2305843009213693951 : Nat) : Int))), (3, .long (lI ((Y % 2305843009213693951 : Nat) : Int))), (2, .int (iI mi)), (0, .ref (ad 98)), (1, .int (iI a))]) d_M_hash_41 (by decide) rfl ?_
    refine J_bipush d_M_hash_43 (i8_ok (by decide)) ?_
    refine J_istore (lv' := [(9, .int (iI 60)), (7, .long (lI 1)), (5, .long (lI ((U % 2305843009213693951 : Nat) : Int))), (3, .long (lI ((Y % 2305843009213693951 : Nat) : Int))), (2, .int (iI mi)), (0, .ref (ad 98)), (1, .int (iI a))]) d_M_hash_45 (by decide) rfl ?_
    refine J_pick (lv' := [(0, .ref (ad 98)), (2, .int (iI mi)), (3, .long (lI ((Y % 2305843009213693951 : Nat) : Int))), (5, .long (lI ((U % 2305843009213693951 : Nat) : Int))), (7, .long (lI 1)), (9, .int (iI 60))]) [5, 4, 3, 2, 1, 0] rfl ?_
    have loop47 : ∀ (fuel : Nat) (i : Int) (t : Nat) (h1 : -1 ≤ i ∧ i ≤ 60) (ht : t = (Y % 2305843009213693951) ^ (C / 2 ^ (i + 1).toNat) % 2305843009213693951) (hfu : (i + 1).toNat < fuel), J l rm_M_hash (0, 0) "NumberTowerModel" b_M_hash 10 (Option.some Jvm.ClassFile.FieldType.long) D jCl (jTys g) A (fun _ me => me.name = y_M_hash.name) (jl ad N (fun z F' => hashQ (regV R a) z ∧ mst ad g R ln sh 0 F' ∧ offM F F')) ad N 0 0 47 [(0, .ref (ad 98)), (2, .int (iI mi)), (3, .long (lI ((Y % 2305843009213693951 : Nat) : Int))), (5, .long (lI ((U % 2305843009213693951 : Nat) : Int))), (7, .long (lI (t : Int))), (9, .int (iI i))] [] (va_up (va_up (va_up F 98 (oM ad (va_up f 10 0) v)) 99 (.inl (g 0, 858, .inl (aI bh1)))) 100 (.inl (g 0, 33, .inl (aI bl2)))) := by
      intro fuel
      induction fuel with
      | zero => intro i t h1 ht hfu; exact absurd hfu (Nat.not_lt_zero _)
      | succ fuel ih =>
        intro i t h1 ht hfu
        have htM : t < 2305843009213693951 := by rw [ht]; exact Nat.mod_lt _ (by decide)
        refine J_iload 5 d_M_hash_47 rfl ?_
        refine J_iflt (tgt := 88) d_M_hash_49 (by decide) ⟨by omega, by omega⟩ (fun c49 => ?_) (fun c49 => ?_)
        · have lab109 : ∀ (amt : Nat) (ham1 : amt < 2305843009213693951) (ham : hamt x y amt) (ham0 : sg = 0 → amt = 0) , J l rm_M_hash (0, 0) "NumberTowerModel" b_M_hash 10 (Option.some Jvm.ClassFile.FieldType.long) D jCl (jTys g) A (fun _ me => me.name = y_M_hash.name) (jl ad N (fun z F' => hashQ (regV R a) z ∧ mst ad g R ln sh 0 F' ∧ offM F F')) ad N 0 0 109 [(0, .ref (ad 98)), (2, .int (iI mi)), (5, .long (lI (amt : Int)))] [] (va_up (va_up (va_up F 98 (oM ad (va_up f 10 0) v)) 99 (.inl (g 0, 858, .inl (aI bh1)))) 100 (.inl (g 0, 33, .inl (aI bl2)))) := by
            intro amt ham1 ham ham0
            refine J_iload_n 1 d_M_hash_109 rfl rfl ?_
            refine J_ifeq (tgt := 132) d_M_hash_110 (by decide) ⟨by omega, by omega⟩ (fun c110 => ?_) (fun c110 => ?_)
            · refine J_lload 2 d_M_hash_132 rfl ?_
              refine J_lret rfl d_M_hash_134 ⟨by decide, by decide⟩ ?_
              refine ⟨_, rfl, rfl, rfl, Or.inr ⟨by rw [hrV]; exact hkn, ?_⟩, mst_3 hD0 hR3 hzz (fun k hk => (show (va_up (va_up V 17 Y) 16 U) k = V k from by rw [va_up_ne _ _ (by omega), va_up_ne _ _ (by omega)])) (va_up_ne _ _ (by decide)) (va_up_ne _ _ (by decide)) (va_up_self ..), offM_3⟩
              rw [hrV]
              refine ⟨amt, ham1, ham, ?_⟩
              show _ = if sg * (amt : Int) = -1 then -2 else sg * (amt : Int)
              obtain w | w | w : sg = 0 ∨ sg = 1 ∨ sg = -1 := by omega
              · rw [show sg * (amt : Int) = 0 by rw [w, Int.zero_mul], if_neg (by decide)]
                have := ham0 w
                all_goals omega
              · rw [show sg * (amt : Int) = amt by rw [w, Int.one_mul], if_neg (by omega)]
                all_goals omega
              · rw [show sg * (amt : Int) = -amt by rw [w, Int.neg_one_mul]]
                all_goals (split <;> omega)
            · refine J_lload 2 d_M_hash_113 rfl ?_
              refine J_lconst (v := 1) d_M_hash_115 rfl ?_
              refine J_lcmpne (tgt := 126) d_M_hash_116 d_M_hash_117 (by decide) ⟨by omega, by omega⟩ ⟨by omega, by omega⟩ (fun c116 => ?_) (fun c116 => ?_)
              · refine J_lload 2 d_M_hash_126 rfl ?_
                refine J_lneg d_M_hash_128 ?_
                refine J_goto (tgt := 134) d_M_hash_129 (by decide) ?_
                refine J_lret rfl d_M_hash_134 ⟨by decide, by decide⟩ ?_
                refine ⟨_, rfl, rfl, rfl, Or.inr ⟨by rw [hrV]; exact hkn, ?_⟩, mst_3 hD0 hR3 hzz (fun k hk => (show (va_up (va_up V 17 Y) 16 U) k = V k from by rw [va_up_ne _ _ (by omega), va_up_ne _ _ (by omega)])) (va_up_ne _ _ (by decide)) (va_up_ne _ _ (by decide)) (va_up_self ..), offM_3⟩
                rw [hrV]
                refine ⟨amt, ham1, ham, ?_⟩
                show _ = if sg * (amt : Int) = -1 then -2 else sg * (amt : Int)
                obtain w | w | w : sg = 0 ∨ sg = 1 ∨ sg = -1 := by omega
                · rw [show sg * (amt : Int) = 0 by rw [w, Int.zero_mul], if_neg (by decide)]
                  have := ham0 w
                  all_goals omega
                · rw [show sg * (amt : Int) = amt by rw [w, Int.one_mul], if_neg (by omega)]
                  all_goals omega
                · rw [show sg * (amt : Int) = -amt by rw [w, Int.neg_one_mul]]
                  all_goals (split <;> omega)
              · refine J_ldc2 (z := (-2)) d_M_hash_120 wd_1312 (by decide) ?_
                refine J_goto (tgt := 134) d_M_hash_123 (by decide) ?_
                refine J_lret rfl d_M_hash_134 ⟨by decide, by decide⟩ ?_
                refine ⟨_, rfl, rfl, rfl, Or.inr ⟨by rw [hrV]; exact hkn, ?_⟩, mst_3 hD0 hR3 hzz (fun k hk => (show (va_up (va_up V 17 Y) 16 U) k = V k from by rw [va_up_ne _ _ (by omega), va_up_ne _ _ (by omega)])) (va_up_ne _ _ (by decide)) (va_up_ne _ _ (by decide)) (va_up_self ..), offM_3⟩
                rw [hrV]
                refine ⟨amt, ham1, ham, ?_⟩
                show _ = if sg * (amt : Int) = -1 then -2 else sg * (amt : Int)
                obtain w | w | w : sg = 0 ∨ sg = 1 ∨ sg = -1 := by omega
                · rw [show sg * (amt : Int) = 0 by rw [w, Int.zero_mul], if_neg (by decide)]
                  have := ham0 w
                  all_goals omega
                · rw [show sg * (amt : Int) = amt by rw [w, Int.one_mul], if_neg (by omega)]
                  all_goals omega
                · rw [show sg * (amt : Int) = -amt by rw [w, Int.neg_one_mul]]
                  all_goals (split <;> omega)
          have htt : Y % 2305843009213693951 ≠ 0 → Y % 2305843009213693951 * t % 2305843009213693951 = 1 := fun hYn => by
            rw [ht, show (i + 1).toNat = 0 by omega, Nat.pow_zero, Nat.div_one, hC, Nat.mul_mod_mod]
            refine inv_M (fun hd => hYn ?_)
            rw [← Nat.mod_mod]
            exact Nat.mod_eq_zero_of_dvd hd
          have hcop1 : x = 0 → y = 1 := fun e => by
            rw [e] at hcop
            exact (Nat.coprime_zero_left _).mp hcop
          have hY0 : y % 2305843009213693951 ≠ 0 → Y % 2305843009213693951 ≠ 0 := fun hy e => by
            by_cases k2 : kd = 2
            · obtain ⟨ee, he⟩ := hU8 k2
              exact two_M ee (he ▸ Nat.dvd_of_mod_eq_zero e)
            · exact hy ((hU9 k2).2 ▸ e)
          have hY1 : y % 2305843009213693951 = 0 → Y % 2305843009213693951 = 0 := fun e => by
            by_cases k2 : kd = 2
            · have h1 : y ∣ Y := Nat.Coprime.dvd_of_dvd_mul_left hcop.symm ⟨U, by rw [← hUY.2.1, Nat.mul_comm]⟩
              exact Nat.mod_eq_zero_of_dvd (Nat.dvd_trans (Nat.dvd_of_mod_eq_zero e) h1)
            · rw [(hU9 k2).2]; exact e
          refine J_lload_n 2 d_M_hash_88 rfl rfl ?_
          refine J_lconst (v := 0) d_M_hash_89 rfl ?_
          refine J_lcmpne (tgt := 100) d_M_hash_90 d_M_hash_91 (by decide) ⟨by omega, by omega⟩ ⟨by omega, by omega⟩ (fun c90 => ?_) (fun c90 => ?_)
          · refine J_lload 3 d_M_hash_100 rfl ?_
            refine J_lload 4 d_M_hash_102 rfl ?_
            refine J_callSl cw_M_231 nh_M_multiplied pn_M_multiplied rfl (As := [.long (lI ((U % 2305843009213693951 : Nat) : Int)), .long (lI (t : Int))]) (rest := []) rfl (Nat.le_of_ble_eq_true rfl) ⟨by decide, by decide⟩ rfl ⟨by decide, by decide⟩ d_M_hash_104 (c_M_multiplied hfl (a := U % 2305843009213693951) (b := t) (Nat.mod_lt _ (by decide)) htM) (fun z6 F5 hq => ?_)
            obtain ⟨hz6, eF5⟩ := hq
            refine J_eqF eF5 ?_
            refine J_topl (r := (((U % 2305843009213693951) * t % 2305843009213693951 : Nat) : Int)) (congrArg lI hz6) ?_
            refine J_lstore (lv' := [(5, .long (lI (((U % 2305843009213693951) * t % 2305843009213693951 : Nat) : Int))), (0, .ref (ad 98)), (2, .int (iI mi)), (3, .long (lI ((Y % 2305843009213693951 : Nat) : Int))), (7, .long (lI (t : Int))), (9, .int (iI i))]) d_M_hash_107 (by decide) rfl ?_
            refine J_pick (lv' := [(0, .ref (ad 98)), (2, .int (iI mi)), (5, .long (lI (((U % 2305843009213693951) * t % 2305843009213693951 : Nat) : Int)))]) [1, 2, 0] rfl ?_
            refine lab109 ((U % 2305843009213693951) * t % 2305843009213693951) (Nat.mod_lt _ (by decide)) ?_ ?_
            · refine Or.inl ?_
              have hYn : Y % 2305843009213693951 ≠ 0 := by omega
              obtain ⟨v9, k1, k2, k3⟩ := hash_r (sg := sg) (t := t) hUY.2.1 hYn (fun e => hYn (hY1 e)) (htt hYn)
              exact ⟨gcd_M.mpr (fun e => hYn (hY1 e)), v9, k1, k2, by rw [← k3, Nat.mod_eq_of_lt htM]⟩
            · intro e
              have hx0 := hs0.mp e
              have hU0 : U = 0 := by
                have := hUY.2.1
                rw [hx0, Nat.zero_mul] at this
                rcases Nat.mul_eq_zero.mp this with q | q
                · exact q
                · omega
              rw [hU0, Nat.zero_mod, Nat.zero_mul, Nat.zero_mod]
          · refine J_ldc2 (z := 314159) d_M_hash_94 wd_1311 (by decide) ?_
            refine J_goto (tgt := 107) d_M_hash_97 (by decide) ?_
            refine J_lstore (lv' := [(5, .long (lI 314159)), (0, .ref (ad 98)), (2, .int (iI mi)), (3, .long (lI ((Y % 2305843009213693951 : Nat) : Int))), (7, .long (lI (t : Int))), (9, .int (iI i))]) d_M_hash_107 (by decide) rfl ?_
            refine J_pick (lv' := [(0, .ref (ad 98)), (2, .int (iI mi)), (5, .long (lI 314159))]) [1, 2, 0] rfl ?_
            refine lab109 314159 (by decide) ?_ ?_
            · refine Or.inr ⟨?_, rfl⟩
              rw [Ne, gcd_M]
              intro hy
              exact hY0 hy (by omega)
            · intro e
              have hx0 := hs0.mp e
              exact absurd (by omega : Y % 2305843009213693951 = 0) (hY0 (by rw [hcop1 hx0]; decide))
        · refine J_lload 4 d_M_hash_52 rfl ?_
          refine J_lload 4 d_M_hash_54 rfl ?_
          refine J_callSl cw_M_231 nh_M_multiplied pn_M_multiplied rfl (As := [.long (lI (t : Int)), .long (lI (t : Int))]) (rest := []) rfl (Nat.le_of_ble_eq_true rfl) ⟨by decide, by decide⟩ rfl ⟨by decide, by decide⟩ d_M_hash_56 (c_M_multiplied hfl (a := t) (b := t) htM htM) (fun z7 F6 hq => ?_)
          obtain ⟨hz7, eF6⟩ := hq
          refine J_eqF eF6 ?_
          refine J_topl (r := ((t * t % 2305843009213693951 : Nat) : Int)) (congrArg lI hz7) ?_
          refine J_lstore (lv' := [(7, .long (lI ((t * t % 2305843009213693951 : Nat) : Int))), (0, .ref (ad 98)), (2, .int (iI mi)), (3, .long (lI ((Y % 2305843009213693951 : Nat) : Int))), (5, .long (lI ((U % 2305843009213693951 : Nat) : Int))), (9, .int (iI i))]) d_M_hash_59 (by decide) rfl ?_
          refine J_ldc2 (z := 2305843009213693949) d_M_hash_61 wd_1310 (by decide) ?_
          refine J_topl (r := (C : Int)) (congrArg lI (by rw [hC]; rfl)) ?_
          refine J_iload 5 d_M_hash_64 rfl ?_
          refine J_topi (r := ((i.toNat : Nat) : Int)) (congrArg iI (by omega)) ?_
          refine J_lshr (r := ((C / 2 ^ i.toNat : Nat) : Int)) d_M_hash_66 (lI_shrn (by omega) i.toNat (by omega)) ?_
          refine J_lconst (v := 1) d_M_hash_67 rfl ?_
          refine J_land (r := (((C / 2 ^ i.toNat) % 2 : Nat) : Int)) d_M_hash_68 (lI_andn 1 (by decide)) ?_
          refine J_lconst (v := 1) d_M_hash_69 rfl ?_
          refine J_lcmpne (tgt := 82) d_M_hash_70 d_M_hash_71 (by decide) ⟨by omega, by omega⟩ ⟨by omega, by omega⟩ (fun c70 => ?_) (fun c70 => ?_)
          · refine J_iinc (j := 5) (b := i - 1) (lv' := [(9, .int (iI (i - 1))), (7, .long (lI ((t * t % 2305843009213693951 : Nat) : Int))), (0, .ref (ad 98)), (2, .int (iI mi)), (3, .long (lI ((Y % 2305843009213693951 : Nat) : Int))), (5, .long (lI ((U % 2305843009213693951 : Nat) : Int)))]) d_M_hash_82 rfl (by omega) (by decide) rfl ?_
            refine J_goto (tgt := 47) d_M_hash_85 (by decide) ?_
            refine J_pick (lv' := [(0, .ref (ad 98)), (2, .int (iI mi)), (3, .long (lI ((Y % 2305843009213693951 : Nat) : Int))), (5, .long (lI ((U % 2305843009213693951 : Nat) : Int))), (7, .long (lI ((t * t % 2305843009213693951 : Nat) : Int))), (9, .int (iI (i - 1)))]) [2, 3, 4, 5, 1, 0] rfl ?_
            refine ih (i - 1) (t * t % 2305843009213693951) (by omega) ?_ (by omega)
            · first
              | (rw [show (i - 1 + 1).toNat = i.toNat by omega, pbit0 (show C / 2 ^ i.toNat % 2 = 0 by omega), ← show (i + 1).toNat = i.toNat + 1 by omega, ← ht]; done)
              | (rw [show (i - 1 + 1).toNat = i.toNat by omega, pbit1 (show C / 2 ^ i.toNat % 2 = 1 by omega), ← show (i + 1).toNat = i.toNat + 1 by omega, ← ht])
          · refine J_lload 0 d_M_hash_74 rfl ?_
            refine J_lload_n 3 d_M_hash_76 rfl rfl ?_
            refine J_callSl cw_M_231 nh_M_multiplied pn_M_multiplied rfl (As := [.long (lI ((t * t % 2305843009213693951 : Nat) : Int)), .long (lI ((Y % 2305843009213693951 : Nat) : Int))]) (rest := []) rfl (Nat.le_of_ble_eq_true rfl) ⟨by decide, by decide⟩ rfl ⟨by decide, by decide⟩ d_M_hash_77 (c_M_multiplied hfl (a := t * t % 2305843009213693951) (b := Y % 2305843009213693951) (Nat.mod_lt _ (by decide)) (Nat.mod_lt _ (by decide))) (fun z8 F7 hq => ?_)
            obtain ⟨hz8, eF7⟩ := hq
            refine J_eqF eF7 ?_
            refine J_topl (r := (((t * t % 2305843009213693951) * (Y % 2305843009213693951) % 2305843009213693951 : Nat) : Int)) (congrArg lI hz8) ?_
            refine J_lstore (lv' := [(7, .long (lI (((t * t % 2305843009213693951) * (Y % 2305843009213693951) % 2305843009213693951 : Nat) : Int))), (0, .ref (ad 98)), (2, .int (iI mi)), (3, .long (lI ((Y % 2305843009213693951 : Nat) : Int))), (5, .long (lI ((U % 2305843009213693951 : Nat) : Int))), (9, .int (iI i))]) d_M_hash_80 (by decide) rfl ?_
            refine J_iinc (j := 5) (b := i - 1) (lv' := [(9, .int (iI (i - 1))), (7, .long (lI (((t * t % 2305843009213693951) * (Y % 2305843009213693951) % 2305843009213693951 : Nat) : Int))), (0, .ref (ad 98)), (2, .int (iI mi)), (3, .long (lI ((Y % 2305843009213693951 : Nat) : Int))), (5, .long (lI ((U % 2305843009213693951 : Nat) : Int)))]) d_M_hash_82 rfl (by omega) (by decide) rfl ?_
            refine J_goto (tgt := 47) d_M_hash_85 (by decide) ?_
            refine J_pick (lv' := [(0, .ref (ad 98)), (2, .int (iI mi)), (3, .long (lI ((Y % 2305843009213693951 : Nat) : Int))), (5, .long (lI ((U % 2305843009213693951 : Nat) : Int))), (7, .long (lI (((t * t % 2305843009213693951) * (Y % 2305843009213693951) % 2305843009213693951 : Nat) : Int))), (9, .int (iI (i - 1)))]) [2, 3, 4, 5, 1, 0] rfl ?_
            refine ih (i - 1) ((t * t % 2305843009213693951) * (Y % 2305843009213693951) % 2305843009213693951) (by omega) ?_ (by omega)
            · first
              | (rw [show (i - 1 + 1).toNat = i.toNat by omega, pbit0 (show C / 2 ^ i.toNat % 2 = 0 by omega), ← show (i + 1).toNat = i.toNat + 1 by omega, ← ht]; done)
              | (rw [show (i - 1 + 1).toNat = i.toNat by omega, pbit1 (show C / 2 ^ i.toNat % 2 = 1 by omega), ← show (i + 1).toNat = i.toNat + 1 by omega, ← ht])
    exact loop47 ((((60 : Int) + 1).toNat) + 1) (60 : Int) 1 (by omega) (by rw [show ((60 : Int) + 1).toNat = 61 from rfl, Nat.div_eq_of_lt (by rw [hC]; decide), Nat.pow_zero]) (Nat.lt_succ_self _)
  · refine J_lconst (v := 0) d_M_hash_13 rfl ?_
    refine J_eqF (F2 := va_up (va_up F 98 (oM ad (va_up f 10 0) v)) 99 (.inl (g 0, 858, .inl (aI hh)))) (up_same1 (by rw [va_up_ne _ _ (by decide)]; exact hB)) ?_
    refine J_eqF (F2 := va_up (va_up (va_up F 98 (oM ad (va_up f 10 0) v)) 99 (.inl (g 0, 858, .inl (aI hh)))) 100 (.inl (g 0, 33, .inl (aI ll)))) (up_same1 (by rw [va_up_ne _ _ (by decide), va_up_ne _ _ (by decide)]; exact hL)) ?_
    refine J_lret rfl d_M_hash_14 ⟨by decide, by decide⟩ ?_
    exact ⟨_, rfl, rfl, rfl, Or.inl ⟨regV_no hmr (by omega), rfl⟩, mst_3 hD0 hR hzz (fun k hk => (show (V) k = V k from by rfl)) (va_up_ne _ _ (by decide)) (va_up_ne _ _ (by decide)) (va_up_self ..), offM_3⟩
