/-! the Model's regions: sums -/
theorem lnw_blen8 {n : Nat} (h : n ≠ 0) : ((lnw 28 n : Int) - 1) * 28 + (blen (dgt 28 n (lnw 28 n - 1)) : Int) = blen n := by
  obtain ⟨q, hq⟩ : ∃ q, lnw 28 n = q + 1 := ⟨lnw 28 n - 1, by have : lnw 28 n ≠ 0 := fun z => h (cn_eq08.mp z); omega⟩
  have h1 : n < 2 ^ (28 * (q + 1)) := (lnw_le (by decide)).mp (by omega)
  have h2 := dgt_top (by decide) hq
  rw [hq, Nat.add_sub_cancel]
  have h3 : dgt 28 n q = n / 2 ^ (28 * q) := by
    unfold dgt
    rw [Nat.mod_eq_of_lt]
    rw [Nat.div_lt_iff_lt_mul (Nat.two_pow_pos _), Nat.mul_comm, ← pw_succ]; exact h1
  have h4 : blen n = 28 * q + blen (dgt 28 n q) := by
    rw [h3] at h2 ⊢
    apply Nat.le_antisymm
    · rw [blen_le, Nat.pow_add, Nat.mul_comm, ← Nat.div_lt_iff_lt_mul (Nat.two_pow_pos _)]
      exact blen_lt _
    · have h5 := blen_ge h2
      have h6 := blen_pos h2
      have h7 : ¬ blen n ≤ 28 * q + (blen (n / 2 ^ (28 * q)) - 1) := by
        rw [blen_le, Nat.pow_add, Nat.mul_comm, ← Nat.div_lt_iff_lt_mul (Nat.two_pow_pos _)]
        omega
      omega
  rw [h4]
  push_cast
  omega
theorem lI_congr {a b : Int} (h : a % 18446744073709551616 = b % 18446744073709551616) : lI a = lI b := by
  apply lI_bv
  rw [lI_mod]
  omega
def sg64 (n : Nat) : Int := if n < 9223372036854775808 then (n : Int) else (n : Int) - 18446744073709551616
theorem sg64_p {n : Nat} (h : n < 18446744073709551616) : (sg64 n = 0 ↔ n = 0) ∧ -9223372036854775808 ≤ sg64 n ∧ sg64 n < 9223372036854775808 ∧ lI (n : Int) = lI (sg64 n) := by
  unfold sg64
  split
  · exact ⟨by omega, by omega, by omega, rfl⟩
  · exact ⟨by omega, by omega, by omega, lI_congr (by omega)⟩
theorem reg_any {br : Nat → Nat} {hh ll : Nat → Int} {V : Nat → Nat} (hR : reg br hh ll V) {a T : Nat} {hh' : Nat → Int} (hT : lnw 28 T ≤ 26) (A : Nat → Int) (n : Nat) (hn : n ≤ 26 ∧ lnw 28 T ≤ n) (hA : ∀ j, j < lnw 28 T → A j = dg8 T j) (hh2 : hh' = sg a 0 n A hh) : reg (va_up br a 0) hh' (va_up ll a (lnw 28 T : Int)) (va_up V a T) := by
  subst hh2
  refine reg_set hR hT (fun j hj => ?_) (fun x hx => sg_out (by omega))
  rw [sg_in (by omega) (by omega)]; exact hA j hj
set_option maxRecDepth 100000 in
set_option maxHeartbeats 4000000 in
theorem c_M_zero {l : Launch} (hfl : l.flags = flags0) {D : va_G} {g : Nat → ClassId} {ad : Nat → Nat} {N : Nat} {F : Nat → va_E} {a : Nat} {hh ll : Nat → Int} {V : Nat → Nat} {br : Nat → Nat} {vs : List Value}
    (hN : 109 ≤ N) (hO : F 98 = .inr (8, .ref (ad 99) :: .ref (ad 100) :: vs)) (hB : F 99 = aB g hh) (hL : F 100 = aL g ll) (hR : reg br hh ll V) (ha : a < 33) (bra : br a = 0) :
    JC l y_M_zero b_M_zero 2 (Option.some Jvm.ClassFile.FieldType.boolean) rm_M_zero (0, 0) D jCl (jTys g) ad N F [.ref (ad 98), .int (iI (a : Int))] (ji ad N (fun z F' => ((z = 1 ∧ V a = 0) ∨ (z = 0 ∧ V a ≠ 0)) ∧ F' = F)) := by
  obtain ⟨hla, hma⟩ := reg_len hR ha bra
  have h0 := cn_eq08 (n := V a)
  refine JC.go hfl (own := "NumberTowerModel") (lv := [(0, .ref (ad 98)), (1, .int (iI (a : Int)))]) rfl (by decide +kernel) (Nat.le_of_ble_eq_true rfl) rfl (fun A => ?_)
  refine J_aload_n 0 d_M_zero_0 rfl rfl ?_
  refine gf_M_13 (by omega) hO rfl d_M_zero_1 ?_
  refine J_iload_n 1 d_M_zero_4 rfl rfl ?_
  refine J_iaload 0 rfl (by omega) hL (by omega) d_M_zero_5 ?_
  refine J_topi (r := ll a) (congrArg (fun q => iI (ll q)) (by omega)) ?_
  refine J_ifne (tgt := 13) d_M_zero_6 (by decide) ⟨by omega, by omega⟩ (fun c6 => ?_) (fun c6 => ?_)
  · refine J_iconst d_M_zero_13 ?_
    refine J_iret rfl (nb01 (by omega)).1 d_M_zero_14 ⟨by decide, by decide⟩ ?_
    exact ⟨_, rfl, rfl, rfl, by omega, rfl⟩
  · refine J_iconst d_M_zero_9 ?_
    refine J_goto (tgt := 14) d_M_zero_10 (by decide) ?_
    refine J_iret rfl (nb01 (by omega)).1 d_M_zero_14 ⟨by decide, by decide⟩ ?_
    exact ⟨_, rfl, rfl, rfl, by omega, rfl⟩
set_option maxRecDepth 100000 in
set_option maxHeartbeats 4000000 in
theorem c_M_copy {l : Launch} (hfl : l.flags = flags0) {D : va_G} {g : Nat → ClassId} {ad : Nat → Nat} {N : Nat} {F : Nat → va_E} {a b : Nat} {hh ll : Nat → Int} {V : Nat → Nat} {br : Nat → Nat} {vs : List Value}
    (hN : 109 ≤ N) (hO : F 98 = .inr (8, .ref (ad 99) :: .ref (ad 100) :: vs)) (hB : F 99 = aB g hh) (hL : F 100 = aL g ll) (hR : reg br hh ll V) (ha : a < 33) (hb : b < 33) (bra : br a = 0) :
    JC l y_M_copy b_M_copy 4 (Option.none : Option Jvm.ClassFile.FieldType) rm_M_copy (0, 0) D jCl (jTys g) ad N F [.ref (ad 98), .int (iI (a : Int)), .int (iI (b : Int))] (jv ad N (fun F' => ∃ hh' ll' : Nat → Int, reg (va_up br b 0) hh' ll' (va_up V b (V a)) ∧ F' = va_up (va_up F 99 (aB g hh')) 100 (aL g ll'))) := by
  obtain ⟨hla, hma⟩ := reg_len hR ha bra
  refine JC.go hfl (own := "NumberTowerModel") (lv := [(0, .ref (ad 98)), (1, .int (iI (a : Int))), (2, .int (iI (b : Int)))]) rfl (by decide +kernel) (Nat.le_of_ble_eq_true rfl) rfl (fun A => ?_)
  refine J_iconst d_M_copy_0 ?_
  refine J_istore_n (lv' := [(3, .int (iI 0)), (0, .ref (ad 98)), (1, .int (iI (a : Int))), (2, .int (iI (b : Int)))]) d_M_copy_1 rfl (by decide) rfl ?_
  refine J_pick (lv' := [(0, .ref (ad 98)), (1, .int (iI (a : Int))), (2, .int (iI (b : Int))), (3, .int (iI 0))]) [1, 2, 3, 0] rfl ?_
  have loop2 : ∀ (fuel : Nat) (i : Nat) (f : Nat → Int) (h1 : i ≤ lnw 28 (V a)) (hf : f = sg b 0 i (dg8 (V a)) hh) (hfu : lnw 28 (V a) - i < fuel), J l rm_M_copy (0, 0) "NumberTowerModel" b_M_copy 4 (Option.none : Option Jvm.ClassFile.FieldType) D jCl (jTys g) A (fun _ me => me.name = y_M_copy.name) (jv ad N (fun F' => ∃ hh' ll' : Nat → Int, reg (va_up br b 0) hh' ll' (va_up V b (V a)) ∧ F' = va_up (va_up F 99 (aB g hh')) 100 (aL g ll'))) ad N 0 0 2 [(0, .ref (ad 98)), (1, .int (iI (a : Int))), (2, .int (iI (b : Int))), (3, .int (iI (i : Int)))] [] (va_up F 99 (.inl (g 0, 858, .inl (aI f)))) := by
    intro fuel
    induction fuel with
    | zero => intro i f h1 hf hfu; exact absurd hfu (Nat.not_lt_zero _)
    | succ fuel ih =>
      intro i f h1 hf hfu
      refine J_iload_n 3 d_M_copy_2 rfl rfl ?_
      refine J_aload_n 0 d_M_copy_3 rfl rfl ?_
      refine gf_M_13 (by omega) (by rw [va_up_ne _ _ (by decide)]; exact hO) rfl d_M_copy_4 ?_
      refine J_iload_n 1 d_M_copy_7 rfl rfl ?_
      refine J_iaload 0 rfl (by omega) (by rw [va_up_ne _ _ (by decide)]; exact hL) (by omega) d_M_copy_8 ?_
      refine J_topi (r := ll a) (congrArg (fun q => iI (ll q)) (by omega)) ?_
      refine J_if_icmpge (tgt := 40) d_M_copy_9 (by decide) ⟨by omega, by omega⟩ ⟨by omega, by omega⟩ (fun c9 => ?_) (fun c9 => ?_)
      · refine J_aload_n 0 d_M_copy_40 rfl rfl ?_
        refine gf_M_13 (by omega) (by rw [va_up_ne _ _ (by decide)]; exact hO) rfl d_M_copy_41 ?_
        refine J_iload_n 2 d_M_copy_44 rfl rfl ?_
        refine J_aload_n 0 d_M_copy_45 rfl rfl ?_
        refine gf_M_13 (by omega) (by rw [va_up_ne _ _ (by decide)]; exact hO) rfl d_M_copy_46 ?_
        refine J_iload_n 1 d_M_copy_49 rfl rfl ?_
        refine J_iaload 0 rfl (by omega) (by rw [va_up_ne _ _ (by decide)]; exact hL) (by omega) d_M_copy_50 ?_
        refine J_topi (r := ll a) (congrArg (fun q => iI (ll q)) (by omega)) ?_
        refine J_iastore 0 rfl (by omega) (by rw [va_up_ne _ _ (by decide)]; exact hL) (by omega) d_M_copy_51 ?_
        refine J_eqF (F2 := va_up (va_up F 99 (.inl (g 0, 858, .inl (aI f)))) 100 (.inl (g 0, 33, .inl (aI (va_up ll b (ll a)))))) (congrArg (fun q => va_up (va_up F 99 (.inl (g 0, 858, .inl (aI f)))) 100 (.inl (g 0, 33, .inl (aI (va_up ll q (ll a)))))) (by omega : (b : Int).toNat = b)) ?_
        refine J_vret rfl d_M_copy_52 ⟨by decide, by decide⟩ ?_
        exact ⟨rfl, rfl, rfl, _, _, reg_any hR hma (dg8 (V a)) i ⟨by omega, by omega⟩ (fun j hj => rfl) hf, by rw [hla]⟩
      · refine J_aload_n 0 d_M_copy_12 rfl rfl ?_
        refine gf_M_7 (by omega) (by rw [va_up_ne _ _ (by decide)]; exact hO) rfl d_M_copy_13 ?_
        refine J_bipush d_M_copy_16 (i8_ok (by decide)) ?_
        refine J_iload_n 2 d_M_copy_18 rfl rfl ?_
        refine J_imul d_M_copy_19 ?_
        refine J_iload_n 3 d_M_copy_20 rfl rfl ?_
        refine J_iadd d_M_copy_21 ?_
        refine J_aload_n 0 d_M_copy_22 rfl rfl ?_
        refine gf_M_7 (by omega) (by rw [va_up_ne _ _ (by decide)]; exact hO) rfl d_M_copy_23 ?_
        refine J_bipush d_M_copy_26 (i8_ok (by decide)) ?_
        refine J_iload_n 1 d_M_copy_28 rfl rfl ?_
        refine J_imul d_M_copy_29 ?_
        refine J_iload_n 3 d_M_copy_30 rfl rfl ?_
        refine J_iadd d_M_copy_31 ?_
        refine J_iaload 0 rfl (by omega) (by rw [va_up_self]) (by omega) d_M_copy_32 ?_
        refine J_topi (r := f ((26 * a) + i)) (congrArg (fun q => iI (f q)) (by omega)) ?_
        refine J_iastore 0 rfl (by omega) (by rw [va_up_self]) (by omega) d_M_copy_33 ?_
        refine J_eqF (F2 := va_up (va_up F 99 (.inl (g 0, 858, .inl (aI f)))) 99 (.inl (g 0, 858, .inl (aI (va_up f ((26 * b) + i) (f ((26 * a) + i))))))) (congrArg (fun q => va_up (va_up F 99 (.inl (g 0, 858, .inl (aI f)))) 99 (.inl (g 0, 858, .inl (aI (va_up f q (f ((26 * a) + i))))))) (by omega : ((26 * (b : Int)) + (i : Int)).toNat = (26 * b) + i)) ?_
        refine J_eqF (F2 := va_up F 99 (.inl (g 0, 858, .inl (aI (va_up f ((26 * b) + i) (f ((26 * a) + i))))))) (up_in0) ?_
        refine J_iinc (j := 3) (b := (i : Int) + 1) (lv' := [(3, .int (iI ((i : Int) + 1))), (0, .ref (ad 98)), (1, .int (iI (a : Int))), (2, .int (iI (b : Int)))]) d_M_copy_34 rfl (by omega) (by decide) rfl ?_
        refine J_goto (tgt := 2) d_M_copy_37 (by decide) ?_
        refine J_pick (lv' := [(0, .ref (ad 98)), (1, .int (iI (a : Int))), (2, .int (iI (b : Int))), (3, .int (iI ((i : Int) + 1)))]) [1, 2, 3, 0] rfl ?_
        refine ih (i + 1) (va_up f ((26 * b) + i) (f ((26 * a) + i))) (by omega) ?_ (by omega)
        · rw [hf]
          refine sg_up (by omega) ?_
          rw [sg_out (by omega)]
          exact reg_dig hR ha bra (by omega)
  refine J_eqF (F2 := va_up F 99 (.inl (g 0, 858, .inl (aI hh)))) (up_same1 hB) ?_
  exact loop2 ((lnw 28 (V a) - 0) + 1) 0 hh (by omega) (sg_0 _ _ _ _) (Nat.lt_succ_self _)
set_option maxRecDepth 100000 in
set_option maxHeartbeats 4000000 in
theorem c_M_put {l : Launch} (hfl : l.flags = flags0) {D : va_G} {g : Nat → ClassId} {ad : Nat → Nat} {N : Nat} {F : Nat → va_E} {a n : Nat} {hh ll : Nat → Int} {V : Nat → Nat} {br : Nat → Nat} {vs : List Value}
    (hN : 109 ≤ N) (hO : F 98 = .inr (8, .ref (ad 99) :: .ref (ad 100) :: vs)) (hB : F 99 = aB g hh) (hL : F 100 = aL g ll) (hR : reg br hh ll V) (ha : a < 33) (hn : n < 18446744073709551616) :
    JC l y_M_put b_M_put 6 (Option.none : Option Jvm.ClassFile.FieldType) rm_M_put (0, 0) D jCl (jTys g) ad N F [.ref (ad 98), .int (iI (a : Int)), .long (lI (n : Int))] (jv ad N (fun F' => ∃ hh' ll' : Nat → Int, reg (va_up br a 0) hh' ll' (va_up V a n) ∧ F' = va_up (va_up F 99 (aB g hh')) 100 (aL g ll'))) := by
  refine JC.go hfl (own := "NumberTowerModel") (lv := [(0, .ref (ad 98)), (1, .int (iI (a : Int))), (2, .long (lI (n : Int)))]) rfl (by decide +kernel) (Nat.le_of_ble_eq_true rfl) rfl (fun A => ?_)
  refine J_aload_n 0 d_M_put_0 rfl rfl ?_
  refine gf_M_13 (by omega) hO rfl d_M_put_1 ?_
  refine J_iload_n 1 d_M_put_4 rfl rfl ?_
  refine J_iconst d_M_put_5 ?_
  refine J_iastore 0 rfl (by omega) hL (by omega) d_M_put_6 ?_
  refine J_eqF (F2 := va_up F 100 (.inl (g 0, 33, .inl (aI (va_up ll a 0))))) (congrArg (fun q => va_up F 100 (.inl (g 0, 33, .inl (aI (va_up ll q 0))))) (by omega : (a : Int).toNat = a)) ?_
  refine J_lload_n 2 d_M_put_7 rfl rfl ?_
  refine J_lstore (lv' := [(4, .long (lI (n : Int))), (0, .ref (ad 98)), (1, .int (iI (a : Int))), (2, .long (lI (n : Int)))]) d_M_put_8 (by decide) rfl ?_
  refine J_pick (lv' := [(0, .ref (ad 98)), (1, .int (iI (a : Int))), (4, .long (lI (n : Int)))]) [1, 2, 0] rfl ?_
  have loop10 : ∀ (fuel : Nat) (i : Nat) (r : Nat) (f : Nat → Int) (e : Nat → Int) (h1 : i ≤ 3) (hr : r = n / 2 ^ (28 * i)) (h2 : i = 0 ∨ 2 ^ (28 * (i - 1)) ≤ n) (hf : f = sg a 0 i (dg8 n) hh) (he : e = va_up ll a (i : Int)) (hfu : 3 - i < fuel), J l rm_M_put (0, 0) "NumberTowerModel" b_M_put 6 (Option.none : Option Jvm.ClassFile.FieldType) D jCl (jTys g) A (fun _ me => me.name = y_M_put.name) (jv ad N (fun F' => ∃ hh' ll' : Nat → Int, reg (va_up br a 0) hh' ll' (va_up V a n) ∧ F' = va_up (va_up F 99 (aB g hh')) 100 (aL g ll'))) ad N 0 0 10 [(0, .ref (ad 98)), (1, .int (iI (a : Int))), (4, .long (lI (r : Int)))] [] (va_up (va_up F 100 (.inl (g 0, 33, .inl (aI e)))) 99 (.inl (g 0, 858, .inl (aI f)))) := by
    intro fuel
    induction fuel with
    | zero => intro i r f e h1 hr h2 hf he hfu; exact absurd hfu (Nat.not_lt_zero _)
    | succ fuel ih =>
      intro i r f e h1 hr h2 hf he hfu
      have ea : e a = i := by rw [he, va_up_self]
      have hrb : r ≤ n := by rw [hr]; exact Nat.div_le_self _ _
      have hr2 : dgt 28 n i = r % 268435456 := by rw [hr]; rfl
      refine J_lload 2 d_M_put_10 rfl ?_
      obtain ⟨hs0, hs1, hs2, hs3⟩ := sg64_p (n := r) (by omega)
      refine J_topl (r := sg64 r) hs3 ?_
      refine J_lconst (v := 0) d_M_put_12 rfl ?_
      refine J_lcmpeq (tgt := 60) d_M_put_13 d_M_put_14 (by decide) ⟨by omega, by omega⟩ ⟨by omega, by omega⟩ (fun c13 => ?_) (fun c13 => ?_)
      · refine J_vret rfl d_M_put_60 ⟨by decide, by decide⟩ ?_
        have hln : lnw 28 n = i := lnw28_eq (by
          have h3 : n / 2 ^ (28 * i) = 0 := by omega
          exact (Nat.div_eq_zero_iff_lt (Nat.two_pow_pos _)).mp h3) h2
        exact ⟨rfl, rfl, rfl, _, _, reg_any hR (by omega) (dg8 n) i ⟨by omega, by omega⟩ (fun j hj => rfl) hf, by rw [he, hln, up_cm (by decide)]⟩
      · refine J_aload_n 0 d_M_put_17 rfl rfl ?_
        refine gf_M_7 (by omega) (by rw [va_up_ne _ _ (by decide), va_up_ne _ _ (by decide)]; exact hO) rfl d_M_put_18 ?_
        refine J_bipush d_M_put_21 (i8_ok (by decide)) ?_
        refine J_iload_n 1 d_M_put_23 rfl rfl ?_
        refine J_imul d_M_put_24 ?_
        refine J_aload_n 0 d_M_put_25 rfl rfl ?_
        refine gf_M_13 (by omega) (by rw [va_up_ne _ _ (by decide), va_up_ne _ _ (by decide)]; exact hO) rfl d_M_put_26 ?_
        refine J_iload_n 1 d_M_put_29 rfl rfl ?_
        refine J_iaload 0 rfl (by omega) (by rw [va_up_ne _ _ (by decide), va_up_self]) (by omega) d_M_put_30 ?_
        refine J_topi (r := e a) (congrArg (fun q => iI (e q)) (by omega)) ?_
        refine J_iadd d_M_put_31 ?_
        refine J_lload 2 d_M_put_32 rfl ?_
        refine J_ldc2 (z := 268435455) d_M_put_34 wd_1093 (by decide) ?_
        refine J_land (r := ((r % 268435456 : Nat) : Int)) d_M_put_37 (lI_andn 28 (by decide)) ?_
        refine J_l2i d_M_put_38 ?_
        refine J_iastore 0 rfl (by omega) (by rw [va_up_self]) (by omega) d_M_put_39 ?_
        refine J_eqF (F2 := va_up (va_up F 100 (.inl (g 0, 33, .inl (aI e)))) 99 (.inl (g 0, 858, .inl (aI (va_up f (((26 * (a : Int)) + (e a)).toNat) ((r % 268435456 : Nat) : Int)))))) (up_in0) ?_
        refine J_aload_n 0 d_M_put_40 rfl rfl ?_
        refine gf_M_13 (by omega) (by rw [va_up_ne _ _ (by decide), va_up_ne _ _ (by decide)]; exact hO) rfl d_M_put_41 ?_
        refine J_iload_n 1 d_M_put_44 rfl rfl ?_
        refine J_dup2 d_M_put_45 rfl rfl ?_
        refine J_iaload 0 rfl (by omega) (by rw [va_up_ne _ _ (by decide), va_up_self]) (by omega) d_M_put_46 ?_
        refine J_topi (r := e a) (congrArg (fun q => iI (e q)) (by omega)) ?_
        refine J_iconst d_M_put_47 ?_
        refine J_iadd d_M_put_48 ?_
        refine J_iastore 0 rfl (by omega) (by rw [va_up_ne _ _ (by decide), va_up_self]) (by omega) d_M_put_49 ?_
        refine J_eqF (F2 := va_up (va_up (va_up F 100 (.inl (g 0, 33, .inl (aI e)))) 99 (.inl (g 0, 858, .inl (aI (va_up f (((26 * (a : Int)) + (e a)).toNat) ((r % 268435456 : Nat) : Int)))))) 100 (.inl (g 0, 33, .inl (aI (va_up e a ((e a) + 1)))))) (congrArg (fun q => va_up (va_up (va_up F 100 (.inl (g 0, 33, .inl (aI e)))) 99 (.inl (g 0, 858, .inl (aI (va_up f (((26 * (a : Int)) + (e a)).toNat) ((r % 268435456 : Nat) : Int)))))) 100 (.inl (g 0, 33, .inl (aI (va_up e q ((e a) + 1)))))) (by omega : (a : Int).toNat = a)) ?_
        refine J_eqF (F2 := va_up (va_up F 100 (.inl (g 0, 33, .inl (aI (va_up e a ((e a) + 1)))))) 99 (.inl (g 0, 858, .inl (aI (va_up f (((26 * (a : Int)) + (e a)).toNat) ((r % 268435456 : Nat) : Int)))))) (up_in1 (by decide)) ?_
        refine J_lload 2 d_M_put_50 rfl ?_
        refine J_bipush d_M_put_52 (i8_ok (by decide)) ?_
        refine J_lushr (r := ((r / 268435456 : Nat) : Int)) d_M_put_54 (lI_ushrn (by omega) 28 (by decide)) ?_
        refine J_lstore (lv' := [(4, .long (lI ((r / 268435456 : Nat) : Int))), (0, .ref (ad 98)), (1, .int (iI (a : Int)))]) d_M_put_55 (by decide) rfl ?_
        refine J_goto (tgt := 10) d_M_put_57 (by decide) ?_
        refine J_pick (lv' := [(0, .ref (ad 98)), (1, .int (iI (a : Int))), (4, .long (lI ((r / 268435456 : Nat) : Int)))]) [1, 2, 0] rfl ?_
        have hge : i + 1 = 0 ∨ 2 ^ (28 * (i + 1 - 1)) ≤ n := by
          right
          rw [show i + 1 - 1 = i by omega]
          apply Nat.le_of_not_lt
          intro q
          have := Nat.div_eq_of_lt q
          omega
        have hi3 : i + 1 ≤ 3 := by
          have h3 : ¬ i = 3 := by
            intro q
            subst q
            have : n / 2 ^ (28 * 3) = 0 := Nat.div_eq_of_lt (Nat.lt_of_lt_of_le hn (by decide))
            omega
          omega
        have hfs : va_up f ((26 * (a : Int)) + e a).toNat ((r % 268435456 : Nat) : Int) = sg a 0 (i + 1) (dg8 n) hh := by
          rw [ea, show ((26 * (a : Int)) + (i : Int)).toNat = 26 * a + i by omega, hf]
          refine sg_up (by omega) ?_
          rw [dg_nat8, hr2]
        exact ih (i + 1) (r / 268435456) (va_up f (((26 * (a : Int)) + (e a)).toNat) ((r % 268435456 : Nat) : Int)) (va_up e a ((e a) + 1)) hi3 (by rw [hr, Nat.div_div_eq_div_mul, pw_succ]) hge hfs (by rw [ea, he, up_in0]; rfl) (by omega)
  refine J_eqF (F2 := va_up (va_up F 100 (.inl (g 0, 33, .inl (aI (va_up ll a 0))))) 99 (.inl (g 0, 858, .inl (aI hh)))) (by funext jj; simp only [va_up]; grind) ?_
  exact loop10 ((3 - 0) + 1) 0 n hh (va_up ll a 0) (by omega) (by rw [Nat.mul_zero, Nat.pow_zero, Nat.div_one]) (Or.inl rfl) (sg_0 _ _ _ _) rfl (Nat.lt_succ_self _)
set_option maxRecDepth 100000 in
set_option maxHeartbeats 4000000 in
theorem c_M_bits {l : Launch} (hfl : l.flags = flags0) {D : va_G} {g : Nat → ClassId} {ad : Nat → Nat} {N : Nat} {F : Nat → va_E} {a : Nat} {hh ll : Nat → Int} {V : Nat → Nat} {br : Nat → Nat} {vs : List Value}
    (hN : 109 ≤ N) (hO : F 98 = .inr (8, .ref (ad 99) :: .ref (ad 100) :: vs)) (hB : F 99 = aB g hh) (hL : F 100 = aL g ll) (hR : reg br hh ll V) (ha : a < 33) (bra : br a = 0) :
    JC l y_M_bits b_M_bits 4 (Option.some Jvm.ClassFile.FieldType.int) rm_M_bits (0, 0) D jCl (jTys g) ad N F [.ref (ad 98), .int (iI (a : Int))] (ji ad N (fun z F' => z = (blen (V a) : Int) ∧ F' = F)) := by
  obtain ⟨hla, hma⟩ := reg_len hR ha bra
  have h0 := cn_eq08 (n := V a)
  have hbl : V a ≠ 0 → (28 * ((lnw 28 (V a) : Int) - 1) + (blen (dgt 28 (V a) (lnw 28 (V a) - 1)) : Int) = blen (V a)) := by
    intro h
    have := lnw_blen8 h
    omega
  refine JC.go hfl (own := "NumberTowerModel") (lv := [(0, .ref (ad 98)), (1, .int (iI (a : Int)))]) rfl (by decide +kernel) (Nat.le_of_ble_eq_true rfl) rfl (fun A => ?_)
  refine J_aload_n 0 d_M_bits_0 rfl rfl ?_
  refine gf_M_13 (by omega) hO rfl d_M_bits_1 ?_
  refine J_iload_n 1 d_M_bits_4 rfl rfl ?_
  refine J_iaload 0 rfl (by omega) hL (by omega) d_M_bits_5 ?_
  refine J_topi (r := ll a) (congrArg (fun q => iI (ll q)) (by omega)) ?_
  refine J_ifne (tgt := 11) d_M_bits_6 (by decide) ⟨by omega, by omega⟩ (fun c6 => ?_) (fun c6 => ?_)
  · have hlp : lnw 28 (V a) ≠ 0 := by omega
    have htop := reg_dig hR ha bra (j := lnw 28 (V a) - 1) (by omega)
    have hdb := dgt_b8 (V a) (lnw 28 (V a) - 1)
    have hdn := dg_nat8 (V a) (lnw 28 (V a) - 1)
    refine J_iconst d_M_bits_11 ?_
    refine J_istore_n (lv' := [(2, .int (iI 0)), (0, .ref (ad 98)), (1, .int (iI (a : Int)))]) d_M_bits_12 rfl (by decide) rfl ?_
    refine J_aload_n 1 d_M_bits_13 rfl rfl ?_
    refine gf_M_7 (by omega) hO rfl d_M_bits_14 ?_
    refine J_bipush d_M_bits_17 (i8_ok (by decide)) ?_
    refine J_iload_n 2 d_M_bits_19 rfl rfl ?_
    refine J_imul d_M_bits_20 ?_
    refine J_aload_n 1 d_M_bits_21 rfl rfl ?_
    refine gf_M_13 (by omega) hO rfl d_M_bits_22 ?_
    refine J_iload_n 2 d_M_bits_25 rfl rfl ?_
    refine J_iaload 0 rfl (by omega) hL (by omega) d_M_bits_26 ?_
    refine J_topi (r := ll a) (congrArg (fun q => iI (ll q)) (by omega)) ?_
    refine J_iadd d_M_bits_27 ?_
    refine J_iconst d_M_bits_28 ?_
    refine J_isub d_M_bits_29 ?_
    refine J_topi (r := (26 * (a : Int)) + (ll a) - 1) (congrArg iI (by omega)) ?_
    refine J_iaload 0 rfl (by omega) hB (by omega) d_M_bits_30 ?_
    refine J_topi (r := ((dgt 28 (V a) (lnw 28 (V a) - 1) : Nat) : Int)) (congrArg iI (by rw [show ((26 * (a : Int)) + ll a - 1).toNat = 26 * a + (lnw 28 (V a) - 1) by omega, htop]; rfl)) ?_
    refine J_istore_n (lv' := [(3, .int (iI ((dgt 28 (V a) (lnw 28 (V a) - 1) : Nat) : Int))), (2, .int (iI 0)), (0, .ref (ad 98)), (1, .int (iI (a : Int)))]) d_M_bits_31 rfl (by decide) rfl ?_
    refine J_pick (lv' := [(0, .ref (ad 98)), (1, .int (iI (a : Int))), (2, .int (iI 0)), (3, .int (iI ((dgt 28 (V a) (lnw 28 (V a) - 1) : Nat) : Int)))]) [2, 3, 1, 0] rfl ?_
    have loop32 : ∀ (fuel : Nat) (n : Nat) (v : Nat) (hv : v = dgt 28 (V a) (lnw 28 (V a) - 1) / 2 ^ n) (hnl : n ≤ blen (dgt 28 (V a) (lnw 28 (V a) - 1))) (hfu : blen (dgt 28 (V a) (lnw 28 (V a) - 1)) - n < fuel), J l rm_M_bits (0, 0) "NumberTowerModel" b_M_bits 4 (Option.some Jvm.ClassFile.FieldType.int) D jCl (jTys g) A (fun _ me => me.name = y_M_bits.name) (ji ad N (fun z F' => z = (blen (V a) : Int) ∧ F' = F)) ad N 0 0 32 [(0, .ref (ad 98)), (1, .int (iI (a : Int))), (2, .int (iI (n : Int))), (3, .int (iI (v : Int)))] [] F := by
      intro fuel
      induction fuel with
      | zero => intro n v hv hnl hfu; exact absurd hfu (Nat.not_lt_zero _)
      | succ fuel ih =>
        intro n v hv hnl hfu
        have hvb : v ≤ dgt 28 (V a) (lnw 28 (V a) - 1) := by rw [hv]; exact Nat.div_le_self _ _
        have hbb := (blen_le (v := dgt 28 (V a) (lnw 28 (V a) - 1)) (m := 28)).mpr hdb
        have hz : v = 0 ↔ blen (dgt 28 (V a) (lnw 28 (V a) - 1)) ≤ n := by rw [hv, blen_le, Nat.div_eq_zero_iff_lt (Nat.two_pow_pos _)]
        refine J_iload_n 3 d_M_bits_32 rfl rfl ?_
        refine J_ifle (tgt := 46) d_M_bits_33 (by decide) ⟨by omega, by omega⟩ (fun c33 => ?_) (fun c33 => ?_)
        · refine J_bipush d_M_bits_46 (i8_ok (by decide)) ?_
          refine J_aload_n 0 d_M_bits_48 rfl rfl ?_
          refine gf_M_13 (by omega) hO rfl d_M_bits_49 ?_
          refine J_iload_n 1 d_M_bits_52 rfl rfl ?_
          refine J_iaload 0 rfl (by omega) hL (by omega) d_M_bits_53 ?_
          refine J_topi (r := ll a) (congrArg (fun q => iI (ll q)) (by omega)) ?_
          refine J_iconst d_M_bits_54 ?_
          refine J_isub d_M_bits_55 ?_
          refine J_imul d_M_bits_56 ?_
          refine J_iload_n 2 d_M_bits_57 rfl rfl ?_
          refine J_iadd d_M_bits_58 ?_
          refine J_iret rfl rfl d_M_bits_59 ⟨by decide, by decide⟩ ?_
          refine ⟨_, rfl, rfl, rfl, ?_, rfl⟩
          have h5 := hbl (by omega)
          omega
        · refine J_iinc (j := 2) (b := (n : Int) + 1) (lv' := [(2, .int (iI ((n : Int) + 1))), (0, .ref (ad 98)), (1, .int (iI (a : Int))), (3, .int (iI (v : Int)))]) d_M_bits_36 rfl (by omega) (by decide) rfl ?_
          refine J_iload_n 3 d_M_bits_39 rfl rfl ?_
          refine J_iconst d_M_bits_40 ?_
          refine J_ishr (r := ((v / 2 : Nat) : Int)) d_M_bits_41 (iI_shrn (by omega) 1 (by decide)) ?_
          refine J_istore_n (lv' := [(3, .int (iI ((v / 2 : Nat) : Int))), (2, .int (iI ((n : Int) + 1))), (0, .ref (ad 98)), (1, .int (iI (a : Int)))]) d_M_bits_42 rfl (by decide) rfl ?_
          refine J_goto (tgt := 32) d_M_bits_43 (by decide) ?_
          refine J_pick (lv' := [(0, .ref (ad 98)), (1, .int (iI (a : Int))), (2, .int (iI ((n : Int) + 1))), (3, .int (iI ((v / 2 : Nat) : Int)))]) [2, 3, 1, 0] rfl ?_
          exact ih (n + 1) (v / 2) (by rw [hv, Nat.div_div_eq_div_mul, Nat.pow_succ]) (by omega) (by omega)
    exact loop32 ((blen (dgt 28 (V a) (lnw 28 (V a) - 1)) - 0) + 1) 0 (dgt 28 (V a) (lnw 28 (V a) - 1)) (by rw [Nat.pow_zero, Nat.div_one]) (Nat.zero_le _) (Nat.lt_succ_self _)
  · refine J_iconst d_M_bits_9 ?_
    refine J_iret rfl rfl d_M_bits_10 ⟨by decide, by decide⟩ ?_
    exact ⟨_, rfl, rfl, rfl, by rw [h0.mp (by omega), blen_0]; rfl, rfl⟩
set_option maxRecDepth 100000 in
set_option maxHeartbeats 4000000 in
theorem c_M_order {l : Launch} (hfl : l.flags = flags0) {D : va_G} {g : Nat → ClassId} {ad : Nat → Nat} {N : Nat} {F : Nat → va_E} {a b : Nat} {hh ll : Nat → Int} {V : Nat → Nat} {br : Nat → Nat} {vs : List Value}
    (hN : 109 ≤ N) (hO : F 98 = .inr (8, .ref (ad 99) :: .ref (ad 100) :: vs)) (hB : F 99 = aB g hh) (hL : F 100 = aL g ll) (hR : reg br hh ll V) (ha : a < 33) (hb : b < 33) (bra : br a = 0) (brb : br b = 0) :
    JC l y_M_order b_M_order 4 (Option.some Jvm.ClassFile.FieldType.int) rm_M_order (0, 0) D jCl (jTys g) ad N F [.ref (ad 98), .int (iI (a : Int)), .int (iI (b : Int))] (ji ad N (fun z F' => z = cmpN (V a) (V b) ∧ F' = F)) := by
  obtain ⟨hla, hma⟩ := reg_len hR ha bra
  obtain ⟨hlb, hmb⟩ := reg_len hR hb brb
  refine JC.go hfl (own := "NumberTowerModel") (lv := [(0, .ref (ad 98)), (1, .int (iI (a : Int))), (2, .int (iI (b : Int)))]) rfl (by decide +kernel) (Nat.le_of_ble_eq_true rfl) rfl (fun A => ?_)
  refine J_aload_n 0 d_M_order_0 rfl rfl ?_
  refine gf_M_13 (by omega) hO rfl d_M_order_1 ?_
  refine J_iload_n 1 d_M_order_4 rfl rfl ?_
  refine J_iaload 0 rfl (by omega) hL (by omega) d_M_order_5 ?_
  refine J_topi (r := ll a) (congrArg (fun q => iI (ll q)) (by omega)) ?_
  refine J_aload_n 0 d_M_order_6 rfl rfl ?_
  refine gf_M_13 (by omega) hO rfl d_M_order_7 ?_
  refine J_iload_n 2 d_M_order_10 rfl rfl ?_
  refine J_iaload 0 rfl (by omega) hL (by omega) d_M_order_11 ?_
  refine J_topi (r := ll b) (congrArg (fun q => iI (ll q)) (by omega)) ?_
  refine J_if_icmpeq (tgt := 36) d_M_order_12 (by decide) ⟨by omega, by omega⟩ ⟨by omega, by omega⟩ (fun c12 => ?_) (fun c12 => ?_)
  · refine J_aload_n 0 d_M_order_36 rfl rfl ?_
    refine gf_M_13 (by omega) hO rfl d_M_order_37 ?_
    refine J_iload_n 1 d_M_order_40 rfl rfl ?_
    refine J_iaload 0 rfl (by omega) hL (by omega) d_M_order_41 ?_
    refine J_topi (r := ll a) (congrArg (fun q => iI (ll q)) (by omega)) ?_
    refine J_iconst d_M_order_42 ?_
    refine J_isub d_M_order_43 ?_
    refine J_istore_n (lv' := [(3, .int (iI ((ll a) - 1))), (0, .ref (ad 98)), (1, .int (iI (a : Int))), (2, .int (iI (b : Int)))]) d_M_order_44 rfl (by decide) rfl ?_
    refine J_pick (lv' := [(0, .ref (ad 98)), (1, .int (iI (a : Int))), (2, .int (iI (b : Int))), (3, .int (iI ((ll a) - 1)))]) [1, 2, 3, 0] rfl ?_
    have loop45 : ∀ (fuel : Nat) (i : Int) (h1 : -1 ≤ i ∧ i < lnw 28 (V a)) (h2 : ∀ j : Nat, i < j → j < lnw 28 (V a) → dgt 28 (V a) j = dgt 28 (V b) j) (hfu : (i + 1).toNat < fuel), J l rm_M_order (0, 0) "NumberTowerModel" b_M_order 4 (Option.some Jvm.ClassFile.FieldType.int) D jCl (jTys g) A (fun _ me => me.name = y_M_order.name) (ji ad N (fun z F' => z = cmpN (V a) (V b) ∧ F' = F)) ad N 0 0 45 [(0, .ref (ad 98)), (1, .int (iI (a : Int))), (2, .int (iI (b : Int))), (3, .int (iI i))] [] F := by
      intro fuel
      induction fuel with
      | zero => intro i h1 h2 hfu; exact absurd hfu (Nat.not_lt_zero _)
      | succ fuel ih =>
        intro i h1 h2 hfu
        refine J_iload_n 3 d_M_order_45 rfl rfl ?_
        refine J_iflt (tgt := 111) d_M_order_46 (by decide) ⟨by omega, by omega⟩ (fun c46 => ?_) (fun c46 => ?_)
        · refine J_iconst d_M_order_111 ?_
          refine J_iret rfl rfl d_M_order_112 ⟨by decide, by decide⟩ ?_
          refine ⟨_, rfl, rfl, rfl, ?_, rfl⟩
          rw [cmpN_eq8 (k := lnw 28 (V a)) (lnw_lt (by decide)) (by rw [show lnw 28 (V a) = lnw 28 (V b) by omega]; exact lnw_lt (by decide)) (fun j q1 => h2 j (by omega) q1)]
        · have hxa : hh ((26 * (a : Int)) + i).toNat = dg8 (V a) i.toNat := by
            rw [show ((26 * (a : Int)) + i).toNat = 26 * a + i.toNat by omega]; exact reg_dig hR ha bra (by omega)
          have hxb : hh ((26 * (b : Int)) + i).toNat = dg8 (V b) i.toNat := by
            rw [show ((26 * (b : Int)) + i).toNat = 26 * b + i.toNat by omega]; exact reg_dig hR hb brb (by omega)
          have hra := dgh8 (V a) i.toNat
          have hrb := dgh8 (V b) i.toNat
          refine J_aload_n 0 d_M_order_49 rfl rfl ?_
          refine gf_M_7 (by omega) hO rfl d_M_order_50 ?_
          refine J_bipush d_M_order_53 (i8_ok (by decide)) ?_
          refine J_iload_n 1 d_M_order_55 rfl rfl ?_
          refine J_imul d_M_order_56 ?_
          refine J_iload_n 3 d_M_order_57 rfl rfl ?_
          refine J_iadd d_M_order_58 ?_
          refine J_iaload 0 rfl (by omega) hB (by omega) d_M_order_59 ?_
          refine J_aload_n 0 d_M_order_60 rfl rfl ?_
          refine gf_M_7 (by omega) hO rfl d_M_order_61 ?_
          refine J_bipush d_M_order_64 (i8_ok (by decide)) ?_
          refine J_iload_n 2 d_M_order_66 rfl rfl ?_
          refine J_imul d_M_order_67 ?_
          refine J_iload_n 3 d_M_order_68 rfl rfl ?_
          refine J_iadd d_M_order_69 ?_
          refine J_iaload 0 rfl (by omega) hB (by omega) d_M_order_70 ?_
          refine J_if_icmpeq (tgt := 105) d_M_order_71 (by decide) ⟨by omega, by omega⟩ ⟨by omega, by omega⟩ (fun c71 => ?_) (fun c71 => ?_)
          · refine J_iinc (j := 3) (b := i - 1) (lv' := [(3, .int (iI (i - 1))), (0, .ref (ad 98)), (1, .int (iI (a : Int))), (2, .int (iI (b : Int)))]) d_M_order_105 rfl (by omega) (by decide) rfl ?_
            refine J_goto (tgt := 45) d_M_order_108 (by decide) ?_
            refine J_pick (lv' := [(0, .ref (ad 98)), (1, .int (iI (a : Int))), (2, .int (iI (b : Int))), (3, .int (iI (i - 1)))]) [1, 2, 3, 0] rfl ?_
            refine ih (i - 1) (by omega) ?_ (by omega)
            · intro j q1 q2
              by_cases e : (j : Int) = i
              · have e2 : i.toNat = j := by omega
                have e3 := dg_nat8 (V a) j
                have e4 := dg_nat8 (V b) j
                rw [hxa, hxb, e2] at c71
                omega
              · exact h2 j (by omega) q2
          · refine J_aload_n 0 d_M_order_74 rfl rfl ?_
            refine gf_M_7 (by omega) hO rfl d_M_order_75 ?_
            refine J_bipush d_M_order_78 (i8_ok (by decide)) ?_
            refine J_iload_n 1 d_M_order_80 rfl rfl ?_
            refine J_imul d_M_order_81 ?_
            refine J_iload_n 3 d_M_order_82 rfl rfl ?_
            refine J_iadd d_M_order_83 ?_
            refine J_iaload 0 rfl (by omega) hB (by omega) d_M_order_84 ?_
            refine J_aload_n 0 d_M_order_85 rfl rfl ?_
            refine gf_M_7 (by omega) hO rfl d_M_order_86 ?_
            refine J_bipush d_M_order_89 (i8_ok (by decide)) ?_
            refine J_iload_n 2 d_M_order_91 rfl rfl ?_
            refine J_imul d_M_order_92 ?_
            refine J_iload_n 3 d_M_order_93 rfl rfl ?_
            refine J_iadd d_M_order_94 ?_
            refine J_iaload 0 rfl (by omega) hB (by omega) d_M_order_95 ?_
            refine J_if_icmpge (tgt := 103) d_M_order_96 (by decide) ⟨by omega, by omega⟩ ⟨by omega, by omega⟩ (fun c96 => ?_) (fun c96 => ?_)
            · refine J_iconst d_M_order_103 ?_
              refine J_iret rfl rfl d_M_order_104 ⟨by decide, by decide⟩ ?_
              refine ⟨_, rfl, rfl, rfl, ?_, rfl⟩
              have e3 := dg_nat8 (V a) i.toNat
              have e4 := dg_nat8 (V b) i.toNat
              rw [cmpN_at8 (k := lnw 28 (V a)) (i := i.toNat) (lnw_lt (by decide)) (by rw [show lnw 28 (V a) = lnw 28 (V b) by omega]; exact lnw_lt (by decide)) (fun j q1 q2 => h2 j (by omega) q2) (by omega)]
              split <;> omega
            · refine J_iconst d_M_order_99 ?_
              refine J_goto (tgt := 104) d_M_order_100 (by decide) ?_
              refine J_iret rfl rfl d_M_order_104 ⟨by decide, by decide⟩ ?_
              refine ⟨_, rfl, rfl, rfl, ?_, rfl⟩
              have e3 := dg_nat8 (V a) i.toNat
              have e4 := dg_nat8 (V b) i.toNat
              rw [cmpN_at8 (k := lnw 28 (V a)) (i := i.toNat) (lnw_lt (by decide)) (by rw [show lnw 28 (V a) = lnw 28 (V b) by omega]; exact lnw_lt (by decide)) (fun j q1 q2 => h2 j (by omega) q2) (by omega)]
              split <;> omega
    exact loop45 (((((ll a) - 1) + 1).toNat) + 1) ((ll a) - 1) (by omega) (fun j q1 q2 => by omega) (Nat.lt_succ_self _)
  · refine J_aload_n 0 d_M_order_15 rfl rfl ?_
    refine gf_M_13 (by omega) hO rfl d_M_order_16 ?_
    refine J_iload_n 1 d_M_order_19 rfl rfl ?_
    refine J_iaload 0 rfl (by omega) hL (by omega) d_M_order_20 ?_
    refine J_topi (r := ll a) (congrArg (fun q => iI (ll q)) (by omega)) ?_
    refine J_aload_n 0 d_M_order_21 rfl rfl ?_
    refine gf_M_13 (by omega) hO rfl d_M_order_22 ?_
    refine J_iload_n 2 d_M_order_25 rfl rfl ?_
    refine J_iaload 0 rfl (by omega) hL (by omega) d_M_order_26 ?_
    refine J_topi (r := ll b) (congrArg (fun q => iI (ll q)) (by omega)) ?_
    refine J_if_icmpge (tgt := 34) d_M_order_27 (by decide) ⟨by omega, by omega⟩ ⟨by omega, by omega⟩ (fun c27 => ?_) (fun c27 => ?_)
    · refine J_iconst d_M_order_34 ?_
      refine J_iret rfl rfl d_M_order_35 ⟨by decide, by decide⟩ ?_
      exact ⟨_, rfl, rfl, rfl, by rw [cmpN_L8 (by omega)]; split <;> omega, rfl⟩
    · refine J_iconst d_M_order_30 ?_
      refine J_goto (tgt := 35) d_M_order_31 (by decide) ?_
      refine J_iret rfl rfl d_M_order_35 ⟨by decide, by decide⟩ ?_
      exact ⟨_, rfl, rfl, rfl, by rw [cmpN_L8 (by omega)]; split <;> omega, rfl⟩
set_option maxRecDepth 100000 in
set_option maxHeartbeats 4000000 in
theorem c_M_add {l : Launch} (hfl : l.flags = flags0) {D : va_G} {g : Nat → ClassId} {ad : Nat → Nat} {N : Nat} {F : Nat → va_E} {a b t : Nat} {hh ll : Nat → Int} {V : Nat → Nat} {br : Nat → Nat} {vs : List Value}
    (hN : 109 ≤ N) (hO : F 98 = .inr (8, .ref (ad 99) :: .ref (ad 100) :: vs)) (hB : F 99 = aB g hh) (hL : F 100 = aL g ll) (hR : reg br hh ll V) (ha : a < 33) (hb : b < 33) (ht : t < 33) (bra : br a = 0) (brb : br b = 0) (hla2 : lnw 28 (V a) ≤ 25) (hlb2 : lnw 28 (V b) ≤ 25) :
    JC l y_M_add b_M_add 8 (Option.none : Option Jvm.ClassFile.FieldType) rm_M_add (0, 0) D jCl (jTys g) ad N F [.ref (ad 98), .int (iI (a : Int)), .int (iI (b : Int)), .int (iI (t : Int))] (jv ad N (fun F' => ∃ hh' ll' : Nat → Int, reg (va_up br t 0) hh' ll' (va_up V t (V a + V b)) ∧ F' = va_up (va_up F 99 (aB g hh')) 100 (aL g ll'))) := by
  obtain ⟨hla, hma⟩ := reg_len hR ha bra
  obtain ⟨hlb, hmb⟩ := reg_len hR hb brb
  obtain ⟨mx, hmx⟩ : ∃ mx : Nat, mx = max (lnw 28 (V a)) (lnw 28 (V b)) := ⟨_, rfl⟩
  have hlT := lnw_add8 (a := V a) (b := V b)
  refine JC.go hfl (own := "NumberTowerModel") (lv := [(0, .ref (ad 98)), (1, .int (iI (a : Int))), (2, .int (iI (b : Int))), (3, .int (iI (t : Int)))]) rfl (by decide +kernel) (Nat.le_of_ble_eq_true rfl) rfl (fun A => ?_)
  have lab30 : J l rm_M_add (0, 0) "NumberTowerModel" b_M_add 8 (Option.none : Option Jvm.ClassFile.FieldType) D jCl (jTys g) A (fun _ me => me.name = y_M_add.name) (jv ad N (fun F' => ∃ hh' ll' : Nat → Int, reg (va_up br t 0) hh' ll' (va_up V t (V a + V b)) ∧ F' = va_up (va_up F 99 (aB g hh')) 100 (aL g ll'))) ad N 0 0 30 [(0, .ref (ad 98)), (1, .int (iI (a : Int))), (2, .int (iI (b : Int))), (3, .int (iI (t : Int)))] [.int (iI (mx : Int))] F := by
    refine J_istore (lv' := [(4, .int (iI (mx : Int))), (0, .ref (ad 98)), (1, .int (iI (a : Int))), (2, .int (iI (b : Int))), (3, .int (iI (t : Int)))]) d_M_add_30 (by decide) rfl ?_
    refine J_iconst d_M_add_32 ?_
    refine J_istore (lv' := [(5, .int (iI 0)), (4, .int (iI (mx : Int))), (0, .ref (ad 98)), (1, .int (iI (a : Int))), (2, .int (iI (b : Int))), (3, .int (iI (t : Int)))]) d_M_add_33 (by decide) rfl ?_
    refine J_iconst d_M_add_35 ?_
    refine J_istore (lv' := [(6, .int (iI 0)), (5, .int (iI 0)), (4, .int (iI (mx : Int))), (0, .ref (ad 98)), (1, .int (iI (a : Int))), (2, .int (iI (b : Int))), (3, .int (iI (t : Int)))]) d_M_add_36 (by decide) rfl ?_
    refine J_pick (lv' := [(0, .ref (ad 98)), (1, .int (iI (a : Int))), (2, .int (iI (b : Int))), (3, .int (iI (t : Int))), (4, .int (iI (mx : Int))), (5, .int (iI 0)), (6, .int (iI 0))]) [3, 4, 5, 6, 2, 1, 0] rfl ?_
    have loop38 : ∀ (fuel : Nat) (i : Nat) (c : Int) (f : Nat → Int) (h1 : i ≤ mx + 1) (hc : c = (cy8 (V a) (V b % 2 ^ (28 * i)) i : Int)) (hf : f = sg t 0 i (dg8 (V a + V b)) hh) (hfu : mx + 1 - i < fuel), J l rm_M_add (0, 0) "NumberTowerModel" b_M_add 8 (Option.none : Option Jvm.ClassFile.FieldType) D jCl (jTys g) A (fun _ me => me.name = y_M_add.name) (jv ad N (fun F' => ∃ hh' ll' : Nat → Int, reg (va_up br t 0) hh' ll' (va_up V t (V a + V b)) ∧ F' = va_up (va_up F 99 (aB g hh')) 100 (aL g ll'))) ad N 0 0 38 [(0, .ref (ad 98)), (1, .int (iI (a : Int))), (2, .int (iI (b : Int))), (3, .int (iI (t : Int))), (4, .int (iI (mx : Int))), (5, .int (iI c)), (6, .int (iI (i : Int)))] [] (va_up F 99 (.inl (g 0, 858, .inl (aI f)))) := by
      intro fuel
      induction fuel with
      | zero => intro i c f h1 hc hf hfu; exact absurd hfu (Nat.not_lt_zero _)
      | succ fuel ih =>
        intro i c f h1 hc hf hfu
        have hc2 : cy8 (V a) (V b % 2 ^ (28 * i)) i ≤ 1 := cy_le8 (by rw [Nat.one_mul]; exact low_b8 _ _)
        have bda := dgt_b8 (V a) i
        have bdb := dgt_b8 (V b) i
        have hda := dg_nat8 (V a) i
        have hdb := dg_nat8 (V b) i
        refine J_iload 6 d_M_add_38 rfl ?_
        refine J_iload 4 d_M_add_40 rfl ?_
        refine J_if_icmpgt (tgt := 95) d_M_add_42 (by decide) ⟨by omega, by omega⟩ ⟨by omega, by omega⟩ (fun c42 => ?_) (fun c42 => ?_)
        · refine J_aload_n 0 d_M_add_95 rfl rfl ?_
          refine gf_M_13 (by omega) (by rw [va_up_ne _ _ (by decide)]; exact hO) rfl d_M_add_96 ?_
          refine J_iload_n 3 d_M_add_99 rfl rfl ?_
          refine J_iload 4 d_M_add_100 rfl ?_
          refine J_iconst d_M_add_102 ?_
          refine J_iadd d_M_add_103 ?_
          refine J_iastore 0 rfl (by omega) (by rw [va_up_ne _ _ (by decide)]; exact hL) (by omega) d_M_add_104 ?_
          refine J_eqF (F2 := va_up (va_up F 99 (.inl (g 0, 858, .inl (aI f)))) 100 (.inl (g 0, 33, .inl (aI (va_up ll t ((mx : Int) + 1)))))) (congrArg (fun q => va_up (va_up F 99 (.inl (g 0, 858, .inl (aI f)))) 100 (.inl (g 0, 33, .inl (aI (va_up ll q ((mx : Int) + 1)))))) (by omega : (t : Int).toNat = t)) ?_
          refine J_aload_n 0 d_M_add_105 rfl rfl ?_
          refine J_iload_n 3 d_M_add_106 rfl rfl ?_
          refine J_callVv cw_M_50 nh_M_trim pn_M_trim rfl rfl (by omega) (by rw [va_up_ne _ _ (by decide), va_up_ne _ _ (by decide)]; exact hO) (As := [.int (iI (t : Int))]) (rest := []) rfl (Nat.le_of_ble_eq_true rfl) ⟨by decide, by decide⟩ rfl ⟨by decide, by decide⟩ d_M_add_107 (c_M_trim hfl (a := t) (T := (V a + V b)) (c := (mx + 1)) (hh := f) (ll := (va_up ll t ((mx : Int) + 1))) hN (by rw [va_up_ne _ _ (by decide), va_up_ne _ _ (by decide)]; exact hO) (by rw [va_up_ne _ _ (by decide), va_up_self]) (by rw [va_up_self]) (by omega) ⟨by rw [va_up_self]; omega, by omega, by omega⟩ (fun j hj => by rw [hf]; exact sg_in (by omega) (by omega))) (fun  F1 hq => ?_)
          have eF1 := hq
          refine J_eqF (F2 := va_up (va_up F 99 (.inl (g 0, 858, .inl (aI f)))) 100 (.inl (g 0, 33, .inl (aI (va_up (va_up ll t ((mx : Int) + 1)) t (lnw 28 (V a + V b) : Int)))))) (eF1.trans (up_in0)) ?_
          refine J_vret rfl d_M_add_110 ⟨by decide, by decide⟩ ?_
          exact ⟨rfl, rfl, rfl, _, _, reg_any hR (by omega) (dg8 (V a + V b)) i ⟨by omega, by omega⟩ (fun j hj => rfl) hf, by rw [up_in0]⟩
        · refine J_aload_n 0 d_M_add_45 rfl rfl ?_
          refine J_iload_n 1 d_M_add_46 rfl rfl ?_
          refine J_iload 6 d_M_add_47 rfl ?_
          refine J_callVi cw_M_45 nh_M_limb pn_M_limb rfl rfl (by omega) (by rw [va_up_ne _ _ (by decide)]; exact hO) (As := [.int (iI (a : Int)), .int (iI (i : Int))]) (rest := []) rfl (Nat.le_of_ble_eq_true rfl) ⟨by decide, by decide⟩ rfl ⟨by decide, by decide⟩ d_M_add_49 (c_M_limb hfl (a := a) (k := i) (hh := f) (ll := ll) hN (by rw [va_up_ne _ _ (by decide)]; exact hO) (by rw [va_up_self]) (by rw [va_up_ne _ _ (by decide)]; exact hL) (by omega) (by omega)) (fun x1 F2 hq => ?_)
          obtain ⟨hx1, eF2⟩ := hq
          refine J_eqF eF2 ?_
          have hx1d : x1 = dg8 (V a) i := by rw [hx1]; exact reg_limb hR ha bra (f := f) (fun hj => by rw [hf]; exact sg_out (by omega))
          refine J_aload_n 0 d_M_add_52 rfl rfl ?_
          refine J_iload_n 2 d_M_add_53 rfl rfl ?_
          refine J_iload 6 d_M_add_54 rfl ?_
          refine J_callVi cw_M_45 nh_M_limb pn_M_limb rfl rfl (by omega) (by rw [va_up_ne _ _ (by decide)]; exact hO) (As := [.int (iI (b : Int)), .int (iI (i : Int))]) (rest := [.int (iI x1)]) rfl (Nat.le_of_ble_eq_true rfl) ⟨by decide, by decide⟩ rfl ⟨by decide, by decide⟩ d_M_add_56 (c_M_limb hfl (a := b) (k := i) (hh := f) (ll := ll) hN (by rw [va_up_ne _ _ (by decide)]; exact hO) (by rw [va_up_self]) (by rw [va_up_ne _ _ (by decide)]; exact hL) (by omega) (by omega)) (fun x2 F3 hq => ?_)
          obtain ⟨hx2, eF3⟩ := hq
          refine J_eqF eF3 ?_
          have hx2d : x2 = dg8 (V b) i := by rw [hx2]; exact reg_limb hR hb brb (f := f) (fun hj => by rw [hf]; exact sg_out (by omega))
          refine J_iadd d_M_add_59 ?_
          refine J_iload 5 d_M_add_60 rfl ?_
          refine J_iadd d_M_add_62 ?_
          refine J_istore (lv' := [(7, .int (iI ((x1 + x2) + c))), (0, .ref (ad 98)), (1, .int (iI (a : Int))), (2, .int (iI (b : Int))), (3, .int (iI (t : Int))), (4, .int (iI (mx : Int))), (5, .int (iI c)), (6, .int (iI (i : Int)))]) d_M_add_63 (by decide) rfl ?_
          refine J_aload_n 1 d_M_add_65 rfl rfl ?_
          refine gf_M_7 (by omega) (by rw [va_up_ne _ _ (by decide)]; exact hO) rfl d_M_add_66 ?_
          refine J_bipush d_M_add_69 (i8_ok (by decide)) ?_
          refine J_iload_n 4 d_M_add_71 rfl rfl ?_
          refine J_imul d_M_add_72 ?_
          refine J_iload 7 d_M_add_73 rfl ?_
          refine J_iadd d_M_add_75 ?_
          refine J_iload 0 d_M_add_76 rfl ?_
          refine J_ldc (z := 268435455) d_M_add_78 wd_1142 (by decide) ?_
          refine J_iand (r := ((x1 + x2) + c) % 268435456) d_M_add_80 (iI_and 28 (by decide)) ?_
          refine J_iastore 0 rfl (by omega) (by rw [va_up_self]) (by omega) d_M_add_81 ?_
          refine J_eqF (F2 := va_up (va_up F 99 (.inl (g 0, 858, .inl (aI f)))) 99 (.inl (g 0, 858, .inl (aI (va_up f ((26 * t) + i) (((x1 + x2) + c) % 268435456)))))) (congrArg (fun q => va_up (va_up F 99 (.inl (g 0, 858, .inl (aI f)))) 99 (.inl (g 0, 858, .inl (aI (va_up f q (((x1 + x2) + c) % 268435456)))))) (by omega : ((26 * (t : Int)) + (i : Int)).toNat = (26 * t) + i)) ?_
          refine J_eqF (F2 := va_up F 99 (.inl (g 0, 858, .inl (aI (va_up f ((26 * t) + i) (((x1 + x2) + c) % 268435456)))))) (up_in0) ?_
          refine J_iload 0 d_M_add_82 rfl ?_
          refine J_bipush d_M_add_84 (i8_ok (by decide)) ?_
          refine J_ishr (r := ((x1 + x2) + c) / 268435456) d_M_add_86 (iI_shr ⟨by omega, by omega⟩ 28 (by decide)) ?_
          refine J_istore (lv' := [(5, .int (iI (((x1 + x2) + c) / 268435456))), (7, .int (iI ((x1 + x2) + c))), (0, .ref (ad 98)), (1, .int (iI (a : Int))), (2, .int (iI (b : Int))), (3, .int (iI (t : Int))), (4, .int (iI (mx : Int))), (6, .int (iI (i : Int)))]) d_M_add_87 (by decide) rfl ?_
          refine J_iinc (j := 7) (b := (i : Int) + 1) (lv' := [(6, .int (iI ((i : Int) + 1))), (5, .int (iI (((x1 + x2) + c) / 268435456))), (7, .int (iI ((x1 + x2) + c))), (0, .ref (ad 98)), (1, .int (iI (a : Int))), (2, .int (iI (b : Int))), (3, .int (iI (t : Int))), (4, .int (iI (mx : Int)))]) d_M_add_89 rfl (by omega) (by decide) rfl ?_
          refine J_goto (tgt := 38) d_M_add_92 (by decide) ?_
          refine J_pick (lv' := [(0, .ref (ad 98)), (1, .int (iI (a : Int))), (2, .int (iI (b : Int))), (3, .int (iI (t : Int))), (4, .int (iI (mx : Int))), (5, .int (iI (((x1 + x2) + c) / 268435456))), (6, .int (iI ((i : Int) + 1)))]) [3, 4, 5, 6, 7, 1, 0] rfl ?_
          refine ih (i + 1) (((x1 + x2) + c) / 268435456) (va_up f ((26 * t) + i) (((x1 + x2) + c) % 268435456)) (by omega) ?_ ?_ (by omega)
          · have e1 := cy_step8 (X := V a) (t := i) (low_w8 (V b) i)
            rw [e1]
            omega
          · rw [hf]
            refine sg_up (by omega) ?_
            have e1 := cy_dig8 (X := V a) (T := V a + V b) (t := i) (Y := V b % 2 ^ (28 * i)) (w := dgt 28 (V b) i) (q := V b / 2 ^ (28 * (i + 1))) (by rw [← low_w8, Nat.add_assoc, ← low_q8])
            have e4 := dg_nat8 (V a + V b) i
            omega
    refine J_eqF (F2 := va_up F 99 (.inl (g 0, 858, .inl (aI hh)))) (up_same1 hB) ?_
    exact loop38 ((mx + 1 - 0) + 1) 0 (0 : Int) hh (by omega) (by rw [Nat.mul_zero, Nat.pow_zero, Nat.mod_one, cy_08]; rfl) (sg_0 _ _ _ _) (Nat.lt_succ_self _)
  refine J_aload_n 0 d_M_add_0 rfl rfl ?_
  refine gf_M_13 (by omega) hO rfl d_M_add_1 ?_
  refine J_iload_n 1 d_M_add_4 rfl rfl ?_
  refine J_iaload 0 rfl (by omega) hL (by omega) d_M_add_5 ?_
  refine J_topi (r := ll a) (congrArg (fun q => iI (ll q)) (by omega)) ?_
  refine J_aload_n 0 d_M_add_6 rfl rfl ?_
  refine gf_M_13 (by omega) hO rfl d_M_add_7 ?_
  refine J_iload_n 2 d_M_add_10 rfl rfl ?_
  refine J_iaload 0 rfl (by omega) hL (by omega) d_M_add_11 ?_
  refine J_topi (r := ll b) (congrArg (fun q => iI (ll q)) (by omega)) ?_
  refine J_if_icmple (tgt := 24) d_M_add_12 (by decide) ⟨by omega, by omega⟩ ⟨by omega, by omega⟩ (fun c12 => ?_) (fun c12 => ?_)
  · refine J_aload_n 0 d_M_add_24 rfl rfl ?_
    refine gf_M_13 (by omega) hO rfl d_M_add_25 ?_
    refine J_iload_n 2 d_M_add_28 rfl rfl ?_
    refine J_iaload 0 rfl (by omega) hL (by omega) d_M_add_29 ?_
    refine J_topi (r := ll b) (congrArg (fun q => iI (ll q)) (by omega)) ?_
    refine J_topi (r := (mx : Int)) (congrArg iI (by omega)) ?_
    exact lab30  
  · refine J_aload_n 0 d_M_add_15 rfl rfl ?_
    refine gf_M_13 (by omega) hO rfl d_M_add_16 ?_
    refine J_iload_n 1 d_M_add_19 rfl rfl ?_
    refine J_iaload 0 rfl (by omega) hL (by omega) d_M_add_20 ?_
    refine J_topi (r := ll a) (congrArg (fun q => iI (ll q)) (by omega)) ?_
    refine J_goto (tgt := 30) d_M_add_21 (by decide) ?_
    refine J_topi (r := (mx : Int)) (congrArg iI (by omega)) ?_
    exact lab30  
set_option maxRecDepth 100000 in
set_option maxHeartbeats 4000000 in
theorem c_M_less {l : Launch} (hfl : l.flags = flags0) {D : va_G} {g : Nat → ClassId} {ad : Nat → Nat} {N : Nat} {F : Nat → va_E} {a b t r : Nat} {hh ll : Nat → Int} {V : Nat → Nat} {br : Nat → Nat} {vs : List Value}
    (hN : 109 ≤ N) (hO : F 98 = .inr (8, .ref (ad 99) :: .ref (ad 100) :: vs)) (hB : F 99 = aB g hh) (hL : F 100 = aL g ll) (hR : reg br hh ll V) (ha : a < 33) (hb : b < 33) (ht : t < 33) (bra : br a = 0) (brb : br b = 0) (hr : V a = r + V b) :
    JC l y_M_less b_M_less 8 (Option.none : Option Jvm.ClassFile.FieldType) rm_M_less (0, 0) D jCl (jTys g) ad N F [.ref (ad 98), .int (iI (a : Int)), .int (iI (b : Int)), .int (iI (t : Int))] (jv ad N (fun F' => ∃ hh' ll' : Nat → Int, reg (va_up br t 0) hh' ll' (va_up V t r) ∧ F' = va_up (va_up F 99 (aB g hh')) 100 (aL g ll'))) := by
  obtain ⟨hla, hma⟩ := reg_len hR ha bra
  obtain ⟨hlb, hmb⟩ := reg_len hR hb brb
  have hlr : lnw 28 r ≤ lnw 28 (V a) := lnw_mono8 (by omega)
  have hlb3 : lnw 28 (V b) ≤ lnw 28 (V a) := lnw_mono8 (by omega)
  refine JC.go hfl (own := "NumberTowerModel") (lv := [(0, .ref (ad 98)), (1, .int (iI (a : Int))), (2, .int (iI (b : Int))), (3, .int (iI (t : Int)))]) rfl (by decide +kernel) (Nat.le_of_ble_eq_true rfl) rfl (fun A => ?_)
  refine J_aload_n 0 d_M_less_0 rfl rfl ?_
  refine gf_M_13 (by omega) hO rfl d_M_less_1 ?_
  refine J_iload_n 1 d_M_less_4 rfl rfl ?_
  refine J_iaload 0 rfl (by omega) hL (by omega) d_M_less_5 ?_
  refine J_topi (r := ll a) (congrArg (fun q => iI (ll q)) (by omega)) ?_
  refine J_istore (lv' := [(4, .int (iI (ll a))), (0, .ref (ad 98)), (1, .int (iI (a : Int))), (2, .int (iI (b : Int))), (3, .int (iI (t : Int)))]) d_M_less_6 (by decide) rfl ?_
  refine J_iconst d_M_less_8 ?_
  refine J_istore (lv' := [(5, .int (iI 0)), (4, .int (iI (ll a))), (0, .ref (ad 98)), (1, .int (iI (a : Int))), (2, .int (iI (b : Int))), (3, .int (iI (t : Int)))]) d_M_less_9 (by decide) rfl ?_
  refine J_iconst d_M_less_11 ?_
  refine J_istore (lv' := [(6, .int (iI 0)), (5, .int (iI 0)), (4, .int (iI (ll a))), (0, .ref (ad 98)), (1, .int (iI (a : Int))), (2, .int (iI (b : Int))), (3, .int (iI (t : Int)))]) d_M_less_12 (by decide) rfl ?_
  refine J_pick (lv' := [(0, .ref (ad 98)), (1, .int (iI (a : Int))), (2, .int (iI (b : Int))), (3, .int (iI (t : Int))), (4, .int (iI (ll a))), (5, .int (iI 0)), (6, .int (iI 0))]) [3, 4, 5, 6, 2, 1, 0] rfl ?_
  have loop14 : ∀ (fuel : Nat) (i : Nat) (c : Int) (f : Nat → Int) (h1 : i ≤ lnw 28 (V a)) (hc : c = (cy8 r (V b % 2 ^ (28 * i)) i : Int)) (hf : f = sg t 0 i (dg8 r) hh) (hfu : lnw 28 (V a) - i < fuel), J l rm_M_less (0, 0) "NumberTowerModel" b_M_less 8 (Option.none : Option Jvm.ClassFile.FieldType) D jCl (jTys g) A (fun _ me => me.name = y_M_less.name) (jv ad N (fun F' => ∃ hh' ll' : Nat → Int, reg (va_up br t 0) hh' ll' (va_up V t r) ∧ F' = va_up (va_up F 99 (aB g hh')) 100 (aL g ll'))) ad N 0 0 14 [(0, .ref (ad 98)), (1, .int (iI (a : Int))), (2, .int (iI (b : Int))), (3, .int (iI (t : Int))), (4, .int (iI (ll a))), (5, .int (iI c)), (6, .int (iI (i : Int)))] [] (va_up F 99 (.inl (g 0, 858, .inl (aI f)))) := by
    intro fuel
    induction fuel with
    | zero => intro i c f h1 hc hf hfu; exact absurd hfu (Nat.not_lt_zero _)
    | succ fuel ih =>
      intro i c f h1 hc hf hfu
      have hc2 : cy8 r (V b % 2 ^ (28 * i)) i ≤ 1 := cy_le8 (by rw [Nat.one_mul]; exact low_b8 _ _)
      have hdig := cy_dig8 (X := r) (T := V a) (t := i) (Y := V b % 2 ^ (28 * i)) (w := dgt 28 (V b) i) (q := V b / 2 ^ (28 * (i + 1))) (by rw [← low_w8, Nat.add_assoc, ← low_q8, hr])
      have bda := dgt_b8 r i
      have bdb := dgt_b8 (V b) i
      have hda := dg_nat8 (V a) i
      have hdb := dg_nat8 (V b) i
      have hdr := dg_nat8 r i
      refine J_iload 6 d_M_less_14 rfl ?_
      refine J_iload 4 d_M_less_16 rfl ?_
      refine J_if_icmpge (tgt := 76) d_M_less_18 (by decide) ⟨by omega, by omega⟩ ⟨by omega, by omega⟩ (fun c18 => ?_) (fun c18 => ?_)
      · refine J_aload_n 0 d_M_less_76 rfl rfl ?_
        refine gf_M_13 (by omega) (by rw [va_up_ne _ _ (by decide)]; exact hO) rfl d_M_less_77 ?_
        refine J_iload_n 3 d_M_less_80 rfl rfl ?_
        refine J_iload 4 d_M_less_81 rfl ?_
        refine J_iastore 0 rfl (by omega) (by rw [va_up_ne _ _ (by decide)]; exact hL) (by omega) d_M_less_83 ?_
        refine J_eqF (F2 := va_up (va_up F 99 (.inl (g 0, 858, .inl (aI f)))) 100 (.inl (g 0, 33, .inl (aI (va_up ll t (ll a)))))) (congrArg (fun q => va_up (va_up F 99 (.inl (g 0, 858, .inl (aI f)))) 100 (.inl (g 0, 33, .inl (aI (va_up ll q (ll a)))))) (by omega : (t : Int).toNat = t)) ?_
        refine J_aload_n 0 d_M_less_84 rfl rfl ?_
        refine J_iload_n 3 d_M_less_85 rfl rfl ?_
        refine J_callVv cw_M_50 nh_M_trim pn_M_trim rfl rfl (by omega) (by rw [va_up_ne _ _ (by decide), va_up_ne _ _ (by decide)]; exact hO) (As := [.int (iI (t : Int))]) (rest := []) rfl (Nat.le_of_ble_eq_true rfl) ⟨by decide, by decide⟩ rfl ⟨by decide, by decide⟩ d_M_less_86 (c_M_trim hfl (a := t) (T := r) (c := (lnw 28 (V a))) (hh := f) (ll := (va_up ll t (ll a))) hN (by rw [va_up_ne _ _ (by decide), va_up_ne _ _ (by decide)]; exact hO) (by rw [va_up_ne _ _ (by decide), va_up_self]) (by rw [va_up_self]) (by omega) ⟨by rw [va_up_self]; omega, by omega, by omega⟩ (fun j hj => by rw [hf]; exact sg_in (by omega) (by omega))) (fun  F1 hq => ?_)
        have eF1 := hq
        refine J_eqF (F2 := va_up (va_up F 99 (.inl (g 0, 858, .inl (aI f)))) 100 (.inl (g 0, 33, .inl (aI (va_up (va_up ll t (ll a)) t (lnw 28 r : Int)))))) (eF1.trans (up_in0)) ?_
        refine J_vret rfl d_M_less_89 ⟨by decide, by decide⟩ ?_
        exact ⟨rfl, rfl, rfl, _, _, reg_any hR (by omega) (dg8 r) i ⟨by omega, by omega⟩ (fun j hj => rfl) hf, by rw [up_in0]⟩
      · refine J_aload_n 0 d_M_less_21 rfl rfl ?_
        refine J_iload_n 1 d_M_less_22 rfl rfl ?_
        refine J_iload 6 d_M_less_23 rfl ?_
        refine J_callVi cw_M_45 nh_M_limb pn_M_limb rfl rfl (by omega) (by rw [va_up_ne _ _ (by decide)]; exact hO) (As := [.int (iI (a : Int)), .int (iI (i : Int))]) (rest := []) rfl (Nat.le_of_ble_eq_true rfl) ⟨by decide, by decide⟩ rfl ⟨by decide, by decide⟩ d_M_less_25 (c_M_limb hfl (a := a) (k := i) (hh := f) (ll := ll) hN (by rw [va_up_ne _ _ (by decide)]; exact hO) (by rw [va_up_self]) (by rw [va_up_ne _ _ (by decide)]; exact hL) (by omega) (by omega)) (fun x1 F2 hq => ?_)
        obtain ⟨hx1, eF2⟩ := hq
        refine J_eqF eF2 ?_
        have hx1d : x1 = dg8 (V a) i := by rw [hx1]; exact reg_limb hR ha bra (f := f) (fun hj => by rw [hf]; exact sg_out (by omega))
        refine J_aload_n 0 d_M_less_28 rfl rfl ?_
        refine J_iload_n 2 d_M_less_29 rfl rfl ?_
        refine J_iload 6 d_M_less_30 rfl ?_
        refine J_callVi cw_M_45 nh_M_limb pn_M_limb rfl rfl (by omega) (by rw [va_up_ne _ _ (by decide)]; exact hO) (As := [.int (iI (b : Int)), .int (iI (i : Int))]) (rest := [.int (iI x1)]) rfl (Nat.le_of_ble_eq_true rfl) ⟨by decide, by decide⟩ rfl ⟨by decide, by decide⟩ d_M_less_32 (c_M_limb hfl (a := b) (k := i) (hh := f) (ll := ll) hN (by rw [va_up_ne _ _ (by decide)]; exact hO) (by rw [va_up_self]) (by rw [va_up_ne _ _ (by decide)]; exact hL) (by omega) (by omega)) (fun x2 F3 hq => ?_)
        obtain ⟨hx2, eF3⟩ := hq
        refine J_eqF eF3 ?_
        have hx2d : x2 = dg8 (V b) i := by rw [hx2]; exact reg_limb hR hb brb (f := f) (fun hj => by rw [hf]; exact sg_out (by omega))
        refine J_isub d_M_less_35 ?_
        refine J_iload 5 d_M_less_36 rfl ?_
        refine J_isub d_M_less_38 ?_
        refine J_istore (lv' := [(7, .int (iI ((x1 - x2) - c))), (0, .ref (ad 98)), (1, .int (iI (a : Int))), (2, .int (iI (b : Int))), (3, .int (iI (t : Int))), (4, .int (iI (ll a))), (5, .int (iI c)), (6, .int (iI (i : Int)))]) d_M_less_39 (by decide) rfl ?_
        refine J_aload_n 1 d_M_less_41 rfl rfl ?_
        refine gf_M_7 (by omega) (by rw [va_up_ne _ _ (by decide)]; exact hO) rfl d_M_less_42 ?_
        refine J_bipush d_M_less_45 (i8_ok (by decide)) ?_
        refine J_iload_n 4 d_M_less_47 rfl rfl ?_
        refine J_imul d_M_less_48 ?_
        refine J_iload 7 d_M_less_49 rfl ?_
        refine J_iadd d_M_less_51 ?_
        refine J_iload 0 d_M_less_52 rfl ?_
        refine J_ldc (z := 268435455) d_M_less_54 wd_1142 (by decide) ?_
        refine J_iand (r := ((x1 - x2) - c) % 268435456) d_M_less_56 (iI_and 28 (by decide)) ?_
        refine J_iastore 0 rfl (by omega) (by rw [va_up_self]) (by omega) d_M_less_57 ?_
        refine J_eqF (F2 := va_up (va_up F 99 (.inl (g 0, 858, .inl (aI f)))) 99 (.inl (g 0, 858, .inl (aI (va_up f ((26 * t) + i) (((x1 - x2) - c) % 268435456)))))) (congrArg (fun q => va_up (va_up F 99 (.inl (g 0, 858, .inl (aI f)))) 99 (.inl (g 0, 858, .inl (aI (va_up f q (((x1 - x2) - c) % 268435456)))))) (by omega : ((26 * (t : Int)) + (i : Int)).toNat = (26 * t) + i)) ?_
        refine J_eqF (F2 := va_up F 99 (.inl (g 0, 858, .inl (aI (va_up f ((26 * t) + i) (((x1 - x2) - c) % 268435456)))))) (up_in0) ?_
        have lab68 : ∀ (e : Int) (hb5 : (e = 1 ∧ x1 - x2 - c < 0) ∨ (e = 0 ∧ ¬ x1 - x2 - c < 0)) , J l rm_M_less (0, 0) "NumberTowerModel" b_M_less 8 (Option.none : Option Jvm.ClassFile.FieldType) D jCl (jTys g) A (fun _ me => me.name = y_M_less.name) (jv ad N (fun F' => ∃ hh' ll' : Nat → Int, reg (va_up br t 0) hh' ll' (va_up V t r) ∧ F' = va_up (va_up F 99 (aB g hh')) 100 (aL g ll'))) ad N 0 0 68 [(0, .ref (ad 98)), (1, .int (iI (a : Int))), (2, .int (iI (b : Int))), (3, .int (iI (t : Int))), (4, .int (iI (ll a))), (6, .int (iI (i : Int))), (7, .int (iI ((x1 - x2) - c)))] [.int (iI e)] (va_up F 99 (.inl (g 0, 858, .inl (aI (va_up f ((26 * t) + i) (((x1 - x2) - c) % 268435456)))))) := by
          intro e hb5
          refine J_istore (lv' := [(5, .int (iI e)), (0, .ref (ad 98)), (1, .int (iI (a : Int))), (2, .int (iI (b : Int))), (3, .int (iI (t : Int))), (4, .int (iI (ll a))), (6, .int (iI (i : Int))), (7, .int (iI ((x1 - x2) - c)))]) d_M_less_68 (by decide) rfl ?_
          refine J_iinc (j := 6) (b := (i : Int) + 1) (lv' := [(6, .int (iI ((i : Int) + 1))), (5, .int (iI e)), (0, .ref (ad 98)), (1, .int (iI (a : Int))), (2, .int (iI (b : Int))), (3, .int (iI (t : Int))), (4, .int (iI (ll a))), (7, .int (iI ((x1 - x2) - c)))]) d_M_less_70 rfl (by omega) (by decide) rfl ?_
          refine J_goto (tgt := 14) d_M_less_73 (by decide) ?_
          refine J_pick (lv' := [(0, .ref (ad 98)), (1, .int (iI (a : Int))), (2, .int (iI (b : Int))), (3, .int (iI (t : Int))), (4, .int (iI (ll a))), (5, .int (iI e)), (6, .int (iI ((i : Int) + 1)))]) [2, 3, 4, 5, 6, 1, 0] rfl ?_
          refine ih (i + 1) e (va_up f ((26 * t) + i) (((x1 - x2) - c) % 268435456)) (by omega) ?_ ?_ (by omega)
          · have e1 := cy_step8 (X := r) (t := i) (low_w8 (V b) i)
            rw [e1]
            omega
          · rw [hf]
            refine sg_up (by omega) ?_
            omega
        refine J_iload 0 d_M_less_58 rfl ?_
        refine J_ifge (tgt := 67) d_M_less_60 (by decide) ⟨by omega, by omega⟩ (fun c60 => ?_) (fun c60 => ?_)
        · refine J_iconst d_M_less_67 ?_
          refine J_pick (lv' := [(0, .ref (ad 98)), (1, .int (iI (a : Int))), (2, .int (iI (b : Int))), (3, .int (iI (t : Int))), (4, .int (iI (ll a))), (6, .int (iI (i : Int))), (7, .int (iI ((x1 - x2) - c)))]) [1, 2, 3, 4, 5, 7, 0] rfl ?_
          exact lab68 (0 : Int) (by omega)
        · refine J_iconst d_M_less_63 ?_
          refine J_goto (tgt := 68) d_M_less_64 (by decide) ?_
          refine J_pick (lv' := [(0, .ref (ad 98)), (1, .int (iI (a : Int))), (2, .int (iI (b : Int))), (3, .int (iI (t : Int))), (4, .int (iI (ll a))), (6, .int (iI (i : Int))), (7, .int (iI ((x1 - x2) - c)))]) [1, 2, 3, 4, 5, 7, 0] rfl ?_
          exact lab68 (1 : Int) (by omega)
  refine J_eqF (F2 := va_up F 99 (.inl (g 0, 858, .inl (aI hh)))) (up_same1 hB) ?_
  exact loop14 ((lnw 28 (V a) - 0) + 1) 0 (0 : Int) hh (by omega) (by rw [Nat.mul_zero, Nat.pow_zero, Nat.mod_one, cy_08]; rfl) (sg_0 _ _ _ _) (Nat.lt_succ_self _)
