/-! the Model's regions: products -/
theorem sg_st {a n k : Nat} {A h : Nat → Int} {v : Int} (hk : k < n) : va_up (sg a 0 n A h) (26 * a + k) v = sg a 0 n (va_up A k v) h := by
  funext x
  simp only [va_up, sg]
  by_cases e : x = 26 * a + k
  · subst e; rw [if_pos rfl, if_pos (by omega), if_pos (by omega)]
  · rw [if_neg e]
    by_cases q : 26 * a + 0 ≤ x ∧ x < 26 * a + n
    · rw [if_pos q, if_pos q, if_neg (by omega)]
    · rw [if_neg q, if_neg q]
theorem prodd8 (a b i j : Nat) : dg8 a i * dg8 b j = ((dgt 28 a i * dgt 28 b j : Nat) : Int) := by
  rw [dg_nat8, dg_nat8]; push_cast; rfl
theorem or28 {a b : Nat} (ha : a < 268435456) : b * 268435456 ||| a = b * 268435456 + a := by
  rw [Nat.mul_comm b]
  exact (Nat.two_pow_add_eq_or_of_lt (i := 28) ha b).symm
theorem cy_z8 (T t : Nat) : cy8 0 T t = T / 2 ^ (28 * t) := by unfold cy8; rw [Nat.zero_mod, Nat.zero_add]
set_option maxRecDepth 100000 in
set_option maxHeartbeats 4000000 in
theorem c_M_times {l : Launch} (hfl : l.flags = flags0) {D : va_G} {g : Nat → ClassId} {ad : Nat → Nat} {N : Nat} {F : Nat → va_E} {a b t : Nat} {hh ll : Nat → Int} {V : Nat → Nat} {br : Nat → Nat} {vs : List Value}
    (hN : 109 ≤ N) (hO : F 98 = .inr (8, .ref (ad 99) :: .ref (ad 100) :: vs)) (hB : F 99 = aB g hh) (hL : F 100 = aL g ll) (hR : reg br hh ll V) (ha : a < 33) (hb : b < 33) (ht : t < 33) (bra : br a = 0) (brb : br b = 0) (hat : a ≠ t) (hbt : b ≠ t) (hs : lnw 28 (V a) + lnw 28 (V b) ≤ 26) :
    JC l y_M_times b_M_times 11 (Option.none : Option Jvm.ClassFile.FieldType) rm_M_times (0, 0) D jCl (jTys g) ad N F [.ref (ad 98), .int (iI (a : Int)), .int (iI (b : Int)), .int (iI (t : Int))] (jv ad N (fun F' => ∃ hh' ll' : Nat → Int, reg (va_up br t 0) hh' ll' (va_up V t (V a * V b)) ∧ F' = va_up (va_up F 99 (aB g hh')) 100 (aL g ll'))) := by
  obtain ⟨hla, hma⟩ := reg_len hR ha bra
  obtain ⟨hlb, hmb⟩ := reg_len hR hb brb
  obtain ⟨nn, hnn⟩ : ∃ nn : Nat, nn = lnw 28 (V a) + lnw 28 (V b) := ⟨_, rfl⟩
  have hlT := lnw_mul8 (a := V a) (b := V b)
  refine JC.go hfl (own := "NumberTowerModel") (lv := [(0, .ref (ad 98)), (1, .int (iI (a : Int))), (2, .int (iI (b : Int))), (3, .int (iI (t : Int)))]) rfl (by decide +kernel) (Nat.le_of_ble_eq_true rfl) rfl (fun A => ?_)
  refine J_aload_n 0 d_M_times_0 rfl rfl ?_
  refine gf_M_13 (by omega) hO rfl d_M_times_1 ?_
  refine J_iload_n 1 d_M_times_4 rfl rfl ?_
  refine J_iaload 0 rfl (by omega) hL (by omega) d_M_times_5 ?_
  refine J_topi (r := ll a) (congrArg (fun q => iI (ll q)) (by omega)) ?_
  refine J_aload_n 0 d_M_times_6 rfl rfl ?_
  refine gf_M_13 (by omega) hO rfl d_M_times_7 ?_
  refine J_iload_n 2 d_M_times_10 rfl rfl ?_
  refine J_iaload 0 rfl (by omega) hL (by omega) d_M_times_11 ?_
  refine J_topi (r := ll b) (congrArg (fun q => iI (ll q)) (by omega)) ?_
  refine J_iadd d_M_times_12 ?_
  refine J_topi (r := (nn : Int)) (congrArg iI (by omega)) ?_
  refine J_istore (lv' := [(4, .int (iI (nn : Int))), (0, .ref (ad 98)), (1, .int (iI (a : Int))), (2, .int (iI (b : Int))), (3, .int (iI (t : Int)))]) d_M_times_13 (by decide) rfl ?_
  refine J_iconst d_M_times_15 ?_
  refine J_istore (lv' := [(5, .int (iI 0)), (4, .int (iI (nn : Int))), (0, .ref (ad 98)), (1, .int (iI (a : Int))), (2, .int (iI (b : Int))), (3, .int (iI (t : Int)))]) d_M_times_16 (by decide) rfl ?_
  refine J_pick (lv' := [(0, .ref (ad 98)), (1, .int (iI (a : Int))), (2, .int (iI (b : Int))), (3, .int (iI (t : Int))), (4, .int (iI (nn : Int))), (5, .int (iI 0))]) [2, 3, 4, 5, 1, 0] rfl ?_
  have loop18 : ∀ (fuel : Nat) (p : Nat) (f0 : Nat → Int) (h1 : p ≤ nn) (hf0 : f0 = sg t 0 p (fun _ => 0) hh) (hfu : nn - p < fuel), J l rm_M_times (0, 0) "NumberTowerModel" b_M_times 11 (Option.none : Option Jvm.ClassFile.FieldType) D jCl (jTys g) A (fun _ me => me.name = y_M_times.name) (jv ad N (fun F' => ∃ hh' ll' : Nat → Int, reg (va_up br t 0) hh' ll' (va_up V t (V a * V b)) ∧ F' = va_up (va_up F 99 (aB g hh')) 100 (aL g ll'))) ad N 0 0 18 [(0, .ref (ad 98)), (1, .int (iI (a : Int))), (2, .int (iI (b : Int))), (3, .int (iI (t : Int))), (4, .int (iI (nn : Int))), (5, .int (iI (p : Int)))] [] (va_up F 99 (.inl (g 0, 858, .inl (aI f0)))) := by
    intro fuel
    induction fuel with
    | zero => intro p f0 h1 hf0 hfu; exact absurd hfu (Nat.not_lt_zero _)
    | succ fuel ih =>
      intro p f0 h1 hf0 hfu
      refine J_iload 5 d_M_times_18 rfl ?_
      refine J_iload 4 d_M_times_20 rfl ?_
      refine J_if_icmpge (tgt := 44) d_M_times_22 (by decide) ⟨by omega, by omega⟩ ⟨by omega, by omega⟩ (fun c22 => ?_) (fun c22 => ?_)
      · refine J_iconst d_M_times_44 ?_
        refine J_istore (lv' := [(5, .int (iI 0)), (0, .ref (ad 98)), (1, .int (iI (a : Int))), (2, .int (iI (b : Int))), (3, .int (iI (t : Int))), (4, .int (iI (nn : Int)))]) d_M_times_45 (by decide) rfl ?_
        refine J_pick (lv' := [(0, .ref (ad 98)), (1, .int (iI (a : Int))), (2, .int (iI (b : Int))), (3, .int (iI (t : Int))), (4, .int (iI (nn : Int))), (5, .int (iI 0))]) [1, 2, 3, 4, 5, 0] rfl ?_
        have loop47 : ∀ (fuel : Nat) (i : Nat) (v : Nat) (f : Nat → Int) (h2 : i ≤ lnw 28 (V a)) (hv : v = V a % 2 ^ (28 * i) * V b) (hf : f = sg t 0 nn (dg8 v) hh) (hfu : lnw 28 (V a) - i < fuel), J l rm_M_times (0, 0) "NumberTowerModel" b_M_times 11 (Option.none : Option Jvm.ClassFile.FieldType) D jCl (jTys g) A (fun _ me => me.name = y_M_times.name) (jv ad N (fun F' => ∃ hh' ll' : Nat → Int, reg (va_up br t 0) hh' ll' (va_up V t (V a * V b)) ∧ F' = va_up (va_up F 99 (aB g hh')) 100 (aL g ll'))) ad N 0 0 47 [(0, .ref (ad 98)), (1, .int (iI (a : Int))), (2, .int (iI (b : Int))), (3, .int (iI (t : Int))), (4, .int (iI (nn : Int))), (5, .int (iI (i : Int)))] [] (va_up F 99 (.inl (g 0, 858, .inl (aI f)))) := by
          intro fuel
          induction fuel with
          | zero => intro i v f h2 hv hf hfu; exact absurd hfu (Nat.not_lt_zero _)
          | succ fuel ih =>
            intro i v f h2 hv hf hfu
            have hTe : (v + dgt 28 (V a) i * V b * 2 ^ (28 * i)) = V a % 2 ^ (28 * (i + 1)) * V b := by rw [hv, ← prod_S8]
            have hvT : v ≤ (v + dgt 28 (V a) i * V b * 2 ^ (28 * i)) := Nat.le_add_right _ _
            have hTl : lnw 28 (v + dgt 28 (V a) i * V b * 2 ^ (28 * i)) ≤ i + 1 + lnw 28 (V b) := by
              rw [hTe]
              refine Nat.le_trans lnw_mul8 (Nat.add_le_add_right ((lnw_le (by decide)).mpr (Nat.mod_lt _ (Nat.two_pow_pos _))) _)
            refine J_iload 5 d_M_times_47 rfl ?_
            refine J_aload_n 0 d_M_times_49 rfl rfl ?_
            refine gf_M_13 (by omega) (by rw [va_up_ne _ _ (by decide)]; exact hO) rfl d_M_times_50 ?_
            refine J_iload_n 1 d_M_times_53 rfl rfl ?_
            refine J_iaload 0 rfl (by omega) (by rw [va_up_ne _ _ (by decide)]; exact hL) (by omega) d_M_times_54 ?_
            refine J_topi (r := ll a) (congrArg (fun q => iI (ll q)) (by omega)) ?_
            refine J_if_icmpge (tgt := 173) d_M_times_55 (by decide) ⟨by omega, by omega⟩ ⟨by omega, by omega⟩ (fun c55 => ?_) (fun c55 => ?_)
            · have hv2 : v = V a * V b := by rw [hv, low_e8 (by omega)]
              refine J_aload_n 0 d_M_times_173 rfl rfl ?_
              refine gf_M_13 (by omega) (by rw [va_up_ne _ _ (by decide)]; exact hO) rfl d_M_times_174 ?_
              refine J_iload_n 3 d_M_times_177 rfl rfl ?_
              refine J_iload 4 d_M_times_178 rfl ?_
              refine J_iastore 0 rfl (by omega) (by rw [va_up_ne _ _ (by decide)]; exact hL) (by omega) d_M_times_180 ?_
              refine J_eqF (F2 := va_up (va_up F 99 (.inl (g 0, 858, .inl (aI f)))) 100 (.inl (g 0, 33, .inl (aI (va_up ll t (nn : Int)))))) (congrArg (fun q => va_up (va_up F 99 (.inl (g 0, 858, .inl (aI f)))) 100 (.inl (g 0, 33, .inl (aI (va_up ll q (nn : Int)))))) (by omega : (t : Int).toNat = t)) ?_
              refine J_aload_n 0 d_M_times_181 rfl rfl ?_
              refine J_iload_n 3 d_M_times_182 rfl rfl ?_
              refine J_callVv cw_M_50 nh_M_trim pn_M_trim rfl rfl (by omega) (by rw [va_up_ne _ _ (by decide), va_up_ne _ _ (by decide)]; exact hO) (As := [.int (iI (t : Int))]) (rest := []) rfl (Nat.le_of_ble_eq_true rfl) ⟨by decide, by decide⟩ rfl ⟨by decide, by decide⟩ d_M_times_183 (c_M_trim hfl (a := t) (T := (V a * V b)) (c := nn) (hh := f) (ll := (va_up ll t (nn : Int))) hN (by rw [va_up_ne _ _ (by decide), va_up_ne _ _ (by decide)]; exact hO) (by rw [va_up_ne _ _ (by decide), va_up_self]) (by rw [va_up_self]) (by omega) ⟨by rw [va_up_self], by omega, by omega⟩ (fun j hj => by rw [hf, sg_in (by omega) (by omega), hv2])) (fun  F1 hq => ?_)
              have eF1 := hq
              refine J_eqF (F2 := va_up (va_up F 99 (.inl (g 0, 858, .inl (aI f)))) 100 (.inl (g 0, 33, .inl (aI (va_up (va_up ll t (nn : Int)) t (lnw 28 (V a * V b) : Int)))))) (eF1.trans (up_in0)) ?_
              refine J_vret rfl d_M_times_186 ⟨by decide, by decide⟩ ?_
              exact ⟨rfl, rfl, rfl, _, _, reg_any hR (by omega) (dg8 v) nn ⟨by omega, by omega⟩ (fun j hj => by rw [hv2]) hf, by rw [up_in0]⟩
            · refine J_lconst (v := 0) d_M_times_58 rfl ?_
              refine J_lstore (lv' := [(6, .long (lI 0)), (0, .ref (ad 98)), (1, .int (iI (a : Int))), (2, .int (iI (b : Int))), (3, .int (iI (t : Int))), (4, .int (iI (nn : Int))), (5, .int (iI (i : Int)))]) d_M_times_59 (by decide) rfl ?_
              refine J_iconst d_M_times_61 ?_
              refine J_istore (lv' := [(8, .int (iI 0)), (6, .long (lI 0)), (0, .ref (ad 98)), (1, .int (iI (a : Int))), (2, .int (iI (b : Int))), (3, .int (iI (t : Int))), (4, .int (iI (nn : Int))), (5, .int (iI (i : Int)))]) d_M_times_62 (by decide) rfl ?_
              have lab167 : ∀ (g2 : Nat → Int) (hg : g2 = sg t 0 nn (dg8 (v + dgt 28 (V a) i * V b * 2 ^ (28 * i))) hh) , J l rm_M_times (0, 0) "NumberTowerModel" b_M_times 11 (Option.none : Option Jvm.ClassFile.FieldType) D jCl (jTys g) A (fun _ me => me.name = y_M_times.name) (jv ad N (fun F' => ∃ hh' ll' : Nat → Int, reg (va_up br t 0) hh' ll' (va_up V t (V a * V b)) ∧ F' = va_up (va_up F 99 (aB g hh')) 100 (aL g ll'))) ad N 0 0 167 [(0, .ref (ad 98)), (1, .int (iI (a : Int))), (2, .int (iI (b : Int))), (3, .int (iI (t : Int))), (4, .int (iI (nn : Int))), (5, .int (iI (i : Int)))] [] (va_up F 99 (.inl (g 0, 858, .inl (aI g2)))) := by
                intro g2 hg
                refine J_iinc (j := 5) (b := (i : Int) + 1) (lv' := [(5, .int (iI ((i : Int) + 1))), (0, .ref (ad 98)), (1, .int (iI (a : Int))), (2, .int (iI (b : Int))), (3, .int (iI (t : Int))), (4, .int (iI (nn : Int)))]) d_M_times_167 rfl (by omega) (by decide) rfl ?_
                refine J_goto (tgt := 47) d_M_times_170 (by decide) ?_
                refine J_pick (lv' := [(0, .ref (ad 98)), (1, .int (iI (a : Int))), (2, .int (iI (b : Int))), (3, .int (iI (t : Int))), (4, .int (iI (nn : Int))), (5, .int (iI ((i : Int) + 1)))]) [1, 2, 3, 4, 5, 0] rfl ?_
                exact ih (i + 1) (v + dgt 28 (V a) i * V b * 2 ^ (28 * i)) g2 (by omega) hTe hg (by omega)
              refine J_pick (lv' := [(0, .ref (ad 98)), (1, .int (iI (a : Int))), (2, .int (iI (b : Int))), (3, .int (iI (t : Int))), (4, .int (iI (nn : Int))), (5, .int (iI (i : Int))), (6, .long (lI 0)), (8, .int (iI 0))]) [2, 3, 4, 5, 6, 7, 1, 0] rfl ?_
              have loop64 : ∀ (fuel : Nat) (j : Nat) (c : Int) (f2 : Nat → Int) (h3 : j ≤ lnw 28 (V b) + 1) (hc : c = (cy8 v (dgt 28 (V a) i * (V b % 2 ^ (28 * j)) * 2 ^ (28 * i)) (i + j) : Int)) (hf2 : f2 = sg t 0 nn (mix (i + j) (dg8 (v + dgt 28 (V a) i * V b * 2 ^ (28 * i))) (dg8 v)) hh) (hfu : lnw 28 (V b) + 1 - j < fuel), J l rm_M_times (0, 0) "NumberTowerModel" b_M_times 11 (Option.none : Option Jvm.ClassFile.FieldType) D jCl (jTys g) A (fun _ me => me.name = y_M_times.name) (jv ad N (fun F' => ∃ hh' ll' : Nat → Int, reg (va_up br t 0) hh' ll' (va_up V t (V a * V b)) ∧ F' = va_up (va_up F 99 (aB g hh')) 100 (aL g ll'))) ad N 0 0 64 [(0, .ref (ad 98)), (1, .int (iI (a : Int))), (2, .int (iI (b : Int))), (3, .int (iI (t : Int))), (4, .int (iI (nn : Int))), (5, .int (iI (i : Int))), (6, .long (lI c)), (8, .int (iI (j : Int)))] [] (va_up F 99 (.inl (g 0, 858, .inl (aI f2)))) := by
                intro fuel
                induction fuel with
                | zero => intro j c f2 h3 hc hf2 hfu; exact absurd hfu (Nat.not_lt_zero _)
                | succ fuel ih =>
                  intro j c f2 h3 hc hf2 hfu
                  have hc2 := cy_le8 (X := v) (prod_c8 (dgt 28 (V a) i) (V b) i j)
                  have bx := dgt_b8 (V a) i
                  have hdx := dg_nat8 (V a) i
                  refine J_iload 7 d_M_times_64 rfl ?_
                  refine J_aload_n 0 d_M_times_66 rfl rfl ?_
                  refine gf_M_13 (by omega) (by rw [va_up_ne _ _ (by decide)]; exact hO) rfl d_M_times_67 ?_
                  refine J_iload_n 2 d_M_times_70 rfl rfl ?_
                  refine J_iaload 0 rfl (by omega) (by rw [va_up_ne _ _ (by decide)]; exact hL) (by omega) d_M_times_71 ?_
                  refine J_topi (r := ll b) (congrArg (fun q => iI (ll q)) (by omega)) ?_
                  refine J_if_icmpgt (tgt := 167) d_M_times_72 (by decide) ⟨by omega, by omega⟩ ⟨by omega, by omega⟩ (fun c72 => ?_) (fun c72 => ?_)
                  · refine J_pick (lv' := [(0, .ref (ad 98)), (1, .int (iI (a : Int))), (2, .int (iI (b : Int))), (3, .int (iI (t : Int))), (4, .int (iI (nn : Int))), (5, .int (iI (i : Int)))]) [0, 1, 2, 3, 4, 5] rfl ?_
                    exact lab167 f2 (by rw [hf2, mix_all (fun jj hj => by rw [dg_zero8 (by omega), dg_zero8 (by have := lnw_mono8 hvT; omega)])])
                  · refine J_iload 5 d_M_times_75 rfl ?_
                    refine J_iload 7 d_M_times_77 rfl ?_
                    refine J_iadd d_M_times_79 ?_
                    refine J_iload 4 d_M_times_80 rfl ?_
                    refine J_if_icmplt (tgt := 88) d_M_times_82 (by decide) ⟨by omega, by omega⟩ ⟨by omega, by omega⟩ (fun c82 => ?_) (fun c82 => ?_)
                    · have hij : i + j < nn := by omega
                      have fa : f2 (26 * a + i) = dg8 (V a) i := by rw [hf2, sg_out (by omega)]; exact reg_dig hR ha bra (by omega)
                      have fi : f2 (26 * t + i + j) = dg8 v (i + j) := by rw [hf2, Nat.add_assoc, sg_in (by omega) (by omega)]; exact mix_hi (by omega)
                      have hdv := dg_nat8 v (i + j)
                      have bv := dgt_b8 v (i + j)
                      refine J_aload_n 0 d_M_times_88 rfl rfl ?_
                      refine gf_M_7 (by omega) (by rw [va_up_ne _ _ (by decide)]; exact hO) rfl d_M_times_89 ?_
                      refine J_bipush d_M_times_92 (i8_ok (by decide)) ?_
                      refine J_iload_n 3 d_M_times_94 rfl rfl ?_
                      refine J_imul d_M_times_95 ?_
                      refine J_iload 5 d_M_times_96 rfl ?_
                      refine J_iadd d_M_times_98 ?_
                      refine J_iload 7 d_M_times_99 rfl ?_
                      refine J_iadd d_M_times_101 ?_
                      refine J_iaload 0 rfl (by omega) (by rw [va_up_self]) (by omega) d_M_times_102 ?_
                      refine J_topi (r := f2 (((26 * t) + i) + j)) (congrArg (fun q => iI (f2 q)) (by omega)) ?_
                      refine J_topi (r := dg8 v (i + j)) (congrArg iI fi) ?_
                      refine J_i2l d_M_times_103 ⟨by omega, by omega⟩ ?_
                      refine J_aload_n 0 d_M_times_104 rfl rfl ?_
                      refine gf_M_7 (by omega) (by rw [va_up_ne _ _ (by decide)]; exact hO) rfl d_M_times_105 ?_
                      refine J_bipush d_M_times_108 (i8_ok (by decide)) ?_
                      refine J_iload_n 1 d_M_times_110 rfl rfl ?_
                      refine J_imul d_M_times_111 ?_
                      refine J_iload 5 d_M_times_112 rfl ?_
                      refine J_iadd d_M_times_114 ?_
                      refine J_iaload 0 rfl (by omega) (by rw [va_up_self]) (by omega) d_M_times_115 ?_
                      refine J_topi (r := f2 ((26 * a) + i)) (congrArg (fun q => iI (f2 q)) (by omega)) ?_
                      refine J_topi (r := dg8 (V a) i) (congrArg iI fa) ?_
                      refine J_i2l d_M_times_116 ⟨by omega, by omega⟩ ?_
                      refine J_aload_n 0 d_M_times_117 rfl rfl ?_
                      refine J_iload_n 2 d_M_times_118 rfl rfl ?_
                      refine J_iload 7 d_M_times_119 rfl ?_
                      refine J_callVi cw_M_45 nh_M_limb pn_M_limb rfl rfl (by omega) (by rw [va_up_ne _ _ (by decide)]; exact hO) (As := [.int (iI (b : Int)), .int (iI (j : Int))]) (rest := [.long (lI (dg8 (V a) i)), .long (lI (dg8 v (i + j)))]) rfl (Nat.le_of_ble_eq_true rfl) ⟨by decide, by decide⟩ rfl ⟨by decide, by decide⟩ d_M_times_121 (c_M_limb hfl (a := b) (k := j) (hh := f2) (ll := ll) hN (by rw [va_up_ne _ _ (by decide)]; exact hO) (by rw [va_up_self]) (by rw [va_up_ne _ _ (by decide)]; exact hL) (by omega) (by omega)) (fun y1 F2 hq => ?_)
                      obtain ⟨hy1, eF2⟩ := hq
                      refine J_eqF eF2 ?_
                      have hy1d : y1 = dg8 (V b) j := by rw [hy1]; exact reg_limb hR hb brb (f := f2) (fun hj => by rw [hf2]; exact sg_out (by omega))
                      have hbj := dgh8 (V b) j
                      have hpr : dg8 (V a) i * y1 = ((dgt 28 (V a) i * dgt 28 (V b) j : Nat) : Int) := by rw [hy1d]; exact prodd8 _ _ _ _
                      have hpb := dprod8 (x := dgt 28 (V a) i) (f := dgt 28 (V b) j) rfl (dgt_b8 _ j)
                      refine J_i2l d_M_times_124 ⟨by omega, by omega⟩ ?_
                      refine J_lmul d_M_times_125 ?_
                      refine J_ladd d_M_times_126 ?_
                      refine J_lload 6 d_M_times_127 rfl ?_
                      refine J_ladd d_M_times_129 ?_
                      refine J_lstore (lv' := [(9, .long (lI (((dg8 v (i + j)) + ((dg8 (V a) i) * y1)) + c))), (0, .ref (ad 98)), (1, .int (iI (a : Int))), (2, .int (iI (b : Int))), (3, .int (iI (t : Int))), (4, .int (iI (nn : Int))), (5, .int (iI (i : Int))), (6, .long (lI c)), (8, .int (iI (j : Int)))]) d_M_times_130 (by decide) rfl ?_
                      refine J_aload_n 1 d_M_times_132 rfl rfl ?_
                      refine gf_M_7 (by omega) (by rw [va_up_ne _ _ (by decide)]; exact hO) rfl d_M_times_133 ?_
                      refine J_bipush d_M_times_136 (i8_ok (by decide)) ?_
                      refine J_iload_n 4 d_M_times_138 rfl rfl ?_
                      refine J_imul d_M_times_139 ?_
                      refine J_iload 6 d_M_times_140 rfl ?_
                      refine J_iadd d_M_times_142 ?_
                      refine J_iload 8 d_M_times_143 rfl ?_
                      refine J_iadd d_M_times_145 ?_
                      refine J_lload 0 d_M_times_146 rfl ?_
                      refine J_ldc2 (z := 268435455) d_M_times_148 wd_1093 (by decide) ?_
                      refine J_land (r := (((dg8 v (i + j)) + ((dg8 (V a) i) * y1)) + c) % 268435456) d_M_times_151 (lI_and 28 (by decide)) ?_
                      refine J_l2i d_M_times_152 ?_
                      refine J_iastore 0 rfl (by omega) (by rw [va_up_self]) (by omega) d_M_times_153 ?_
                      refine J_eqF (F2 := va_up (va_up F 99 (.inl (g 0, 858, .inl (aI f2)))) 99 (.inl (g 0, 858, .inl (aI (va_up f2 (((26 * t) + i) + j) ((((dg8 v (i + j)) + ((dg8 (V a) i) * y1)) + c) % 268435456)))))) (congrArg (fun q => va_up (va_up F 99 (.inl (g 0, 858, .inl (aI f2)))) 99 (.inl (g 0, 858, .inl (aI (va_up f2 q ((((dg8 v (i + j)) + ((dg8 (V a) i) * y1)) + c) % 268435456)))))) (by omega : (((26 * (t : Int)) + (i : Int)) + (j : Int)).toNat = ((26 * t) + i) + j)) ?_
                      refine J_eqF (F2 := va_up F 99 (.inl (g 0, 858, .inl (aI (va_up f2 (((26 * t) + i) + j) ((((dg8 v (i + j)) + ((dg8 (V a) i) * y1)) + c) % 268435456)))))) (up_in0) ?_
                      refine J_lload 0 d_M_times_154 rfl ?_
                      refine J_bipush d_M_times_156 (i8_ok (by decide)) ?_
                      refine J_lshr (r := (((dg8 v (i + j)) + ((dg8 (V a) i) * y1)) + c) / 268435456) d_M_times_158 (lI_shr ⟨by omega, by omega⟩ 28 (by decide)) ?_
                      refine J_lstore (lv' := [(6, .long (lI ((((dg8 v (i + j)) + ((dg8 (V a) i) * y1)) + c) / 268435456))), (9, .long (lI (((dg8 v (i + j)) + ((dg8 (V a) i) * y1)) + c))), (0, .ref (ad 98)), (1, .int (iI (a : Int))), (2, .int (iI (b : Int))), (3, .int (iI (t : Int))), (4, .int (iI (nn : Int))), (5, .int (iI (i : Int))), (8, .int (iI (j : Int)))]) d_M_times_159 (by decide) rfl ?_
                      refine J_iinc (j := 8) (b := (j : Int) + 1) (lv' := [(8, .int (iI ((j : Int) + 1))), (6, .long (lI ((((dg8 v (i + j)) + ((dg8 (V a) i) * y1)) + c) / 268435456))), (9, .long (lI (((dg8 v (i + j)) + ((dg8 (V a) i) * y1)) + c))), (0, .ref (ad 98)), (1, .int (iI (a : Int))), (2, .int (iI (b : Int))), (3, .int (iI (t : Int))), (4, .int (iI (nn : Int))), (5, .int (iI (i : Int)))]) d_M_times_161 rfl (by omega) (by decide) rfl ?_
                      refine J_goto (tgt := 64) d_M_times_164 (by decide) ?_
                      refine J_pick (lv' := [(0, .ref (ad 98)), (1, .int (iI (a : Int))), (2, .int (iI (b : Int))), (3, .int (iI (t : Int))), (4, .int (iI (nn : Int))), (5, .int (iI (i : Int))), (6, .long (lI ((((dg8 v (i + j)) + ((dg8 (V a) i) * y1)) + c) / 268435456))), (8, .int (iI ((j : Int) + 1)))]) [3, 4, 5, 6, 7, 8, 1, 0] rfl ?_
                      refine ih (j + 1) ((((dg8 v (i + j)) + ((dg8 (V a) i) * y1)) + c) / 268435456) (va_up f2 (((26 * t) + i) + j) ((((dg8 v (i + j)) + ((dg8 (V a) i) * y1)) + c) % 268435456)) (by omega) ?_ ?_ (by omega)
                      · have e1 := cy_step8 (X := v) (t := i + j) (prod_Y8 (dgt 28 (V a) i) (V b) i j)
                        rw [show i + (j + 1) = i + j + 1 by omega, e1, hpr]
                        omega
                      · have e1 := cy_dig8 (X := v) (t := i + j) (prod_T8 v (dgt 28 (V a) i) (V b) i j)
                        rw [hf2, Nat.add_assoc, sg_st hij]
                        refine congrArg (fun q => sg t 0 nn q hh) (mix_up ?_)
                        rw [hpr, dg_nat8 (v + dgt 28 (V a) i * V b * 2 ^ (28 * i)) (i + j), e1]
                        omega
                    · exact absurd c82 (by omega)
              exact loop64 ((lnw 28 (V b) + 1 - 0) + 1) 0 (0 : Int) f (by omega) (by rw [Nat.mul_zero 28, Nat.pow_zero, Nat.mod_one, Nat.mul_zero, Nat.zero_mul]; unfold cy8; rw [Nat.add_zero, Nat.div_eq_of_lt (Nat.mod_lt _ (Nat.two_pow_pos _))]; rfl) (by rw [hf]; exact congrArg (fun q => sg t 0 nn q hh) (mix_low (fun jj hj => by rw [dg_nat8, dg_nat8, dgt_low8 (i := i) (by omega)]))) (Nat.lt_succ_self _)
        exact loop47 ((lnw 28 (V a) - 0) + 1) 0 0 f0 (by omega) (by rw [Nat.mul_zero, Nat.pow_zero, Nat.mod_one, Nat.zero_mul]) (by rw [hf0, dg_08, show p = nn by omega]) (Nat.lt_succ_self _)
      · refine J_aload_n 0 d_M_times_25 rfl rfl ?_
        refine gf_M_7 (by omega) (by rw [va_up_ne _ _ (by decide)]; exact hO) rfl d_M_times_26 ?_
        refine J_bipush d_M_times_29 (i8_ok (by decide)) ?_
        refine J_iload_n 3 d_M_times_31 rfl rfl ?_
        refine J_imul d_M_times_32 ?_
        refine J_iload 5 d_M_times_33 rfl ?_
        refine J_iadd d_M_times_35 ?_
        refine J_iconst d_M_times_36 ?_
        refine J_iastore 0 rfl (by omega) (by rw [va_up_self]) (by omega) d_M_times_37 ?_
        refine J_eqF (F2 := va_up (va_up F 99 (.inl (g 0, 858, .inl (aI f0)))) 99 (.inl (g 0, 858, .inl (aI (va_up f0 ((26 * t) + p) 0))))) (congrArg (fun q => va_up (va_up F 99 (.inl (g 0, 858, .inl (aI f0)))) 99 (.inl (g 0, 858, .inl (aI (va_up f0 q 0))))) (by omega : ((26 * (t : Int)) + (p : Int)).toNat = (26 * t) + p)) ?_
        refine J_eqF (F2 := va_up F 99 (.inl (g 0, 858, .inl (aI (va_up f0 ((26 * t) + p) 0))))) (up_in0) ?_
        refine J_iinc (j := 5) (b := (p : Int) + 1) (lv' := [(5, .int (iI ((p : Int) + 1))), (0, .ref (ad 98)), (1, .int (iI (a : Int))), (2, .int (iI (b : Int))), (3, .int (iI (t : Int))), (4, .int (iI (nn : Int)))]) d_M_times_38 rfl (by omega) (by decide) rfl ?_
        refine J_goto (tgt := 18) d_M_times_41 (by decide) ?_
        refine J_pick (lv' := [(0, .ref (ad 98)), (1, .int (iI (a : Int))), (2, .int (iI (b : Int))), (3, .int (iI (t : Int))), (4, .int (iI (nn : Int))), (5, .int (iI ((p : Int) + 1)))]) [1, 2, 3, 4, 5, 0] rfl ?_
        exact ih (p + 1) (va_up f0 ((26 * t) + p) 0) (by omega) (by rw [hf0]; exact sg_up (by omega) rfl) (by omega)
  refine J_eqF (F2 := va_up F 99 (.inl (g 0, 858, .inl (aI hh)))) (up_same1 hB) ?_
  exact loop18 ((nn - 0) + 1) 0 hh (by omega) (sg_0 _ _ _ _) (Nat.lt_succ_self _)
set_option maxRecDepth 100000 in
set_option maxHeartbeats 4000000 in
theorem c_M_grow {l : Launch} (hfl : l.flags = flags0) {D : va_G} {g : Nat → ClassId} {ad : Nat → Nat} {N : Nat} {F : Nat → va_E} {a m more : Nat} {hh ll : Nat → Int} {V : Nat → Nat} {br : Nat → Nat} {vs : List Value}
    (hN : 109 ≤ N) (hO : F 98 = .inr (8, .ref (ad 99) :: .ref (ad 100) :: vs)) (hB : F 99 = aB g hh) (hL : F 100 = aL g ll) (hR : reg br hh ll V) (ha : a < 33) (bra : br a = 0) (hm : 1 ≤ m ∧ m < 268435456) (hmo : more < 268435456) (hT : lnw 28 (V a * m + more) ≤ 26) :
    JC l y_M_grow b_M_grow 9 (Option.none : Option Jvm.ClassFile.FieldType) rm_M_grow (0, 0) D jCl (jTys g) ad N F [.ref (ad 98), .int (iI (a : Int)), .int (iI (m : Int)), .int (iI (more : Int))] (jv ad N (fun F' => ∃ hh' ll' : Nat → Int, reg (va_up br a 0) hh' ll' (va_up V a (V a * m + more)) ∧ F' = va_up (va_up F 99 (aB g hh')) 100 (aL g ll'))) := by
  obtain ⟨hla, hma⟩ := reg_len hR ha bra
  have hTs := lnw_scale8 (a := V a) hm.2 hmo
  have hTm : lnw 28 (V a) ≤ lnw 28 (V a * m + more) := lnw_mono8 (Nat.le_trans (Nat.le_mul_of_pos_right _ (by omega)) (Nat.le_add_right _ _))
  refine JC.go hfl (own := "NumberTowerModel") (lv := [(0, .ref (ad 98)), (1, .int (iI (a : Int))), (2, .int (iI (m : Int))), (3, .int (iI (more : Int)))]) rfl (by decide +kernel) (Nat.le_of_ble_eq_true rfl) rfl (fun A => ?_)
  refine J_iload_n 3 d_M_grow_0 rfl rfl ?_
  refine J_i2l d_M_grow_1 ⟨by omega, by omega⟩ ?_
  refine J_lstore (lv' := [(4, .long (lI (more : Int))), (0, .ref (ad 98)), (1, .int (iI (a : Int))), (2, .int (iI (m : Int))), (3, .int (iI (more : Int)))]) d_M_grow_2 (by decide) rfl ?_
  refine J_iconst d_M_grow_4 ?_
  refine J_istore (lv' := [(6, .int (iI 0)), (4, .long (lI (more : Int))), (0, .ref (ad 98)), (1, .int (iI (a : Int))), (2, .int (iI (m : Int))), (3, .int (iI (more : Int)))]) d_M_grow_5 (by decide) rfl ?_
  refine J_pick (lv' := [(0, .ref (ad 98)), (1, .int (iI (a : Int))), (2, .int (iI (m : Int))), (3, .int (iI (more : Int))), (4, .long (lI (more : Int))), (6, .int (iI 0))]) [2, 3, 4, 5, 1, 0] rfl ?_
  have loop7 : ∀ (fuel : Nat) (i : Nat) (c : Int) (f : Nat → Int) (h1 : i ≤ lnw 28 (V a)) (hc : c = (cy8 0 (more + m * (V a % 2 ^ (28 * i))) i : Int)) (hf : f = sg a 0 i (dg8 (V a * m + more)) hh) (hfu : lnw 28 (V a) - i < fuel), J l rm_M_grow (0, 0) "NumberTowerModel" b_M_grow 9 (Option.none : Option Jvm.ClassFile.FieldType) D jCl (jTys g) A (fun _ me => me.name = y_M_grow.name) (jv ad N (fun F' => ∃ hh' ll' : Nat → Int, reg (va_up br a 0) hh' ll' (va_up V a (V a * m + more)) ∧ F' = va_up (va_up F 99 (aB g hh')) 100 (aL g ll'))) ad N 0 0 7 [(0, .ref (ad 98)), (1, .int (iI (a : Int))), (2, .int (iI (m : Int))), (3, .int (iI (more : Int))), (4, .long (lI c)), (6, .int (iI (i : Int)))] [] (va_up F 99 (.inl (g 0, 858, .inl (aI f)))) := by
    intro fuel
    induction fuel with
    | zero => intro i c f h1 hc hf hfu; exact absurd hfu (Nat.not_lt_zero _)
    | succ fuel ih =>
      intro i c f h1 hc hf hfu
      have hc2 := scale_c8 (f := m) (m := more) (a := V a) (i := i) hm.2 hmo
      have hd := dg_nat8 (V a) i
      have hbi := dgh8 (V a) i
      have hpr : dg8 (V a) i * (m : Int) = ((dgt 28 (V a) i * m : Nat) : Int) := by rw [hd]; push_cast; rfl
      have hpb := dprod8 (x := dgt 28 (V a) i) (f := m) rfl hm.2
      refine J_iload 5 d_M_grow_7 rfl ?_
      refine J_aload_n 0 d_M_grow_9 rfl rfl ?_
      refine gf_M_13 (by omega) (by rw [va_up_ne _ _ (by decide)]; exact hO) rfl d_M_grow_10 ?_
      refine J_iload_n 1 d_M_grow_13 rfl rfl ?_
      refine J_iaload 0 rfl (by omega) (by rw [va_up_ne _ _ (by decide)]; exact hL) (by omega) d_M_grow_14 ?_
      refine J_topi (r := ll a) (congrArg (fun q => iI (ll q)) (by omega)) ?_
      refine J_if_icmpge (tgt := 71) d_M_grow_15 (by decide) ⟨by omega, by omega⟩ ⟨by omega, by omega⟩ (fun c15 => ?_) (fun c15 => ?_)
      · have hcT : c = (((V a * m + more) / 2 ^ (28 * i) : Nat) : Int) := by
          rw [hc, low_e8 (by omega), cy_z8, Nat.mul_comm m, Nat.add_comm]
        refine J_lload 4 d_M_grow_71 rfl ?_
        refine J_lconst (v := 0) d_M_grow_73 rfl ?_
        refine J_lcmple (tgt := 107) d_M_grow_74 d_M_grow_75 (by decide) ⟨by omega, by omega⟩ ⟨by omega, by omega⟩ (fun c74 => ?_) (fun c74 => ?_)
        · refine J_vret rfl d_M_grow_107 ⟨by decide, by decide⟩ ?_
          have hq0 : (V a * m + more) / 2 ^ (28 * i) = 0 := by omega
          have hl1 : lnw 28 (V a * m + more) = i := by
            apply Nat.le_antisymm _ (by omega)
            exact (lnw_le (by decide)).mpr ((Nat.div_eq_zero_iff_lt (Nat.two_pow_pos _)).mp hq0)
          refine ⟨rfl, rfl, rfl, _, _, reg_any hR hT (dg8 (V a * m + more)) i ⟨by omega, by omega⟩ (fun j hj => rfl) hf, ?_⟩
          rw [hl1, ← up_same1 (show ll a = (i : Int) by omega)]
          exact up_same1 (by rw [va_up_ne _ _ (by omega)]; exact hL)
        · have hq0 : (V a * m + more) / 2 ^ (28 * i) ≠ 0 := by omega
          have hl1 : lnw 28 (V a * m + more) = i + 1 := by
            apply Nat.le_antisymm (by omega)
            apply Nat.lt_of_not_le
            intro q
            exact hq0 (Nat.div_eq_of_lt ((lnw_le (by decide)).mp q))
          refine J_aload_n 0 d_M_grow_78 rfl rfl ?_
          refine gf_M_7 (by omega) (by rw [va_up_ne _ _ (by decide)]; exact hO) rfl d_M_grow_79 ?_
          refine J_bipush d_M_grow_82 (i8_ok (by decide)) ?_
          refine J_iload_n 1 d_M_grow_84 rfl rfl ?_
          refine J_imul d_M_grow_85 ?_
          refine J_aload_n 0 d_M_grow_86 rfl rfl ?_
          refine gf_M_13 (by omega) (by rw [va_up_ne _ _ (by decide)]; exact hO) rfl d_M_grow_87 ?_
          refine J_iload_n 1 d_M_grow_90 rfl rfl ?_
          refine J_iaload 0 rfl (by omega) (by rw [va_up_ne _ _ (by decide)]; exact hL) (by omega) d_M_grow_91 ?_
          refine J_topi (r := ll a) (congrArg (fun q => iI (ll q)) (by omega)) ?_
          refine J_topi (r := (i : Int)) (congrArg iI (by omega)) ?_
          refine J_iadd d_M_grow_92 ?_
          refine J_lload 4 d_M_grow_93 rfl ?_
          refine J_l2i d_M_grow_95 ?_
          refine J_iastore 0 rfl (by omega) (by rw [va_up_self]) (by omega) d_M_grow_96 ?_
          refine J_eqF (F2 := va_up (va_up F 99 (.inl (g 0, 858, .inl (aI f)))) 99 (.inl (g 0, 858, .inl (aI (va_up f ((26 * a) + i) c))))) (congrArg (fun q => va_up (va_up F 99 (.inl (g 0, 858, .inl (aI f)))) 99 (.inl (g 0, 858, .inl (aI (va_up f q c))))) (by omega : ((26 * (a : Int)) + (i : Int)).toNat = (26 * a) + i)) ?_
          refine J_eqF (F2 := va_up F 99 (.inl (g 0, 858, .inl (aI (va_up f ((26 * a) + i) c))))) (up_in0) ?_
          refine J_aload_n 0 d_M_grow_97 rfl rfl ?_
          refine gf_M_13 (by omega) (by rw [va_up_ne _ _ (by decide)]; exact hO) rfl d_M_grow_98 ?_
          refine J_iload_n 1 d_M_grow_101 rfl rfl ?_
          refine J_dup2 d_M_grow_102 rfl rfl ?_
          refine J_iaload 0 rfl (by omega) (by rw [va_up_ne _ _ (by decide)]; exact hL) (by omega) d_M_grow_103 ?_
          refine J_topi (r := ll a) (congrArg (fun q => iI (ll q)) (by omega)) ?_
          refine J_iconst d_M_grow_104 ?_
          refine J_iadd d_M_grow_105 ?_
          refine J_iastore 0 rfl (by omega) (by rw [va_up_ne _ _ (by decide)]; exact hL) (by omega) d_M_grow_106 ?_
          refine J_eqF (F2 := va_up (va_up F 99 (.inl (g 0, 858, .inl (aI (va_up f ((26 * a) + i) c))))) 100 (.inl (g 0, 33, .inl (aI (va_up ll a ((ll a) + 1)))))) (congrArg (fun q => va_up (va_up F 99 (.inl (g 0, 858, .inl (aI (va_up f ((26 * a) + i) c))))) 100 (.inl (g 0, 33, .inl (aI (va_up ll q ((ll a) + 1)))))) (by omega : (a : Int).toNat = a)) ?_
          refine J_vret rfl d_M_grow_107 ⟨by decide, by decide⟩ ?_
          have hdi : dg8 (V a * m + more) i = c := by
            rw [dg_nat8, hcT]
            unfold dgt
            rw [Nat.mod_eq_of_lt]
            rw [Nat.div_lt_iff_lt_mul (Nat.two_pow_pos _), Nat.mul_comm (2 ^ 28), ← pw_succ]
            exact (lnw_le (by decide)).mp (by omega)
          refine ⟨rfl, rfl, rfl, _, _, reg_any hR hT (dg8 (V a * m + more)) (i + 1) ⟨by omega, by omega⟩ (fun j hj => rfl) (hh' := va_up f (26 * a + i) c) (by rw [hf]; exact sg_up (by omega) hdi.symm), ?_⟩
          rw [hl1, show ll a + 1 = ((i + 1 : Nat) : Int) by omega]
      · have fi : f (26 * a + i) = dg8 (V a) i := by rw [hf, sg_out (by omega)]; exact reg_dig hR ha bra (by omega)
        refine J_aload_n 0 d_M_grow_18 rfl rfl ?_
        refine gf_M_7 (by omega) (by rw [va_up_ne _ _ (by decide)]; exact hO) rfl d_M_grow_19 ?_
        refine J_bipush d_M_grow_22 (i8_ok (by decide)) ?_
        refine J_iload_n 1 d_M_grow_24 rfl rfl ?_
        refine J_imul d_M_grow_25 ?_
        refine J_iload 5 d_M_grow_26 rfl ?_
        refine J_iadd d_M_grow_28 ?_
        refine J_iaload 0 rfl (by omega) (by rw [va_up_self]) (by omega) d_M_grow_29 ?_
        refine J_topi (r := f ((26 * a) + i)) (congrArg (fun q => iI (f q)) (by omega)) ?_
        refine J_topi (r := dg8 (V a) i) (congrArg iI fi) ?_
        refine J_i2l d_M_grow_30 ⟨by omega, by omega⟩ ?_
        refine J_iload_n 2 d_M_grow_31 rfl rfl ?_
        refine J_i2l d_M_grow_32 ⟨by omega, by omega⟩ ?_
        refine J_lmul d_M_grow_33 ?_
        refine J_lload 4 d_M_grow_34 rfl ?_
        refine J_ladd d_M_grow_36 ?_
        refine J_lstore (lv' := [(7, .long (lI (((dg8 (V a) i) * (m : Int)) + c))), (0, .ref (ad 98)), (1, .int (iI (a : Int))), (2, .int (iI (m : Int))), (3, .int (iI (more : Int))), (4, .long (lI c)), (6, .int (iI (i : Int)))]) d_M_grow_37 (by decide) rfl ?_
        refine J_aload_n 1 d_M_grow_39 rfl rfl ?_
        refine gf_M_7 (by omega) (by rw [va_up_ne _ _ (by decide)]; exact hO) rfl d_M_grow_40 ?_
        refine J_bipush d_M_grow_43 (i8_ok (by decide)) ?_
        refine J_iload_n 2 d_M_grow_45 rfl rfl ?_
        refine J_imul d_M_grow_46 ?_
        refine J_iload 6 d_M_grow_47 rfl ?_
        refine J_iadd d_M_grow_49 ?_
        refine J_lload 0 d_M_grow_50 rfl ?_
        refine J_ldc2 (z := 268435455) d_M_grow_52 wd_1093 (by decide) ?_
        refine J_land (r := (((dg8 (V a) i) * (m : Int)) + c) % 268435456) d_M_grow_55 (lI_and 28 (by decide)) ?_
        refine J_l2i d_M_grow_56 ?_
        refine J_iastore 0 rfl (by omega) (by rw [va_up_self]) (by omega) d_M_grow_57 ?_
        refine J_eqF (F2 := va_up (va_up F 99 (.inl (g 0, 858, .inl (aI f)))) 99 (.inl (g 0, 858, .inl (aI (va_up f ((26 * a) + i) ((((dg8 (V a) i) * (m : Int)) + c) % 268435456)))))) (congrArg (fun q => va_up (va_up F 99 (.inl (g 0, 858, .inl (aI f)))) 99 (.inl (g 0, 858, .inl (aI (va_up f q ((((dg8 (V a) i) * (m : Int)) + c) % 268435456)))))) (by omega : ((26 * (a : Int)) + (i : Int)).toNat = (26 * a) + i)) ?_
        refine J_eqF (F2 := va_up F 99 (.inl (g 0, 858, .inl (aI (va_up f ((26 * a) + i) ((((dg8 (V a) i) * (m : Int)) + c) % 268435456)))))) (up_in0) ?_
        refine J_lload 0 d_M_grow_58 rfl ?_
        refine J_bipush d_M_grow_60 (i8_ok (by decide)) ?_
        refine J_lshr (r := (((dg8 (V a) i) * (m : Int)) + c) / 268435456) d_M_grow_62 (lI_shr ⟨by omega, by omega⟩ 28 (by decide)) ?_
        refine J_lstore (lv' := [(4, .long (lI ((((dg8 (V a) i) * (m : Int)) + c) / 268435456))), (7, .long (lI (((dg8 (V a) i) * (m : Int)) + c))), (0, .ref (ad 98)), (1, .int (iI (a : Int))), (2, .int (iI (m : Int))), (3, .int (iI (more : Int))), (6, .int (iI (i : Int)))]) d_M_grow_63 (by decide) rfl ?_
        refine J_iinc (j := 6) (b := (i : Int) + 1) (lv' := [(6, .int (iI ((i : Int) + 1))), (4, .long (lI ((((dg8 (V a) i) * (m : Int)) + c) / 268435456))), (7, .long (lI (((dg8 (V a) i) * (m : Int)) + c))), (0, .ref (ad 98)), (1, .int (iI (a : Int))), (2, .int (iI (m : Int))), (3, .int (iI (more : Int)))]) d_M_grow_65 rfl (by omega) (by decide) rfl ?_
        refine J_goto (tgt := 7) d_M_grow_68 (by decide) ?_
        refine J_pick (lv' := [(0, .ref (ad 98)), (1, .int (iI (a : Int))), (2, .int (iI (m : Int))), (3, .int (iI (more : Int))), (4, .long (lI ((((dg8 (V a) i) * (m : Int)) + c) / 268435456))), (6, .int (iI ((i : Int) + 1)))]) [3, 4, 5, 6, 1, 0] rfl ?_
        refine ih (i + 1) ((((dg8 (V a) i) * (m : Int)) + c) / 268435456) (va_up f ((26 * a) + i) ((((dg8 (V a) i) * (m : Int)) + c) % 268435456)) (by omega) ?_ ?_ (by omega)
        · have e1 := cy_step8 (X := 0) (t := i) (scale_Y8 m more (V a) i)
          rw [e1, dgt_0, hpr]
          omega
        · have e1 := cy_dig8 (X := 0) (t := i) (scale_T8 m more (V a) i)
          rw [dgt_0] at e1
          rw [hf]
          refine sg_up (by omega) ?_
          rw [hpr, dg_nat8, e1]
          omega
  refine J_eqF (F2 := va_up F 99 (.inl (g 0, 858, .inl (aI hh)))) (up_same1 hB) ?_
  exact loop7 ((lnw 28 (V a) - 0) + 1) 0 (more : Int) hh (by omega) (by rw [cy_08, Nat.mul_zero, Nat.pow_zero, Nat.mod_one, Nat.mul_zero, Nat.add_zero]) (sg_0 _ _ _ _) (Nat.lt_succ_self _)
set_option maxRecDepth 100000 in
set_option maxHeartbeats 4000000 in
theorem c_M_shrink {l : Launch} (hfl : l.flags = flags0) {D : va_G} {g : Nat → ClassId} {ad : Nat → Nat} {N : Nat} {F : Nat → va_E} {a d : Nat} {hh ll : Nat → Int} {V : Nat → Nat} {br : Nat → Nat} {vs : List Value}
    (hN : 109 ≤ N) (hO : F 98 = .inr (8, .ref (ad 99) :: .ref (ad 100) :: vs)) (hB : F 99 = aB g hh) (hL : F 100 = aL g ll) (hR : reg br hh ll V) (ha : a < 33) (bra : br a = 0) (hd : 0 < d ∧ d < 268435456) :
    JC l y_M_shrink b_M_shrink 8 (Option.some Jvm.ClassFile.FieldType.int) rm_M_shrink (0, 0) D jCl (jTys g) ad N F [.ref (ad 98), .int (iI (a : Int)), .int (iI (d : Int))] (ji ad N (fun z F' => z = ((V a % d : Nat) : Int) ∧ ∃ hh' ll' : Nat → Int, reg (va_up br a 0) hh' ll' (va_up V a (V a / d)) ∧ F' = va_up (va_up F 99 (aB g hh')) 100 (aL g ll'))) := by
  obtain ⟨hla, hma⟩ := reg_len hR ha bra
  have hTl := lnw_mono8 (Nat.div_le_self (V a) d)
  refine JC.go hfl (own := "NumberTowerModel") (lv := [(0, .ref (ad 98)), (1, .int (iI (a : Int))), (2, .int (iI (d : Int)))]) rfl (by decide +kernel) (Nat.le_of_ble_eq_true rfl) rfl (fun A => ?_)
  refine J_lconst (v := 0) d_M_shrink_0 rfl ?_
  refine J_lstore_n (lv' := [(3, .long (lI 0)), (0, .ref (ad 98)), (1, .int (iI (a : Int))), (2, .int (iI (d : Int)))]) d_M_shrink_1 rfl (by decide) rfl ?_
  refine J_aload_n 1 d_M_shrink_2 rfl rfl ?_
  refine gf_M_13 (by omega) hO rfl d_M_shrink_3 ?_
  refine J_iload_n 2 d_M_shrink_6 rfl rfl ?_
  refine J_iaload 0 rfl (by omega) hL (by omega) d_M_shrink_7 ?_
  refine J_topi (r := ll a) (congrArg (fun q => iI (ll q)) (by omega)) ?_
  refine J_iconst d_M_shrink_8 ?_
  refine J_isub d_M_shrink_9 ?_
  refine J_istore (lv' := [(5, .int (iI ((ll a) - 1))), (3, .long (lI 0)), (0, .ref (ad 98)), (1, .int (iI (a : Int))), (2, .int (iI (d : Int)))]) d_M_shrink_10 (by decide) rfl ?_
  refine J_pick (lv' := [(0, .ref (ad 98)), (1, .int (iI (a : Int))), (2, .int (iI (d : Int))), (3, .long (lI 0)), (5, .int (iI ((ll a) - 1)))]) [2, 3, 4, 1, 0] rfl ?_
  have loop12 : ∀ (fuel : Nat) (i : Int) (r : Nat) (f : Nat → Int) (h1 : -1 ≤ i ∧ i < lnw 28 (V a)) (hr : r = V a / 2 ^ (28 * (i + 1).toNat) % d) (hf : f = sg a (i + 1).toNat (lnw 28 (V a)) (dg8 (V a / d)) hh) (hfu : (i + 1).toNat < fuel), J l rm_M_shrink (0, 0) "NumberTowerModel" b_M_shrink 8 (Option.some Jvm.ClassFile.FieldType.int) D jCl (jTys g) A (fun _ me => me.name = y_M_shrink.name) (ji ad N (fun z F' => z = ((V a % d : Nat) : Int) ∧ ∃ hh' ll' : Nat → Int, reg (va_up br a 0) hh' ll' (va_up V a (V a / d)) ∧ F' = va_up (va_up F 99 (aB g hh')) 100 (aL g ll'))) ad N 0 0 12 [(0, .ref (ad 98)), (1, .int (iI (a : Int))), (2, .int (iI (d : Int))), (3, .long (lI (r : Int))), (5, .int (iI i))] [] (va_up F 99 (.inl (g 0, 858, .inl (aI f)))) := by
    intro fuel
    induction fuel with
    | zero => intro i r f h1 hr hf hfu; exact absurd hfu (Nat.not_lt_zero _)
    | succ fuel ih =>
      intro i r f h1 hr hf hfu
      have hrd : r < d := by rw [hr]; exact Nat.mod_lt _ hd.1
      have hw := dgt_b8 (V a) i.toNat
      have hds := dsm8 (a := V a) (d := d) (i := i.toNat) hd.1
      refine J_iload 4 d_M_shrink_12 rfl ?_
      refine J_iflt (tgt := 67) d_M_shrink_14 (by decide) ⟨by omega, by omega⟩ (fun c14 => ?_) (fun c14 => ?_)
      · refine J_aload_n 0 d_M_shrink_67 rfl rfl ?_
        refine J_iload_n 1 d_M_shrink_68 rfl rfl ?_
        refine J_callVv cw_M_50 nh_M_trim pn_M_trim rfl rfl (by omega) (by rw [va_up_ne _ _ (by decide)]; exact hO) (As := [.int (iI (a : Int))]) (rest := []) rfl (Nat.le_of_ble_eq_true rfl) ⟨by decide, by decide⟩ rfl ⟨by decide, by decide⟩ d_M_shrink_69 (c_M_trim hfl (a := a) (T := (V a / d)) (c := (lnw 28 (V a))) (hh := f) (ll := ll) hN (by rw [va_up_ne _ _ (by decide)]; exact hO) (by rw [va_up_self]) (by rw [va_up_ne _ _ (by decide)]; exact hL) (by omega) ⟨hla, hma, hTl⟩ (fun j hj => by rw [hf]; exact sg_in (by omega) (by omega))) (fun  F1 hq => ?_)
        have eF1 := hq
        refine J_eqF (F2 := va_up (va_up F 99 (.inl (g 0, 858, .inl (aI f)))) 100 (.inl (g 0, 33, .inl (aI (va_up ll a (lnw 28 (V a / d) : Int)))))) eF1 ?_
        refine J_lload_n 3 d_M_shrink_72 rfl rfl ?_
        refine J_l2i d_M_shrink_73 ?_
        refine J_iret rfl rfl d_M_shrink_74 ⟨by decide, by decide⟩ ?_
        exact ⟨_, rfl, rfl, rfl, by rw [hr, show (i + 1).toNat = 0 by omega, Nat.mul_zero, Nat.pow_zero, Nat.div_one], _, _, reg_any hR (by omega) (dg8 (V a / d)) (lnw 28 (V a)) ⟨by omega, by omega⟩ (fun j hj => rfl) (by rw [hf, show (i + 1).toNat = 0 by omega]), rfl⟩
      · refine J_lload_n 3 d_M_shrink_17 rfl rfl ?_
        refine J_bipush d_M_shrink_18 (i8_ok (by decide)) ?_
        refine J_lshl (r := ((r * 268435456 : Nat) : Int)) d_M_shrink_20 (lI_shln 28 (by decide)) ?_
        have hlo : f (26 * a + i.toNat) = dg8 (V a) i.toNat := by rw [hf, sg_out (by omega)]; exact reg_dig hR ha bra (by omega)
        refine J_aload_n 0 d_M_shrink_21 rfl rfl ?_
        refine gf_M_7 (by omega) (by rw [va_up_ne _ _ (by decide)]; exact hO) rfl d_M_shrink_22 ?_
        refine J_bipush d_M_shrink_25 (i8_ok (by decide)) ?_
        refine J_iload_n 1 d_M_shrink_27 rfl rfl ?_
        refine J_imul d_M_shrink_28 ?_
        refine J_iload 4 d_M_shrink_29 rfl ?_
        refine J_iadd d_M_shrink_31 ?_
        refine J_iaload 0 rfl (by omega) (by rw [va_up_self]) (by omega) d_M_shrink_32 ?_
        refine J_topi (r := (dgt 28 (V a) i.toNat : Int)) (congrArg iI (by rw [show ((26 * (a : Int)) + i).toNat = 26 * a + i.toNat by omega, hlo]; rfl)) ?_
        refine J_i2l d_M_shrink_33 ⟨by omega, by omega⟩ ?_
        refine J_lor (r := ((r * 268435456 + dgt 28 (V a) i.toNat : Nat) : Int)) d_M_shrink_34 (by rw [lI_orn (by omega) (by omega), or28 (dgt_b8 _ _)]) ?_
        refine J_lstore (lv' := [(6, .long (lI ((r * 268435456 + dgt 28 (V a) i.toNat : Nat) : Int))), (0, .ref (ad 98)), (1, .int (iI (a : Int))), (2, .int (iI (d : Int))), (3, .long (lI (r : Int))), (5, .int (iI i))]) d_M_shrink_35 (by decide) rfl ?_
        refine J_aload_n 1 d_M_shrink_37 rfl rfl ?_
        refine gf_M_7 (by omega) (by rw [va_up_ne _ _ (by decide)]; exact hO) rfl d_M_shrink_38 ?_
        refine J_bipush d_M_shrink_41 (i8_ok (by decide)) ?_
        refine J_iload_n 2 d_M_shrink_43 rfl rfl ?_
        refine J_imul d_M_shrink_44 ?_
        refine J_iload 5 d_M_shrink_45 rfl ?_
        refine J_iadd d_M_shrink_47 ?_
        refine J_lload 0 d_M_shrink_48 rfl ?_
        refine J_iload_n 3 d_M_shrink_50 rfl rfl ?_
        refine J_i2l d_M_shrink_51 ⟨by omega, by omega⟩ ?_
        refine J_ldivn d_M_shrink_52 (by omega) (by omega) ?_
        refine J_topl (r := (((r * 268435456 + dgt 28 (V a) i.toNat) / d : Nat) : Int)) (congrArg lI (by omega)) ?_
        refine J_l2i d_M_shrink_53 ?_
        refine J_iastore 0 rfl (by omega) (by rw [va_up_self]) (by omega) d_M_shrink_54 ?_
        refine J_eqF (F2 := va_up F 99 (.inl (g 0, 858, .inl (aI (va_up f (((26 * (a : Int)) + i).toNat) (((r * 268435456 + dgt 28 (V a) i.toNat) / d : Nat) : Int)))))) (up_in0) ?_
        refine J_lload 0 d_M_shrink_55 rfl ?_
        refine J_iload_n 3 d_M_shrink_57 rfl rfl ?_
        refine J_i2l d_M_shrink_58 ⟨by omega, by omega⟩ ?_
        refine J_lremn d_M_shrink_59 (by omega) (by omega) ?_
        refine J_topl (r := (((r * 268435456 + dgt 28 (V a) i.toNat) % d : Nat) : Int)) (congrArg lI (by omega)) ?_
        refine J_lstore_n (lv' := [(3, .long (lI (((r * 268435456 + dgt 28 (V a) i.toNat) % d : Nat) : Int))), (6, .long (lI ((r * 268435456 + dgt 28 (V a) i.toNat : Nat) : Int))), (0, .ref (ad 98)), (1, .int (iI (a : Int))), (2, .int (iI (d : Int))), (5, .int (iI i))]) d_M_shrink_60 rfl (by decide) rfl ?_
        refine J_iinc (j := 5) (b := i - 1) (lv' := [(5, .int (iI (i - 1))), (3, .long (lI (((r * 268435456 + dgt 28 (V a) i.toNat) % d : Nat) : Int))), (6, .long (lI ((r * 268435456 + dgt 28 (V a) i.toNat : Nat) : Int))), (0, .ref (ad 98)), (1, .int (iI (a : Int))), (2, .int (iI (d : Int)))]) d_M_shrink_61 rfl (by omega) (by decide) rfl ?_
        refine J_goto (tgt := 12) d_M_shrink_64 (by decide) ?_
        refine J_pick (lv' := [(0, .ref (ad 98)), (1, .int (iI (a : Int))), (2, .int (iI (d : Int))), (3, .long (lI (((r * 268435456 + dgt 28 (V a) i.toNat) % d : Nat) : Int))), (5, .int (iI (i - 1)))]) [3, 4, 5, 1, 0] rfl ?_
        refine ih (i - 1) ((r * 268435456 + dgt 28 (V a) i.toNat) % d) (va_up f (((26 * (a : Int)) + i).toNat) (((r * 268435456 + dgt 28 (V a) i.toNat) / d : Nat) : Int)) (by omega) ?_ ?_ (by omega)
        · rw [show (i - 1 + 1).toNat = i.toNat by omega, hds.2, hr, show (i + 1).toNat = i.toNat + 1 by omega]
        · rw [hf, show ((26 * (a : Int)) + i).toNat = 26 * a + i.toNat by omega, show (i - 1 + 1).toNat = i.toNat by omega, show (i + 1).toNat = i.toNat + 1 by omega]
          refine sg_dn (by omega) ?_
          rw [dg_nat8, hds.1, hr, show (i + 1).toNat = i.toNat + 1 by omega]
  refine J_eqF (F2 := va_up F 99 (.inl (g 0, 858, .inl (aI hh)))) (up_same1 hB) ?_
  exact loop12 (((((ll a) - 1) + 1).toNat) + 1) ((ll a) - 1) 0 hh (by omega) (by rw [Nat.div_eq_of_lt (Nat.lt_of_lt_of_le (lnw_lt (w := 28) (by decide)) (Nat.pow_le_pow_right (by decide) (by omega))), Nat.zero_mod]) (by rw [show (ll a - 1 + 1).toNat = lnw 28 (V a) by omega]; exact sg_0 _ _ _ _) (Nat.lt_succ_self _)
