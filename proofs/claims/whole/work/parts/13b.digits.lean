/-! reading digits -/
/-- digits from place p on: where they end, how many there are (n before), their value behind v -/
def mdg (w : List Nat) (r : Nat) : Nat → Nat → Nat → Nat → Nat × Nat × Nat
  | 0, p, n, v => (p, n, v)
  | f + 1, p, n, v => if 0 ≤ dgr (chr w p) r then mdg w r f (p + 1) (n + 1) (v * r + (dgr (chr w p) r).toNat) else if 0 < n ∧ chr w p = 95 ∧ 0 ≤ dgr (chr w (p + 1)) r then mdg w r f (p + 1) n v else (p, n, v)
theorem mdg_d {w : List Nat} {r f p n v : Nat} (h : 0 ≤ dgr (chr w p) r) : mdg w r (f + 1) p n v = mdg w r f (p + 1) (n + 1) (v * r + (dgr (chr w p) r).toNat) := by
  show (if _ then _ else _) = _
  rw [if_pos h]
theorem mdg_u {w : List Nat} {r f p n v : Nat} (h : ¬ 0 ≤ dgr (chr w p) r) (h2 : 0 < n ∧ chr w p = 95 ∧ 0 ≤ dgr (chr w (p + 1)) r) : mdg w r (f + 1) p n v = mdg w r f (p + 1) n v := by
  show (if _ then _ else if _ then _ else _) = _
  rw [if_neg h, if_pos h2]
theorem mdg_e {w : List Nat} {r f p n v : Nat} (h : ¬ 0 ≤ dgr (chr w p) r) (h2 : ¬(0 < n ∧ chr w p = 95 ∧ 0 ≤ dgr (chr w (p + 1)) r)) : mdg w r (f + 1) p n v = (p, n, v) := by
  show (if _ then _ else if _ then _ else _) = _
  rw [if_neg h, if_neg h2]
theorem v16 {v p r d : Nat} (h : v < 16 ^ p) (hr : r ≤ 16) (hd : d < r) : v * r + d < 16 ^ (p + 1) := by
  rw [Nat.pow_succ]
  have h1 : (v + 1) * r ≤ 16 ^ p * 16 := Nat.mul_le_mul h hr
  rw [Nat.add_mul, Nat.one_mul] at h1
  omega
theorem l16 {v p : Nat} (h : v < 16 ^ p) (hp : p ≤ 41) : lnw 28 v ≤ 6 := by
  refine (lnw_le (by decide)).mpr (Nat.lt_of_lt_of_le h ?_)
  exact Nat.le_trans (Nat.pow_le_pow_right (by decide) hp) (by decide)
set_option maxRecDepth 100000 in
set_option maxHeartbeats 4000000 in
theorem c_M_digits {l : Launch} (hfl : l.flags = flags0) {D : va_G} {g : Nat → ClassId} {ad : Nat → Nat} {N : Nat} {F : Nat → va_E} {f : Nat → Int} {v : UInt64} {lh : Nat → Int} {ln : List Nat} {hh ll : Nat → Int} {V br : Nat → Nat} {to v0 r p0 pe ne ve : Nat}
    (hN : 109 ≤ N) (hO : F 98 = oM ad f v) (h104 : F 104 = .inl (g 0, 40, .inl (aI lh))) (hml : mtx lh ln) (hf12 : f 12 = (ln.length : Int)) (hl40 : ln.length ≤ 40) (hch : ∀ c, c ∈ ln → 32 ≤ c ∧ c ≤ 126) (hB : F 99 = aB g hh) (hL : F 100 = aL g ll) (hR : reg br hh ll V) (hzz : okB br) (hto : to = 20 ∨ to = 21) (hv0 : V to = v0) (hr : 2 ≤ r ∧ r ≤ 16) (hf19 : f 19 = (p0 : Int)) (hp0 : p0 ≤ 40) (hvb : v0 < 16 ^ p0) (hres : mdg ln r 41 p0 0 v0 = (pe, ne, ve)) :
    JC l y_M_digits b_M_digits 5 (Option.none : Option Jvm.ClassFile.FieldType) rm_M_digits (0, 0) D jCl (jTys g) ad N F [.ref (ad 98), .int (iI (r : Int)), .int (iI (to : Int))] (jv ad N (fun F' => ∃ hh' ll' : Nat → Int, reg br hh' ll' (va_up V to ve) ∧ (pe ≤ 40 ∧ ve < 16 ^ pe) ∧ F' = va_up (va_up (va_up F 98 (oM ad (va_up (va_up f 20 ne) 19 pe) v)) 99 (aB g hh')) 100 (aL g ll'))) := by
  refine JC.go hfl (own := "NumberTowerModel") (lv := [(0, .ref (ad 98)), (1, .int (iI (r : Int))), (2, .int (iI (to : Int)))]) rfl (by decide +kernel) (Nat.le_of_ble_eq_true rfl) rfl (fun A => ?_)
  refine J_aload_n 0 d_M_digits_0 rfl rfl ?_
  refine J_iconst d_M_digits_1 ?_
  refine pm_M_250 (by omega) hO d_M_digits_2 ?_
  refine J_iconst d_M_digits_5 ?_
  refine J_istore_n (lv' := [(3, .int (iI 1)), (0, .ref (ad 98)), (1, .int (iI (r : Int))), (2, .int (iI (to : Int)))]) d_M_digits_6 rfl (by decide) rfl ?_
  refine J_pick (lv' := [(0, .ref (ad 98)), (1, .int (iI (r : Int))), (2, .int (iI (to : Int))), (3, .int (iI 1))]) [1, 2, 3, 0] rfl ?_
  refine J_eqF (F2 := va_up F 98 (oM ad (va_up (va_up f 20 0) 19 (p0 : Int)) v)) (congrArg (fun qq : Nat → Int => va_up F 98 (oM ad qq v)) (up_same1 (i := 19) (a := (p0 : Int)) ((va_up_ne _ _ (by decide)).trans hf19))) ?_
  refine J_eqF (F2 := va_up (va_up F 98 (oM ad (va_up (va_up f 20 0) 19 (p0 : Int)) v)) 99 (.inl (g 0, 858, .inl (aI hh)))) (up_same1 (by rw [va_up_ne _ _ (by decide)]; exact hB)) ?_
  refine J_eqF (F2 := va_up (va_up (va_up F 98 (oM ad (va_up (va_up f 20 0) 19 (p0 : Int)) v)) 99 (.inl (g 0, 858, .inl (aI hh)))) 100 (.inl (g 0, 33, .inl (aI ll)))) (up_same1 (by rw [va_up_ne _ _ (by decide), va_up_ne _ _ (by decide)]; exact hL)) ?_
  have loop7 : ∀ (fuel : Nat) (p : Nat) (n : Nat) (vv : Nat) (fu : Nat) (gd : Int) (e1 : Nat → Int) (e2 : Nat → Int) (hgd : (gd = 1 ∧ mdg ln r fu p n vv = (pe, ne, ve) ∧ 41 ≤ fu + p) ∨ (gd = 0 ∧ p = pe ∧ n = ne ∧ vv = ve)) (hvv : vv < 16 ^ p) (hp : p ≤ 40) (hgb : gd = 0 ∨ gd = 1) (hn : n ≤ p) (hRL7 : reg br e1 e2 (va_up V to vv)) (hfu : 2 * (50 - p) + gd.toNat < fuel), J l rm_M_digits (0, 0) "NumberTowerModel" b_M_digits 5 (Option.none : Option Jvm.ClassFile.FieldType) D jCl (jTys g) A (fun _ me => me.name = y_M_digits.name) (jv ad N (fun F' => ∃ hh' ll' : Nat → Int, reg br hh' ll' (va_up V to ve) ∧ (pe ≤ 40 ∧ ve < 16 ^ pe) ∧ F' = va_up (va_up (va_up F 98 (oM ad (va_up (va_up f 20 ne) 19 pe) v)) 99 (aB g hh')) 100 (aL g ll'))) ad N 0 0 7 [(0, .ref (ad 98)), (1, .int (iI (r : Int))), (2, .int (iI (to : Int))), (3, .int (iI gd))] [] (va_up (va_up (va_up F 98 (oM ad (va_up (va_up f 20 (n : Int)) 19 (p : Int)) v)) 99 (.inl (g 0, 858, .inl (aI e1)))) 100 (.inl (g 0, 33, .inl (aI e2)))) := by
    intro fuel
    induction fuel with
    | zero => intro p n vv fu gd e1 e2 hgd hvv hp hgb hn hRL7 hfu; exact absurd hfu (Nat.not_lt_zero _)
    | succ fuel ih =>
      intro p n vv fu gd e1 e2 hgd hvv hp hgb hn hRL7 hfu
      replace hgd : hold _ := hgd
      have hcb := chr_b hch p
      refine J_iload_n 3 d_M_digits_7 rfl rfl ?_
      refine J_ifeq (tgt := 128) d_M_digits_8 (by decide) ⟨by omega, by omega⟩ (fun c8 => ?_) (fun c8 => ?_)
      · refine J_vret rfl d_M_digits_128 ⟨by decide, by decide⟩ ?_
        obtain ⟨-, rfl, rfl, rfl⟩ := hgd.resolve_left (fun w => by rw [c8] at w; exact absurd w.1 (by decide))
        exact ⟨rfl, rfl, rfl, e1, e2, hRL7, ⟨hp, hvv⟩, rfl⟩
      · have hg := hgd.resolve_right (fun w => c8 w.1)
        refine J_aload_n 0 d_M_digits_11 rfl rfl ?_
        refine J_aload_n 0 d_M_digits_12 rfl rfl ?_
        refine gf_M_244 (by omega) (by rw [va_up_ne _ _ (by decide), va_up_ne _ _ (by decide), va_up_self]) rfl d_M_digits_13 ?_
        refine J_topi (r := (p : Int)) (congrArg iI (va_up_self ..)) ?_
        refine J_callVi cw_M_247 nh_M_here pn_M_here rfl rfl (by omega) (by rw [va_up_ne _ _ (by decide), va_up_ne _ _ (by decide), va_up_self]) (As := [.int (iI (p : Int))]) (rest := []) rfl (Nat.le_of_ble_eq_true rfl) ⟨by decide, by decide⟩ rfl ⟨by decide, by decide⟩ d_M_digits_16 (c_M_here hfl (f := va_up (va_up f 20 (n : Int)) 19 (p : Int)) (v := v) (lh := lh) (ln := ln) (k := p) hN (by rw [va_up_ne _ _ (by decide), va_up_ne _ _ (by decide), va_up_self]) (by rw [va_up_ne _ _ (by decide), va_up_ne _ _ (by decide), va_up_ne _ _ (by decide)]; exact h104) hml ((va_up_ne _ _ (by decide)).trans ((va_up_ne _ _ (by decide)).trans hf12)) hl40 hch (by omega)) (fun z1 F1 hq => ?_)
        obtain ⟨hz1, eF1⟩ := hq
        refine J_eqF eF1 ?_
        refine J_topi (r := (((chr ln p : Nat)) : Int)) (congrArg iI hz1) ?_
        refine J_iload_n 1 d_M_digits_19 rfl rfl ?_
        have hcbz2 := chr_b hch (p)
        refine J_callSi cw_M_253 nh_M_digitOf pn_M_digitOf rfl (As := [.int (iI (((chr ln p : Nat)) : Int)), .int (iI (r : Int))]) (rest := []) rfl (Nat.le_of_ble_eq_true rfl) ⟨by decide, by decide⟩ rfl ⟨by decide, by decide⟩ d_M_digits_20 (c_M_digitOf hfl (c := (((chr ln p : Nat)) : Int)) (r := (r : Int)) ⟨by omega, by omega⟩ ⟨by omega, by omega⟩) (fun z2 F2 hq => ?_)
        obtain ⟨hz2, eF2⟩ := hq
        refine J_eqF eF2 ?_
        have hdbz2 := dgr_b (c := (((chr ln p : Nat)) : Int)) (r := (r : Int))
        refine J_topi (r := dgr (((chr ln p : Nat)) : Int) (r : Int)) (congrArg iI hz2) ?_
        refine J_istore (lv' := [(4, .int (iI (dgr (((chr ln p : Nat)) : Int) (r : Int)))), (0, .ref (ad 98)), (1, .int (iI (r : Int))), (2, .int (iI (to : Int))), (3, .int (iI gd))]) d_M_digits_23 (by decide) rfl ?_
        refine J_iload 0 d_M_digits_25 rfl ?_
        refine J_iflt (tgt := 61) d_M_digits_27 (by decide) ⟨by omega, by omega⟩ (fun c27 => ?_) (fun c27 => ?_)
        · refine J_aload_n 1 d_M_digits_61 rfl rfl ?_
          refine gf_M_250 (by omega) (by rw [va_up_ne _ _ (by decide), va_up_ne _ _ (by decide), va_up_self]) rfl d_M_digits_62 ?_
          refine J_topi (r := (n : Int)) (congrArg iI ((va_up_ne _ _ (by decide)).trans (va_up_self ..))) ?_
          refine J_ifle (tgt := 102) d_M_digits_65 (by decide) ⟨by omega, by omega⟩ (fun c65 => ?_) (fun c65 => ?_)
          · refine J_iconst d_M_digits_102 ?_
            refine J_istore_n (lv' := [(3, .int (iI 0)), (4, .int (iI (dgr (((chr ln p : Nat)) : Int) (r : Int)))), (0, .ref (ad 98)), (1, .int (iI (r : Int))), (2, .int (iI (to : Int)))]) d_M_digits_103 rfl (by decide) rfl ?_
            refine J_aload_n 2 d_M_digits_104 rfl rfl ?_
            refine J_iload_n 0 d_M_digits_105 rfl rfl ?_
            refine J_ifeq (tgt := 118) d_M_digits_106 (by decide) ⟨by omega, by omega⟩ (fun c106 => ?_) (fun c106 => ?_)
            · refine J_aload_n 2 d_M_digits_118 rfl rfl ?_
              refine gf_M_244 (by omega) (by rw [va_up_ne _ _ (by decide), va_up_ne _ _ (by decide), va_up_self]) rfl d_M_digits_119 ?_
              refine J_topi (r := (p : Int)) (congrArg iI (va_up_self ..)) ?_
              refine pm_M_244 (by omega) (by rw [va_up_ne _ _ (by decide), va_up_ne _ _ (by decide), va_up_self]) d_M_digits_122 ?_
              refine J_eqF (F2 := va_up (va_up (va_up (va_up F 98 (oM ad (va_up (va_up f 20 (n : Int)) 19 (p : Int)) v)) 99 (.inl (g 0, 858, .inl (aI e1)))) 100 (.inl (g 0, 33, .inl (aI e2)))) 98 (oM ad (va_up (va_up f 20 (n : Int)) 19 (p : Int)) v)) (congrArg (fun qq : Nat → Int => va_up (va_up (va_up (va_up F 98 (oM ad (va_up (va_up f 20 (n : Int)) 19 (p : Int)) v)) 99 (.inl (g 0, 858, .inl (aI e1)))) 100 (.inl (g 0, 33, .inl (aI e2)))) 98 (oM ad qq v)) (up_in0)) ?_
              refine J_eqF (F2 := va_up (va_up (va_up F 98 (oM ad (va_up (va_up f 20 (n : Int)) 19 (p : Int)) v)) 99 (.inl (g 0, 858, .inl (aI e1)))) 100 (.inl (g 0, 33, .inl (aI e2)))) (up_in2 (by decide) (by decide)) ?_
              refine J_goto (tgt := 7) d_M_digits_125 (by decide) ?_
              refine J_pick (lv' := [(0, .ref (ad 98)), (1, .int (iI (r : Int))), (2, .int (iI (to : Int))), (3, .int (iI 0))]) [2, 3, 4, 0] rfl ?_
              refine ih p n vv (fu - 1) (0 : Int) e1 e2 ?_ ?_ ?_ ?_ ?_ hRL7 ?_
              · have h8 := hg.2.1
                rw [show fu = fu - 1 + 1 by omega, mdg_e (f := fu - 1) (n := n) (v := vv) (show ¬ 0 ≤ dgr (chr ln p : Int) (r : Int) by omega) (fun w => by omega)] at h8
                injection h8 with h9 h8
                injection h8 with h10 h11
                exact Or.inr ⟨rfl, h9, h10, h11⟩
              · exact Nat.lt_of_lt_of_le hvv (Nat.pow_le_pow_right (by decide) (by omega))
              · omega
              · omega
              · omega
              · omega
            · exact absurd c106 (by decide)
          · refine J_aload_n 1 d_M_digits_68 rfl rfl ?_
            refine J_aload_n 1 d_M_digits_69 rfl rfl ?_
            refine gf_M_244 (by omega) (by rw [va_up_ne _ _ (by decide), va_up_ne _ _ (by decide), va_up_self]) rfl d_M_digits_70 ?_
            refine J_topi (r := (p : Int)) (congrArg iI (va_up_self ..)) ?_
            refine J_callVi cw_M_247 nh_M_here pn_M_here rfl rfl (by omega) (by rw [va_up_ne _ _ (by decide), va_up_ne _ _ (by decide), va_up_self]) (As := [.int (iI (p : Int))]) (rest := []) rfl (Nat.le_of_ble_eq_true rfl) ⟨by decide, by decide⟩ rfl ⟨by decide, by decide⟩ d_M_digits_73 (c_M_here hfl (f := va_up (va_up f 20 (n : Int)) 19 (p : Int)) (v := v) (lh := lh) (ln := ln) (k := p) hN (by rw [va_up_ne _ _ (by decide), va_up_ne _ _ (by decide), va_up_self]) (by rw [va_up_ne _ _ (by decide), va_up_ne _ _ (by decide), va_up_ne _ _ (by decide)]; exact h104) hml ((va_up_ne _ _ (by decide)).trans ((va_up_ne _ _ (by decide)).trans hf12)) hl40 hch (by omega)) (fun z3 F3 hq => ?_)
            obtain ⟨hz3, eF3⟩ := hq
            refine J_eqF eF3 ?_
            refine J_topi (r := (((chr ln p : Nat)) : Int)) (congrArg iI hz3) ?_
            refine J_bipush d_M_digits_76 (i8_ok (by decide)) ?_
            refine J_if_icmpne (tgt := 102) d_M_digits_78 (by decide) ⟨by omega, by omega⟩ ⟨by omega, by omega⟩ (fun c78 => ?_) (fun c78 => ?_)
            · refine J_iconst d_M_digits_102 ?_
              refine J_istore_n (lv' := [(3, .int (iI 0)), (4, .int (iI (dgr (((chr ln p : Nat)) : Int) (r : Int)))), (0, .ref (ad 98)), (1, .int (iI (r : Int))), (2, .int (iI (to : Int)))]) d_M_digits_103 rfl (by decide) rfl ?_
              refine J_aload_n 2 d_M_digits_104 rfl rfl ?_
              refine J_iload_n 0 d_M_digits_105 rfl rfl ?_
              refine J_ifeq (tgt := 118) d_M_digits_106 (by decide) ⟨by omega, by omega⟩ (fun c106 => ?_) (fun c106 => ?_)
              · refine J_aload_n 2 d_M_digits_118 rfl rfl ?_
                refine gf_M_244 (by omega) (by rw [va_up_ne _ _ (by decide), va_up_ne _ _ (by decide), va_up_self]) rfl d_M_digits_119 ?_
                refine J_topi (r := (p : Int)) (congrArg iI (va_up_self ..)) ?_
                refine pm_M_244 (by omega) (by rw [va_up_ne _ _ (by decide), va_up_ne _ _ (by decide), va_up_self]) d_M_digits_122 ?_
                refine J_eqF (F2 := va_up (va_up (va_up (va_up F 98 (oM ad (va_up (va_up f 20 (n : Int)) 19 (p : Int)) v)) 99 (.inl (g 0, 858, .inl (aI e1)))) 100 (.inl (g 0, 33, .inl (aI e2)))) 98 (oM ad (va_up (va_up f 20 (n : Int)) 19 (p : Int)) v)) (congrArg (fun qq : Nat → Int => va_up (va_up (va_up (va_up F 98 (oM ad (va_up (va_up f 20 (n : Int)) 19 (p : Int)) v)) 99 (.inl (g 0, 858, .inl (aI e1)))) 100 (.inl (g 0, 33, .inl (aI e2)))) 98 (oM ad qq v)) (up_in0)) ?_
                refine J_eqF (F2 := va_up (va_up (va_up F 98 (oM ad (va_up (va_up f 20 (n : Int)) 19 (p : Int)) v)) 99 (.inl (g 0, 858, .inl (aI e1)))) 100 (.inl (g 0, 33, .inl (aI e2)))) (up_in2 (by decide) (by decide)) ?_
                refine J_goto (tgt := 7) d_M_digits_125 (by decide) ?_
                refine J_pick (lv' := [(0, .ref (ad 98)), (1, .int (iI (r : Int))), (2, .int (iI (to : Int))), (3, .int (iI 0))]) [2, 3, 4, 0] rfl ?_
                refine ih p n vv (fu - 1) (0 : Int) e1 e2 ?_ ?_ ?_ ?_ ?_ hRL7 ?_
                · have h8 := hg.2.1
                  rw [show fu = fu - 1 + 1 by omega, mdg_e (f := fu - 1) (n := n) (v := vv) (show ¬ 0 ≤ dgr (chr ln p : Int) (r : Int) by omega) (fun w => by omega)] at h8
                  injection h8 with h9 h8
                  injection h8 with h10 h11
                  exact Or.inr ⟨rfl, h9, h10, h11⟩
                · exact Nat.lt_of_lt_of_le hvv (Nat.pow_le_pow_right (by decide) (by omega))
                · omega
                · omega
                · omega
                · omega
              · exact absurd c106 (by decide)
            · refine J_aload_n 1 d_M_digits_81 rfl rfl ?_
              refine J_aload_n 1 d_M_digits_82 rfl rfl ?_
              refine gf_M_244 (by omega) (by rw [va_up_ne _ _ (by decide), va_up_ne _ _ (by decide), va_up_self]) rfl d_M_digits_83 ?_
              refine J_topi (r := (p : Int)) (congrArg iI (va_up_self ..)) ?_
              refine J_iconst d_M_digits_86 ?_
              refine J_iadd d_M_digits_87 ?_
              refine J_callVi cw_M_247 nh_M_here pn_M_here rfl rfl (by omega) (by rw [va_up_ne _ _ (by decide), va_up_ne _ _ (by decide), va_up_self]) (As := [.int (iI ((p : Int) + 1))]) (rest := []) rfl (Nat.le_of_ble_eq_true rfl) ⟨by decide, by decide⟩ rfl ⟨by decide, by decide⟩ d_M_digits_88 (c_M_here hfl (f := va_up (va_up f 20 (n : Int)) 19 (p : Int)) (v := v) (lh := lh) (ln := ln) (k := p + 1) hN (by rw [va_up_ne _ _ (by decide), va_up_ne _ _ (by decide), va_up_self]) (by rw [va_up_ne _ _ (by decide), va_up_ne _ _ (by decide), va_up_ne _ _ (by decide)]; exact h104) hml ((va_up_ne _ _ (by decide)).trans ((va_up_ne _ _ (by decide)).trans hf12)) hl40 hch (by omega)) (fun z4 F4 hq => ?_)
              obtain ⟨hz4, eF4⟩ := hq
              refine J_eqF eF4 ?_
              refine J_topi (r := (((chr ln (p + 1) : Nat)) : Int)) (congrArg iI hz4) ?_
              refine J_iload_n 2 d_M_digits_91 rfl rfl ?_
              have hcbz5 := chr_b hch ((p + 1))
              refine J_callSi cw_M_253 nh_M_digitOf pn_M_digitOf rfl (As := [.int (iI (((chr ln (p + 1) : Nat)) : Int)), .int (iI (r : Int))]) (rest := []) rfl (Nat.le_of_ble_eq_true rfl) ⟨by decide, by decide⟩ rfl ⟨by decide, by decide⟩ d_M_digits_92 (c_M_digitOf hfl (c := (((chr ln (p + 1) : Nat)) : Int)) (r := (r : Int)) ⟨by omega, by omega⟩ ⟨by omega, by omega⟩) (fun z5 F5 hq => ?_)
              obtain ⟨hz5, eF5⟩ := hq
              refine J_eqF eF5 ?_
              have hdbz5 := dgr_b (c := (((chr ln (p + 1) : Nat)) : Int)) (r := (r : Int))
              refine J_topi (r := dgr (((chr ln (p + 1) : Nat)) : Int) (r : Int)) (congrArg iI hz5) ?_
              refine J_iflt (tgt := 102) d_M_digits_95 (by decide) ⟨by omega, by omega⟩ (fun c95 => ?_) (fun c95 => ?_)
              · refine J_iconst d_M_digits_102 ?_
                refine J_istore_n (lv' := [(3, .int (iI 0)), (4, .int (iI (dgr (((chr ln p : Nat)) : Int) (r : Int)))), (0, .ref (ad 98)), (1, .int (iI (r : Int))), (2, .int (iI (to : Int)))]) d_M_digits_103 rfl (by decide) rfl ?_
                refine J_aload_n 2 d_M_digits_104 rfl rfl ?_
                refine J_iload_n 0 d_M_digits_105 rfl rfl ?_
                refine J_ifeq (tgt := 118) d_M_digits_106 (by decide) ⟨by omega, by omega⟩ (fun c106 => ?_) (fun c106 => ?_)
                · refine J_aload_n 2 d_M_digits_118 rfl rfl ?_
                  refine gf_M_244 (by omega) (by rw [va_up_ne _ _ (by decide), va_up_ne _ _ (by decide), va_up_self]) rfl d_M_digits_119 ?_
                  refine J_topi (r := (p : Int)) (congrArg iI (va_up_self ..)) ?_
                  refine pm_M_244 (by omega) (by rw [va_up_ne _ _ (by decide), va_up_ne _ _ (by decide), va_up_self]) d_M_digits_122 ?_
                  refine J_eqF (F2 := va_up (va_up (va_up (va_up F 98 (oM ad (va_up (va_up f 20 (n : Int)) 19 (p : Int)) v)) 99 (.inl (g 0, 858, .inl (aI e1)))) 100 (.inl (g 0, 33, .inl (aI e2)))) 98 (oM ad (va_up (va_up f 20 (n : Int)) 19 (p : Int)) v)) (congrArg (fun qq : Nat → Int => va_up (va_up (va_up (va_up F 98 (oM ad (va_up (va_up f 20 (n : Int)) 19 (p : Int)) v)) 99 (.inl (g 0, 858, .inl (aI e1)))) 100 (.inl (g 0, 33, .inl (aI e2)))) 98 (oM ad qq v)) (up_in0)) ?_
                  refine J_eqF (F2 := va_up (va_up (va_up F 98 (oM ad (va_up (va_up f 20 (n : Int)) 19 (p : Int)) v)) 99 (.inl (g 0, 858, .inl (aI e1)))) 100 (.inl (g 0, 33, .inl (aI e2)))) (up_in2 (by decide) (by decide)) ?_
                  refine J_goto (tgt := 7) d_M_digits_125 (by decide) ?_
                  refine J_pick (lv' := [(0, .ref (ad 98)), (1, .int (iI (r : Int))), (2, .int (iI (to : Int))), (3, .int (iI 0))]) [2, 3, 4, 0] rfl ?_
                  refine ih p n vv (fu - 1) (0 : Int) e1 e2 ?_ ?_ ?_ ?_ ?_ hRL7 ?_
                  · have h8 := hg.2.1
                    rw [show fu = fu - 1 + 1 by omega, mdg_e (f := fu - 1) (n := n) (v := vv) (show ¬ 0 ≤ dgr (chr ln p : Int) (r : Int) by omega) (fun w => by omega)] at h8
                    injection h8 with h9 h8
                    injection h8 with h10 h11
                    exact Or.inr ⟨rfl, h9, h10, h11⟩
                  · exact Nat.lt_of_lt_of_le hvv (Nat.pow_le_pow_right (by decide) (by omega))
                  · omega
                  · omega
                  · omega
                  · omega
                · exact absurd c106 (by decide)
              · refine J_iconst d_M_digits_98 ?_
                refine J_goto (tgt := 103) d_M_digits_99 (by decide) ?_
                refine J_istore_n (lv' := [(3, .int (iI 1)), (4, .int (iI (dgr (((chr ln p : Nat)) : Int) (r : Int)))), (0, .ref (ad 98)), (1, .int (iI (r : Int))), (2, .int (iI (to : Int)))]) d_M_digits_103 rfl (by decide) rfl ?_
                refine J_aload_n 2 d_M_digits_104 rfl rfl ?_
                refine J_iload_n 0 d_M_digits_105 rfl rfl ?_
                refine J_ifeq (tgt := 118) d_M_digits_106 (by decide) ⟨by omega, by omega⟩ (fun c106 => ?_) (fun c106 => ?_)
                · exact absurd c106 (by decide)
                · refine J_aload_n 2 d_M_digits_109 rfl rfl ?_
                  refine gf_M_244 (by omega) (by rw [va_up_ne _ _ (by decide), va_up_ne _ _ (by decide), va_up_self]) rfl d_M_digits_110 ?_
                  refine J_topi (r := (p : Int)) (congrArg iI (va_up_self ..)) ?_
                  refine J_iconst d_M_digits_113 ?_
                  refine J_iadd d_M_digits_114 ?_
                  refine J_goto (tgt := 122) d_M_digits_115 (by decide) ?_
                  refine pm_M_244 (by omega) (by rw [va_up_ne _ _ (by decide), va_up_ne _ _ (by decide), va_up_self]) d_M_digits_122 ?_
                  refine J_eqF (F2 := va_up (va_up (va_up (va_up F 98 (oM ad (va_up (va_up f 20 (n : Int)) 19 (p : Int)) v)) 99 (.inl (g 0, 858, .inl (aI e1)))) 100 (.inl (g 0, 33, .inl (aI e2)))) 98 (oM ad (va_up (va_up f 20 (n : Int)) 19 ((p : Int) + 1)) v)) (congrArg (fun qq : Nat → Int => va_up (va_up (va_up (va_up F 98 (oM ad (va_up (va_up f 20 (n : Int)) 19 (p : Int)) v)) 99 (.inl (g 0, 858, .inl (aI e1)))) 100 (.inl (g 0, 33, .inl (aI e2)))) 98 (oM ad qq v)) (up_in0)) ?_
                  refine J_eqF (F2 := va_up (va_up (va_up F 98 (oM ad (va_up (va_up f 20 (n : Int)) 19 ((p : Int) + 1)) v)) 99 (.inl (g 0, 858, .inl (aI e1)))) 100 (.inl (g 0, 33, .inl (aI e2)))) (up_in2 (by decide) (by decide)) ?_
                  refine J_goto (tgt := 7) d_M_digits_125 (by decide) ?_
                  refine J_pick (lv' := [(0, .ref (ad 98)), (1, .int (iI (r : Int))), (2, .int (iI (to : Int))), (3, .int (iI 1))]) [2, 3, 4, 0] rfl ?_
                  refine ih (p + 1) n vv (fu - 1) (1 : Int) e1 e2 ?_ ?_ ?_ ?_ ?_ hRL7 ?_
                  · exact Or.inl ⟨rfl, by rw [← mdg_u (f := fu - 1) (n := n) (v := vv) (show ¬ 0 ≤ dgr (chr ln p : Int) (r : Int) by omega) ⟨by omega, by omega, by omega⟩, show fu - 1 + 1 = fu by omega]; exact hg.2.1, by omega⟩
                  · exact Nat.lt_of_lt_of_le hvv (Nat.pow_le_pow_right (by decide) (by omega))
                  · omega
                  · omega
                  · omega
                  · omega
        · refine J_aload_n 1 d_M_digits_30 rfl rfl ?_
          refine J_iload_n 3 d_M_digits_31 rfl rfl ?_
          refine J_iload_n 2 d_M_digits_32 rfl rfl ?_
          refine J_iload 0 d_M_digits_33 rfl ?_
          refine J_topi (r := ((dgr (chr ln p : Int) (r : Int)).toNat : Int)) (congrArg iI (by omega)) ?_
          refine J_callVv cw_M_54 nh_M_grow pn_M_grow rfl rfl (by omega) (by rw [va_up_ne _ _ (by decide), va_up_ne _ _ (by decide), va_up_self]) (As := [.int (iI (to : Int)), .int (iI (r : Int)), .int (iI ((dgr (chr ln p : Int) (r : Int)).toNat : Int))]) (rest := []) rfl (Nat.le_of_ble_eq_true rfl) ⟨by decide, by decide⟩ rfl ⟨by decide, by decide⟩ d_M_digits_35 (k_M_grow hfl (a := to) (m := r) (more := (dgr (chr ln p : Int) (r : Int)).toNat) (hh := e1) (ll := e2) (V := va_up V to vv) (br := br) (hN := hN) (hO := (by rw [va_up_ne _ _ (by decide), va_up_ne _ _ (by decide), va_up_self])) (hB := (by rw [va_up_ne _ _ (by decide), va_up_self])) (hL := (by rw [va_up_self])) (hR := hRL7) (ha := by omega) (hxa := (va_up_self ..)) (bra := (hzz.2 to (by omega) (by omega))) (hm := by omega) (hmo := by omega) (hT := Nat.le_trans (l16 (v16 hvv hr.2 (by omega)) (by omega)) (by decide))) (fun  F6 hq => ?_)
          obtain ⟨bh6, bl7, hR8, eF6⟩ := hq
          refine J_eqF (F2 := va_up (va_up (va_up F 98 (oM ad (va_up (va_up f 20 (n : Int)) 19 (p : Int)) v)) 99 (.inl (g 0, 858, .inl (aI bh6)))) 100 (.inl (g 0, 33, .inl (aI bl7)))) (eF6.trans (Eq.trans (congrArg (fun q : Nat → va_E => va_up q 100 (.inl (g 0, 33, .inl (aI bl7)))) (up_in1 (by decide))) (up_in0))) ?_
          have hR11 := reg_w1 (hzz.1 _) hR8
          have hR12 := (congrArg (fun qq : Nat → Nat => reg _ _ _ (qq)) (up_in0)).mp hR11
          refine J_aload_n 1 d_M_digits_38 rfl rfl ?_
          refine J_dup d_M_digits_39 rfl ?_
          refine gf_M_250 (by omega) (by rw [va_up_ne _ _ (by decide), va_up_ne _ _ (by decide), va_up_self]) rfl d_M_digits_40 ?_
          refine J_topi (r := (n : Int)) (congrArg iI ((va_up_ne _ _ (by decide)).trans (va_up_self ..))) ?_
          refine J_iconst d_M_digits_43 ?_
          refine J_iadd d_M_digits_44 ?_
          refine pm_M_250 (by omega) (by rw [va_up_ne _ _ (by decide), va_up_ne _ _ (by decide), va_up_self]) d_M_digits_45 ?_
          refine J_eqF (F2 := va_up (va_up (va_up (va_up F 98 (oM ad (va_up (va_up f 20 (n : Int)) 19 (p : Int)) v)) 99 (.inl (g 0, 858, .inl (aI bh6)))) 100 (.inl (g 0, 33, .inl (aI bl7)))) 98 (oM ad (va_up (va_up f 20 ((n : Int) + 1)) 19 (p : Int)) v)) (congrArg (fun qq : Nat → Int => va_up (va_up (va_up (va_up F 98 (oM ad (va_up (va_up f 20 (n : Int)) 19 (p : Int)) v)) 99 (.inl (g 0, 858, .inl (aI bh6)))) 100 (.inl (g 0, 33, .inl (aI bl7)))) 98 (oM ad qq v)) (up_in1 (by decide))) ?_
          refine J_eqF (F2 := va_up (va_up (va_up F 98 (oM ad (va_up (va_up f 20 ((n : Int) + 1)) 19 (p : Int)) v)) 99 (.inl (g 0, 858, .inl (aI bh6)))) 100 (.inl (g 0, 33, .inl (aI bl7)))) (up_in2 (by decide) (by decide)) ?_
          refine J_aload_n 1 d_M_digits_48 rfl rfl ?_
          refine J_dup d_M_digits_49 rfl ?_
          refine gf_M_244 (by omega) (by rw [va_up_ne _ _ (by decide), va_up_ne _ _ (by decide), va_up_self]) rfl d_M_digits_50 ?_
          refine J_topi (r := (p : Int)) (congrArg iI (va_up_self ..)) ?_
          refine J_iconst d_M_digits_53 ?_
          refine J_iadd d_M_digits_54 ?_
          refine pm_M_244 (by omega) (by rw [va_up_ne _ _ (by decide), va_up_ne _ _ (by decide), va_up_self]) d_M_digits_55 ?_
          refine J_eqF (F2 := va_up (va_up (va_up (va_up F 98 (oM ad (va_up (va_up f 20 ((n : Int) + 1)) 19 (p : Int)) v)) 99 (.inl (g 0, 858, .inl (aI bh6)))) 100 (.inl (g 0, 33, .inl (aI bl7)))) 98 (oM ad (va_up (va_up f 20 ((n : Int) + 1)) 19 ((p : Int) + 1)) v)) (congrArg (fun qq : Nat → Int => va_up (va_up (va_up (va_up F 98 (oM ad (va_up (va_up f 20 ((n : Int) + 1)) 19 (p : Int)) v)) 99 (.inl (g 0, 858, .inl (aI bh6)))) 100 (.inl (g 0, 33, .inl (aI bl7)))) 98 (oM ad qq v)) (up_in0)) ?_
          refine J_eqF (F2 := va_up (va_up (va_up F 98 (oM ad (va_up (va_up f 20 ((n : Int) + 1)) 19 ((p : Int) + 1)) v)) 99 (.inl (g 0, 858, .inl (aI bh6)))) 100 (.inl (g 0, 33, .inl (aI bl7)))) (up_in2 (by decide) (by decide)) ?_
          refine J_goto (tgt := 125) d_M_digits_58 (by decide) ?_
          refine J_goto (tgt := 7) d_M_digits_125 (by decide) ?_
          refine J_pick (lv' := [(0, .ref (ad 98)), (1, .int (iI (r : Int))), (2, .int (iI (to : Int))), (3, .int (iI gd))]) [1, 2, 3, 4] rfl ?_
          refine ih (p + 1) (n + 1) (vv * r + ((dgr (chr ln p : Int) (r : Int)).toNat)) (fu - 1) (gd : Int) bh6 bl7 ?_ ?_ ?_ ?_ ?_ hR12 ?_
          · exact Or.inl ⟨hg.1, by rw [← mdg_d (f := fu - 1) (n := n) (v := vv) (show 0 ≤ dgr (chr ln p : Int) (r : Int) by omega), show fu - 1 + 1 = fu by omega]; exact hg.2.1, by omega⟩
          · exact v16 hvv hr.2 (by omega)
          · omega
          · omega
          · omega
          · omega
  have hx_ := (congrArg (reg _ _ _) (up_same1 (i := to) (a := v0) hv0)).mp hR
  have hy_to := hx_
  exact loop7 ((2 * (50 - p0) + (1 : Int).toNat) + 1) p0 0 v0 41 (1 : Int) hh ll (Or.inl ⟨rfl, hres, by omega⟩) hvb hp0 (Or.inr rfl) (Nat.zero_le _) hy_to (Nat.lt_succ_self _)
