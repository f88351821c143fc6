/-! the Model: pad -/

theorem getD_app {a b : List Nat} {j : Nat} : (a ++ b).getD j 0 = if j < a.length then a.getD j 0 else b.getD (j - a.length) 0 := by
  simp only [List.getD_eq_getElem?_getD, List.getElem?_append]
  split <;> rfl
theorem getD_rep {n c j : Nat} (h : j < n) : (List.replicate n c).getD j 0 = c := by
  rw [List.getD_eq_getElem?_getD, List.getElem?_replicate, if_pos h]; rfl
set_option maxRecDepth 100000 in
set_option maxHeartbeats 4000000 in
theorem c_M_pad {l : Launch} (hfl : l.flags = flags0) {D : va_G} {g : Nat → ClassId} {ad : Nat → Nat} {N : Nat} {F : Nat → va_E} {f : Nat → Int} {v : UInt64} {tt : Nat → Int} {a b : List Nat} {al c hn : Nat}
    (hN : 109 ≤ N) (hO : F 98 = oM ad f v) (h107 : F 107 = .inl (g 0, 260, .inl (aI tt))) (hmt : mtx tt (a ++ b)) (hf18 : f 18 = ((a ++ b).length : Int)) (hha : hn ≤ al) (hsz : (a ++ b).length + al ≤ 250) :
    JC l y_M_pad b_M_pad 6 (Option.none : Option Jvm.ClassFile.FieldType) rm_M_pad (0, 0) D jCl (jTys g) ad N F [.ref (ad 98), .int (iI (al : Int)), .int (iI (c : Int)), .int (iI (((a.length : Nat)) : Int)), .int (iI (hn : Int))] (jv ad N (fun F' => ∃ tt' : Nat → Int, mtx tt' (a ++ List.replicate hn c ++ b ++ List.replicate (al - hn) c) ∧ F' = va_up (va_up F 107 (.inl (g 0, 260, .inl (aI tt')))) 98 (oM ad (va_up f 18 ((a ++ List.replicate hn c ++ b ++ List.replicate (al - hn) c).length : Int)) v))) := by
  obtain ⟨S, hS⟩ : ∃ S, S = (a ++ b).length := ⟨_, rfl⟩
  rw [← hS] at hf18 hsz
  have hSa : a.length ≤ S := by rw [hS, List.length_append]; omega
  refine JC.go hfl (own := "NumberTowerModel") (lv := [(0, .ref (ad 98)), (1, .int (iI (al : Int))), (2, .int (iI (c : Int))), (3, .int (iI (((a.length : Nat)) : Int))), (4, .int (iI (hn : Int)))]) rfl (by decide +kernel) (Nat.le_of_ble_eq_true rfl) rfl (fun A => ?_)
  refine J_aload_n 0 d_M_pad_0 rfl rfl ?_
  refine gf_M_265 (by omega) hO rfl d_M_pad_1 ?_
  refine J_topi (r := ((S : Nat) : Int)) (congrArg iI hf18) ?_
  refine J_iconst d_M_pad_4 ?_
  refine J_isub d_M_pad_5 ?_
  refine J_istore (lv' := [(5, .int (iI (((S : Nat) : Int) - 1))), (0, .ref (ad 98)), (1, .int (iI (al : Int))), (2, .int (iI (c : Int))), (3, .int (iI (((a.length : Nat)) : Int))), (4, .int (iI (hn : Int)))]) d_M_pad_6 (by decide) rfl ?_
  refine J_pick (lv' := [(0, .ref (ad 98)), (1, .int (iI (al : Int))), (2, .int (iI (c : Int))), (3, .int (iI (((a.length : Nat)) : Int))), (4, .int (iI (hn : Int))), (5, .int (iI (((S : Nat) : Int) - 1)))]) [1, 2, 3, 4, 5, 0] rfl ?_
  have loop8 : ∀ (fuel : Nat) (q : Nat) (kz : Int) (t2 : Nat → Int) (hkz : kz = (q : Int) - 1) (hq : a.length ≤ q ∧ q ≤ S) (ht2 : ∀ j, t2 j = if q + hn ≤ j ∧ j < S + hn then tt (j - hn) else tt j) (hfu : q < fuel), J l rm_M_pad (0, 0) "NumberTowerModel" b_M_pad 6 (Option.none : Option Jvm.ClassFile.FieldType) D jCl (jTys g) A (fun _ me => me.name = y_M_pad.name) (jv ad N (fun F' => ∃ tt' : Nat → Int, mtx tt' (a ++ List.replicate hn c ++ b ++ List.replicate (al - hn) c) ∧ F' = va_up (va_up F 107 (.inl (g 0, 260, .inl (aI tt')))) 98 (oM ad (va_up f 18 ((a ++ List.replicate hn c ++ b ++ List.replicate (al - hn) c).length : Int)) v))) ad N 0 0 8 [(0, .ref (ad 98)), (1, .int (iI (al : Int))), (2, .int (iI (c : Int))), (3, .int (iI (((a.length : Nat)) : Int))), (4, .int (iI (hn : Int))), (5, .int (iI kz))] [] (va_up F 107 (.inl (g 0, 260, .inl (aI t2)))) := by
    intro fuel
    induction fuel with
    | zero => intro q kz t2 hkz hq ht2 hfu; exact absurd hfu (Nat.not_lt_zero _)
    | succ fuel ih =>
      intro q kz t2 hkz hq ht2 hfu
      refine J_iload 5 d_M_pad_8 rfl ?_
      refine J_iload_n 3 d_M_pad_10 rfl rfl ?_
      refine J_if_icmplt (tgt := 37) d_M_pad_11 (by decide) ⟨by omega, by omega⟩ ⟨by omega, by omega⟩ (fun c11 => ?_) (fun c11 => ?_)
      · refine J_iconst d_M_pad_37 ?_
        refine J_istore (lv' := [(5, .int (iI 0)), (0, .ref (ad 98)), (1, .int (iI (al : Int))), (2, .int (iI (c : Int))), (3, .int (iI (((a.length : Nat)) : Int))), (4, .int (iI (hn : Int)))]) d_M_pad_38 (by decide) rfl ?_
        refine J_pick (lv' := [(0, .ref (ad 98)), (1, .int (iI (al : Int))), (2, .int (iI (c : Int))), (3, .int (iI (((a.length : Nat)) : Int))), (4, .int (iI (hn : Int))), (5, .int (iI 0))]) [1, 2, 3, 4, 5, 0] rfl ?_
        have loop40 : ∀ (fuel : Nat) (i : Nat) (t3 : Nat → Int) (hi : i ≤ hn) (ht3 : ∀ j, t3 j = if a.length ≤ j ∧ j < a.length + i then (c : Int) else t2 j) (hfu : hn - i < fuel), J l rm_M_pad (0, 0) "NumberTowerModel" b_M_pad 6 (Option.none : Option Jvm.ClassFile.FieldType) D jCl (jTys g) A (fun _ me => me.name = y_M_pad.name) (jv ad N (fun F' => ∃ tt' : Nat → Int, mtx tt' (a ++ List.replicate hn c ++ b ++ List.replicate (al - hn) c) ∧ F' = va_up (va_up F 107 (.inl (g 0, 260, .inl (aI tt')))) 98 (oM ad (va_up f 18 ((a ++ List.replicate hn c ++ b ++ List.replicate (al - hn) c).length : Int)) v))) ad N 0 0 40 [(0, .ref (ad 98)), (1, .int (iI (al : Int))), (2, .int (iI (c : Int))), (3, .int (iI (((a.length : Nat)) : Int))), (4, .int (iI (hn : Int))), (5, .int (iI (i : Int)))] [] (va_up F 107 (.inl (g 0, 260, .inl (aI t3)))) := by
          intro fuel
          induction fuel with
          | zero => intro i t3 hi ht3 hfu; exact absurd hfu (Nat.not_lt_zero _)
          | succ fuel ih =>
            intro i t3 hi ht3 hfu
            refine J_iload 5 d_M_pad_40 rfl ?_
            refine J_iload 4 d_M_pad_42 rfl ?_
            refine J_if_icmpge (tgt := 63) d_M_pad_44 (by decide) ⟨by omega, by omega⟩ ⟨by omega, by omega⟩ (fun c44 => ?_) (fun c44 => ?_)
            · have hqa : q = a.length := by omega
              have hi9 : hn = i := by omega
              subst hqa hi9
              have hm9 : mtx t3 (a ++ List.replicate hn c ++ b) := by
                intro j hj
                rw [List.length_append, List.length_append, List.length_replicate] at hj
                rw [List.length_append] at hS
                rw [ht3, ht2, List.append_assoc, getD_app, getD_app, List.length_replicate]
                by_cases h1 : j < a.length
                · rw [if_neg (by omega), if_neg (by omega), if_pos h1, hmt j (by rw [List.length_append]; omega), getD_app, if_pos h1]
                · rw [if_neg h1]
                  by_cases h2 : j < a.length + hn
                  · rw [if_pos (by omega), if_pos (by omega), getD_rep (by omega)]
                  · rw [if_neg (by omega), if_pos (by omega), if_neg (by omega), hmt (j - hn) (by rw [List.length_append]; omega), getD_app, if_neg (by omega)]
                    congr 2; omega
              refine J_aload_n 0 d_M_pad_63 rfl rfl ?_
              refine J_dup d_M_pad_64 rfl ?_
              refine gf_M_265 (by omega) (by rw [va_up_ne _ _ (by decide)]; exact hO) rfl d_M_pad_65 ?_
              refine J_topi (r := ((S : Nat) : Int)) (congrArg iI hf18) ?_
              refine J_iload 4 d_M_pad_68 rfl ?_
              refine J_iadd d_M_pad_70 ?_
              refine pm_M_265 (by omega) (by rw [va_up_ne _ _ (by decide)]; exact hO) d_M_pad_71 ?_
              refine J_iload 4 d_M_pad_74 rfl ?_
              refine J_istore (lv' := [(5, .int (iI (hn : Int))), (0, .ref (ad 98)), (1, .int (iI (al : Int))), (2, .int (iI (c : Int))), (3, .int (iI (((a.length : Nat)) : Int))), (4, .int (iI (hn : Int)))]) d_M_pad_76 (by decide) rfl ?_
              refine J_pick (lv' := [(0, .ref (ad 98)), (1, .int (iI (al : Int))), (2, .int (iI (c : Int))), (3, .int (iI (((a.length : Nat)) : Int))), (4, .int (iI (hn : Int))), (5, .int (iI (hn : Int)))]) [1, 2, 3, 4, 5, 0] rfl ?_
              refine J_eqF (F2 := va_up (va_up F 107 (.inl (g 0, 260, .inl (aI t3)))) 98 (oM ad (va_up f 18 (((a ++ List.replicate hn c ++ b).length : Nat) : Int)) v)) (congrArg (fun qq : Int => va_up (va_up F 107 (.inl (g 0, 260, .inl (aI t3)))) 98 (oM ad (va_up f 18 qq) v)) (show ((S : Nat) : Int) + (hn : Int) = (((a ++ List.replicate hn c ++ b).length : Nat) : Int) from by rw [List.length_append, List.length_append, List.length_replicate]; rw [List.length_append] at hS; omega)) ?_
              have loop78 : ∀ (fuel : Nat) (k : Nat) (w2 : List Nat) (t4 : Nat → Int) (hk : hn ≤ k ∧ k ≤ al) (hw2 : w2 = a ++ List.replicate hn c ++ b ++ List.replicate (k - hn) c) (hm2 : mtx t4 w2) (hfu : al - k < fuel), J l rm_M_pad (0, 0) "NumberTowerModel" b_M_pad 6 (Option.none : Option Jvm.ClassFile.FieldType) D jCl (jTys g) A (fun _ me => me.name = y_M_pad.name) (jv ad N (fun F' => ∃ tt' : Nat → Int, mtx tt' (a ++ List.replicate hn c ++ b ++ List.replicate (al - hn) c) ∧ F' = va_up (va_up F 107 (.inl (g 0, 260, .inl (aI tt')))) 98 (oM ad (va_up f 18 ((a ++ List.replicate hn c ++ b ++ List.replicate (al - hn) c).length : Int)) v))) ad N 0 0 78 [(0, .ref (ad 98)), (1, .int (iI (al : Int))), (2, .int (iI (c : Int))), (3, .int (iI (((a.length : Nat)) : Int))), (4, .int (iI (hn : Int))), (5, .int (iI (k : Int)))] [] (va_up (va_up F 107 (.inl (g 0, 260, .inl (aI t4)))) 98 (oM ad (va_up f 18 ((w2.length : Nat) : Int)) v)) := by
                intro fuel
                induction fuel with
                | zero => intro k w2 t4 hk hw2 hm2 hfu; exact absurd hfu (Nat.not_lt_zero _)
                | succ fuel ih =>
                  intro k w2 t4 hk hw2 hm2 hfu
                  have hwl : w2.length = S + k := by rw [hw2, hS]; simp only [List.length_append, List.length_replicate]; omega
                  refine J_iload 5 d_M_pad_78 rfl ?_
                  refine J_iload_n 1 d_M_pad_80 rfl rfl ?_
                  refine J_if_icmpge (tgt := 95) d_M_pad_81 (by decide) ⟨by omega, by omega⟩ ⟨by omega, by omega⟩ (fun c81 => ?_) (fun c81 => ?_)
                  · refine J_vret rfl d_M_pad_95 ⟨by decide, by decide⟩ ?_
                    have hk9 : k = al := by omega
                    subst hk9
                    subst hw2
                    exact ⟨rfl, rfl, rfl, _, hm2, rfl⟩
                  · refine J_aload_n 0 d_M_pad_84 rfl rfl ?_
                    refine J_iload_n 2 d_M_pad_85 rfl rfl ?_
                    refine J_callVv cw_M_278 nh_M_say pn_M_say rfl rfl (by omega) (by rw [va_up_self]) (As := [.int (iI (c : Int))]) (rest := []) rfl (Nat.le_of_ble_eq_true rfl) ⟨by decide, by decide⟩ rfl ⟨by decide, by decide⟩ d_M_pad_86 (c_M_say hfl (f := va_up f 18 ((w2.length : Nat) : Int)) (v := v) (tt := t4) (w := w2) (c := c) hN (by rw [va_up_self]) (by rw [va_up_ne _ _ (by decide), va_up_self]) hm2 (va_up_self ..) (by omega)) (fun  F1 hq => ?_)
                    obtain ⟨tx65, hmt66, eF1⟩ := hq
                    refine J_eqF (F2 := va_up (va_up F 107 (.inl (g 0, 260, .inl (aI tx65)))) 98 (oM ad (va_up f 18 (((w2 ++ [c]).length : Nat) : Int)) v)) ((eF1.trans (congrArg (fun qq : Nat → Int => va_up (va_up (va_up (va_up F 107 (.inl (g 0, 260, .inl (aI t4)))) 98 (oM ad (va_up f 18 ((w2.length : Nat) : Int)) v)) 107 (.inl (g 0, 260, .inl (aI tx65)))) 98 (oM ad qq v)) (up_in0))).trans (Eq.trans (congrArg (fun qF : Nat → va_E => va_up qF 98 (oM ad (va_up f 18 (((w2 ++ [c]).length : Nat) : Int)) v)) (up_in1 (by decide))) (up_in0))) ?_
                    refine J_iinc (j := 5) (b := (k : Int) + 1) (lv' := [(5, .int (iI ((k : Int) + 1))), (0, .ref (ad 98)), (1, .int (iI (al : Int))), (2, .int (iI (c : Int))), (3, .int (iI (((a.length : Nat)) : Int))), (4, .int (iI (hn : Int)))]) d_M_pad_89 rfl (by omega) (by decide) rfl ?_
                    refine J_goto (tgt := 78) d_M_pad_92 (by decide) ?_
                    refine J_pick (lv' := [(0, .ref (ad 98)), (1, .int (iI (al : Int))), (2, .int (iI (c : Int))), (3, .int (iI (((a.length : Nat)) : Int))), (4, .int (iI (hn : Int))), (5, .int (iI ((k : Int) + 1)))]) [1, 2, 3, 4, 5, 0] rfl ?_
                    exact ih (k + 1) (w2 ++ [c]) tx65 (by omega) (by rw [hw2, show k + 1 - hn = k - hn + 1 by omega, List.replicate_succ', ← List.append_assoc]) hmt66 (by omega)
              exact loop78 ((al - hn) + 1) hn (a ++ List.replicate hn c ++ b) t3 ⟨Nat.le_refl _, hha⟩ (by rw [Nat.sub_self]; exact (List.append_nil _).symm) hm9 (Nat.lt_succ_self _)
            · refine J_aload_n 0 d_M_pad_47 rfl rfl ?_
              refine gf_M_36 (by omega) (by rw [va_up_ne _ _ (by decide)]; exact hO) rfl d_M_pad_48 ?_
              refine J_iload_n 3 d_M_pad_51 rfl rfl ?_
              refine J_iload 5 d_M_pad_52 rfl ?_
              refine J_iadd d_M_pad_54 ?_
              refine J_iload_n 2 d_M_pad_55 rfl rfl ?_
              refine J_iastore 0 rfl (by omega) (by rw [va_up_self]) (by omega) d_M_pad_56 ?_
              refine J_eqF (F2 := va_up (va_up F 107 (.inl (g 0, 260, .inl (aI t3)))) 107 (.inl (g 0, 260, .inl (aI (va_up t3 (a.length + i) (c : Int)))))) (congrArg (fun qI => va_up (va_up F 107 (.inl (g 0, 260, .inl (aI t3)))) 107 (.inl (g 0, 260, .inl (aI (va_up t3 qI (c : Int)))))) (by omega : ((((a.length : Nat)) : Int) + (i : Int)).toNat = a.length + i)) ?_
              refine J_eqF (F2 := va_up F 107 (.inl (g 0, 260, .inl (aI (va_up t3 (a.length + i) (c : Int)))))) (up_in0) ?_
              refine J_iinc (j := 5) (b := (i : Int) + 1) (lv' := [(5, .int (iI ((i : Int) + 1))), (0, .ref (ad 98)), (1, .int (iI (al : Int))), (2, .int (iI (c : Int))), (3, .int (iI (((a.length : Nat)) : Int))), (4, .int (iI (hn : Int)))]) d_M_pad_57 rfl (by omega) (by decide) rfl ?_
              refine J_goto (tgt := 40) d_M_pad_60 (by decide) ?_
              refine J_pick (lv' := [(0, .ref (ad 98)), (1, .int (iI (al : Int))), (2, .int (iI (c : Int))), (3, .int (iI (((a.length : Nat)) : Int))), (4, .int (iI (hn : Int))), (5, .int (iI ((i : Int) + 1)))]) [1, 2, 3, 4, 5, 0] rfl ?_
              refine ih (i + 1) (va_up t3 (a.length + i) (c : Int)) (by omega) ?_ (by omega)
              · intro j
                by_cases e : j = a.length + i
                · rw [e, va_up_self, if_pos (by omega)]
                · rw [va_up_ne _ _ e, ht3]
                  by_cases h : a.length ≤ j ∧ j < a.length + i
                  · rw [if_pos h, if_pos (by omega)]
                  · rw [if_neg h, if_neg (by omega)]
        exact loop40 ((hn - 0) + 1) 0 t2 (Nat.zero_le _) (fun j => by rw [if_neg (by omega)]) (Nat.lt_succ_self _)
      · refine J_aload_n 0 d_M_pad_14 rfl rfl ?_
        refine gf_M_36 (by omega) (by rw [va_up_ne _ _ (by decide)]; exact hO) rfl d_M_pad_15 ?_
        refine J_iload 5 d_M_pad_18 rfl ?_
        refine J_iload 4 d_M_pad_20 rfl ?_
        refine J_iadd d_M_pad_22 ?_
        refine J_topi (r := ((q - 1 + hn : Nat) : Int)) (congrArg iI (by omega)) ?_
        refine J_aload_n 0 d_M_pad_23 rfl rfl ?_
        refine gf_M_36 (by omega) (by rw [va_up_ne _ _ (by decide)]; exact hO) rfl d_M_pad_24 ?_
        refine J_iload 5 d_M_pad_27 rfl ?_
        refine J_topi (r := ((q - 1 : Nat) : Int)) (congrArg iI (by omega)) ?_
        refine J_iaload 0 rfl (by omega) (by rw [va_up_self]) (by omega) d_M_pad_29 ?_
        refine J_topi (r := t2 (q - 1)) (congrArg (fun qI => iI (t2 qI)) (by omega)) ?_
        refine J_iastore 0 rfl (by omega) (by rw [va_up_self]) (by omega) d_M_pad_30 ?_
        refine J_eqF (F2 := va_up (va_up F 107 (.inl (g 0, 260, .inl (aI t2)))) 107 (.inl (g 0, 260, .inl (aI (va_up t2 (q - 1 + hn) (t2 (q - 1))))))) (congrArg (fun qI => va_up (va_up F 107 (.inl (g 0, 260, .inl (aI t2)))) 107 (.inl (g 0, 260, .inl (aI (va_up t2 qI (t2 (q - 1))))))) (by omega : ((q - 1 + hn : Nat) : Int).toNat = q - 1 + hn)) ?_
        refine J_eqF (F2 := va_up F 107 (.inl (g 0, 260, .inl (aI (va_up t2 (q - 1 + hn) (t2 (q - 1))))))) (up_in0) ?_
        refine J_iinc (j := 5) (b := kz - 1) (lv' := [(5, .int (iI (kz - 1))), (0, .ref (ad 98)), (1, .int (iI (al : Int))), (2, .int (iI (c : Int))), (3, .int (iI (((a.length : Nat)) : Int))), (4, .int (iI (hn : Int)))]) d_M_pad_31 rfl (by omega) (by decide) rfl ?_
        refine J_goto (tgt := 8) d_M_pad_34 (by decide) ?_
        refine J_pick (lv' := [(0, .ref (ad 98)), (1, .int (iI (al : Int))), (2, .int (iI (c : Int))), (3, .int (iI (((a.length : Nat)) : Int))), (4, .int (iI (hn : Int))), (5, .int (iI (kz - 1)))]) [1, 2, 3, 4, 5, 0] rfl ?_
        refine ih (q - 1) (kz - 1) (va_up t2 (q - 1 + hn) (t2 (q - 1))) (by omega) (by omega) ?_ (by omega)
        · intro j
          by_cases e : j = q - 1 + hn
          · rw [e, va_up_self, if_pos (by omega), ht2, if_neg (by omega)]; congr 1; omega
          · rw [va_up_ne _ _ e, ht2]
            by_cases h : q + hn ≤ j ∧ j < S + hn
            · rw [if_pos h, if_pos (by omega)]
            · rw [if_neg h, if_neg (by omega)]
  refine J_eqF (F2 := va_up F 107 (.inl (g 0, 260, .inl (aI tt)))) (up_same1 h107) ?_
  exact loop8 (S + 1) S (((S : Nat) : Int) - 1) tt (by omega) ⟨hSa, Nat.le_refl _⟩ (fun j => by split; (rename_i h; omega); rfl) (Nat.lt_succ_self _)
