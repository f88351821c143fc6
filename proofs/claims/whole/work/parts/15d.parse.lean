/-! the class: parse -/
set_option maxRecDepth 100000 in
set_option maxHeartbeats 4000000 in
theorem c_R_parse {l : Launch} (hfl : l.flags = flags0) {D : va_G} {g : Nat → ClassId} {ad : Nat → Nat} {N : Nat} {F0 : Nat → va_E} {W : Nat → Nat} {K S : Nat → Int} {lh : Nat → Int} {ln : List Nat}
    (hN : 109 ≤ N) (hW : bW W) (hT7 : F0 7 = oT ad 7 (ln.length : Int)) (hT8 : F0 8 = aT g lh) (htx : tx lh ln) (hl40 : ln.length ≤ 40) (hch : ∀ c, c ∈ ln → 32 ≤ c ∧ c ≤ 126) {ra rt : Int} (hRd : F0 41 = oR ad ra rt) :
    JC l y_R_parse b_R_parse 3 (Option.some Jvm.ClassFile.FieldType.boolean) rm_R_parse (0, 0) D jCl (jTys g) ad N (cF ad g F0 W K S) [.ref (ad 41), .ref (ad 10)] (ji ad N (fun z F' => ∃ (a' : Nat) (k' : Int) (u' d' : Nat) (t' : Int), prC (prs ln) z k' u' d' t' ∧ (z = 0 ∨ z = 1) ∧ (-5000 ≤ t' ∧ t' ≤ 5000) ∧ bW (va_up (va_up W 11 u') 13 d') ∧ F' = cF ad g (va_up F0 41 (oR ad (a' : Int) t')) (va_up (va_up W 11 u') 13 d') (va_up K 10 k') (va_up S 10 (psv ln)))) := by
  have hc0 : (chr ln 0 = 0 ∧ ln.length ≤ 0 ∧ tat ln 0 = -1) ∨ (32 ≤ chr ln 0 ∧ chr ln 0 ≤ 126 ∧ 0 < ln.length ∧ tat ln 0 = (chr ln 0 : Int)) := tchr hch 0
  refine JC.go hfl (own := "NumberTower$Reader") (lv := [(0, .ref (ad 41)), (1, .ref (ad 10))]) rfl (by decide +kernel) (Nat.le_of_ble_eq_true rfl) rfl (fun A => ?_)
  refine J_aload_n 0 d_R_parse_0 rfl rfl ?_
  refine J_iconst d_R_parse_1 ?_
  refine pf_R_15 (by omega) ((cF_0 (by decide)).trans hRd) (Nat.le_of_ble_eq_true rfl) d_R_parse_2 ?_
  refine J_eqF (F2 := cF ad g (va_up F0 41 (.inr (5, [.ref (ad 7), .int (iI 0), .int (iI rt)]))) W K S) (cF_up0 (by decide)) ?_
  refine J_aload_n 0 d_R_parse_5 rfl rfl ?_
  refine J_iconst d_R_parse_6 ?_
  refine pf_R_19 (by omega) ((cF_0 (by decide)).trans (by rw [va_up_self])) (Nat.le_of_ble_eq_true rfl) d_R_parse_7 ?_
  refine J_eqF (F2 := cF ad g (va_up F0 41 (.inr (5, [.ref (ad 7), .int (iI 0), .int (iI 0)]))) W K S) ((cF_up0 (by decide)).trans (congrArg (fun qq => cF ad g qq W K S) (up_in0))) ?_
  refine J_aload_n 1 d_R_parse_10 rfl rfl ?_
  refine J_lconst (v := 0) d_R_parse_11 rfl ?_
  refine J_callVv cw_R_22 nh_U_setWhole pn_U_setWhole rfl rfl (by omega) (cF_U (by decide) rfl rfl) (As := [.long (lI 0)]) (rest := []) rfl (Nat.le_of_ble_eq_true rfl) ⟨by decide, by decide⟩ rfl ⟨by decide, by decide⟩ d_R_parse_12 (u_setWhole hfl (F0 := va_up F0 41 (.inr (5, [.ref (ad 7), .int (iI 0), .int (iI 0)]))) (W := W) (K := K) (S := S) (k := 10) (v := 0) (by omega) hW (by decide) (by decide)) (fun  F26 hq => ?_)
  obtain ⟨hWs, eFs⟩ := hq
  refine J_eqF (F2 := cF ad g (va_up F0 41 (.inr (5, [.ref (ad 7), .int (iI 0), .int (iI 0)]))) (va_up (va_up W 11 0) 13 1) (va_up K 10 0) (va_up S 10 0)) eFs ?_
  refine J_aload_n 1 d_R_parse_15 rfl rfl ?_
  refine J_aload_n 0 d_R_parse_16 rfl rfl ?_
  refine gf_R_9 (by omega) ((cF_0 (by decide)).trans (by rw [va_up_self])) rfl d_R_parse_17 ?_
  refine J_iconst d_R_parse_20 ?_
  refine J_callVi cw_R_28 nh_T_at pn_T_at rfl rfl (by omega) ((cF_0 (by decide)).trans (by rw [va_up_ne _ _ (by decide)]; exact hT7)) (As := [.int (iI 0)]) (rest := [.ref (ad 10)]) rfl (Nat.le_of_ble_eq_true rfl) ⟨by decide, by decide⟩ rfl ⟨by decide, by decide⟩ d_R_parse_21 (c_T_at hfl (k := 7) (w := ln) (hh := lh) (n := 0) (by omega) ((cF_0 (by decide)).trans (by rw [va_up_ne _ _ (by decide)]; exact hT7)) ((cF_0 (by decide)).trans (by rw [va_up_ne _ _ (by decide)]; exact hT8)) htx (by omega) ⟨by omega, by omega⟩) (fun ta27 F1 hq => ?_)
  obtain ⟨hta27, eF1⟩ := hq
  refine J_eqF eF1 ?_
  refine J_topi (r := tat ln 0) (congrArg iI hta27) ?_
  have lab34 : ∀ (sv : Int) (hsv : sv = psv ln) , J l rm_R_parse (0, 0) "NumberTower$Reader" b_R_parse 3 (Option.some Jvm.ClassFile.FieldType.boolean) D jCl (jTys g) A (fun _ me => me.name = y_R_parse.name) (ji ad N (fun z F' => ∃ (a' : Nat) (k' : Int) (u' d' : Nat) (t' : Int), prC (prs ln) z k' u' d' t' ∧ (z = 0 ∨ z = 1) ∧ (-5000 ≤ t' ∧ t' ≤ 5000) ∧ bW (va_up (va_up W 11 u') 13 d') ∧ F' = cF ad g (va_up F0 41 (oR ad (a' : Int) t')) (va_up (va_up W 11 u') 13 d') (va_up K 10 k') (va_up S 10 (psv ln)))) ad N 0 0 34 [(0, .ref (ad 41)), (1, .ref (ad 10))] [.int (iI sv), .ref (ad 10)] (cF ad g (va_up F0 41 (.inr (5, [.ref (ad 7), .int (iI 0), .int (iI 0)]))) (va_up (va_up W 11 0) 13 1) (va_up K 10 0) (va_up S 10 0)) := by
    intro sv hsv
    refine pf_R_33 (by omega) (cF_U (by decide) (va_up_self ..) (va_up_self ..)) (Nat.le_of_ble_eq_true rfl) d_R_parse_34 ?_
    refine J_eqF (F2 := cF ad g (va_up F0 41 (.inr (5, [.ref (ad 7), .int (iI 0), .int (iI 0)]))) (va_up (va_up W 11 0) 13 1) (va_up K 10 0) (va_up S 10 sv)) (((cF_upU (by decide)).trans (congrArg (fun qq => cF ad g (va_up F0 41 (.inr (5, [.ref (ad 7), .int (iI 0), .int (iI 0)]))) (va_up (va_up W 11 0) 13 1) qq (va_up (va_up S 10 0) 10 sv)) (up_same1 (va_up_self ..)).symm)).trans (congrArg (fun qq => cF ad g (va_up F0 41 (.inr (5, [.ref (ad 7), .int (iI 0), .int (iI 0)]))) (va_up (va_up W 11 0) 13 1) (va_up K 10 0) qq) (up_in0))) ?_
    have lab73 : ∀ (a : Nat) (hsg : psg ln = a) (ha1 : a ≤ 1 ∧ a ≤ ln.length) (hW0 : bW (va_up (va_up W 11 0) 13 1)) , J l rm_R_parse (0, 0) "NumberTower$Reader" b_R_parse 3 (Option.some Jvm.ClassFile.FieldType.boolean) D jCl (jTys g) A (fun _ me => me.name = y_R_parse.name) (ji ad N (fun z F' => ∃ (a' : Nat) (k' : Int) (u' d' : Nat) (t' : Int), prC (prs ln) z k' u' d' t' ∧ (z = 0 ∨ z = 1) ∧ (-5000 ≤ t' ∧ t' ≤ 5000) ∧ bW (va_up (va_up W 11 u') 13 d') ∧ F' = cF ad g (va_up F0 41 (oR ad (a' : Int) t')) (va_up (va_up W 11 u') 13 d') (va_up K 10 k') (va_up S 10 (psv ln)))) ad N 0 0 73 [(0, .ref (ad 41)), (1, .ref (ad 10))] [] (cF ad g (va_up F0 41 (.inr (5, [.ref (ad 7), .int (iI (a : Int)), .int (iI 0)]))) (va_up (va_up W 11 0) 13 1) (va_up K 10 0) (va_up S 10 sv)) := by
      intro a hsg ha1 hW0
      have hca := tchr hch a
      have hca1 := tchr hch (a + 1)
      clear hc0
      have lab210 : ∀ (zz : Int) (pe : Nat) (kk : Int) (uu : Nat) (dd : Nat) (tt : Int) (hhu : hold (((zz = 1 ∧ pe = ln.length) ∧ prs ln = some (kk, uu, dd, tt)) ∨ (¬(zz = 1 ∧ pe = ln.length) ∧ prs ln = none))) (hzz1 : zz = 0 ∨ zz = 1) (hpe : pe ≤ 41) (htt : -5000 ≤ tt ∧ tt ≤ 5000) (hWu : bW (va_up (va_up W 11 uu) 13 dd)) , J l rm_R_parse (0, 0) "NumberTower$Reader" b_R_parse 3 (Option.some Jvm.ClassFile.FieldType.boolean) D jCl (jTys g) A (fun _ me => me.name = y_R_parse.name) (ji ad N (fun z F' => ∃ (a' : Nat) (k' : Int) (u' d' : Nat) (t' : Int), prC (prs ln) z k' u' d' t' ∧ (z = 0 ∨ z = 1) ∧ (-5000 ≤ t' ∧ t' ≤ 5000) ∧ bW (va_up (va_up W 11 u') 13 d') ∧ F' = cF ad g (va_up F0 41 (oR ad (a' : Int) t')) (va_up (va_up W 11 u') 13 d') (va_up K 10 k') (va_up S 10 (psv ln)))) ad N 0 0 210 [(0, .ref (ad 41)), (1, .ref (ad 10)), (2, .int (iI zz))] [] (cF ad g (va_up F0 41 (.inr (5, [.ref (ad 7), .int (iI (pe : Int)), .int (iI tt)]))) (va_up (va_up W 11 uu) 13 dd) (va_up K 10 kk) (va_up S 10 sv)) := by
        intro zz pe kk uu dd tt hhu hzz1 hpe htt hWu
        refine J_iload_n 2 d_R_parse_210 rfl rfl ?_
        refine J_ifeq (tgt := 232) d_R_parse_211 (by decide) ⟨by omega, by omega⟩ (fun c211 => ?_) (fun c211 => ?_)
        · refine J_iconst d_R_parse_232 ?_
          refine J_iret rfl (nb01 (by omega)).1 d_R_parse_233 ⟨by decide, by decide⟩ ?_
          refine ⟨_, rfl, rfl, rfl, pe, kk, uu, dd, tt, ?_, by omega, htt, hWu, by rw [← hsv]⟩
          rcases (show _ ∨ _ from hhu) with w | w
          · omega
          · exact Or.inr ⟨rfl, w.2⟩
        · refine J_aload_n 0 d_R_parse_214 rfl rfl ?_
          refine gf_R_15 (by omega) ((cF_0 (by decide)).trans (by rw [va_up_self])) rfl d_R_parse_215 ?_
          refine J_aload_n 0 d_R_parse_218 rfl rfl ?_
          refine gf_R_9 (by omega) ((cF_0 (by decide)).trans (by rw [va_up_self])) rfl d_R_parse_219 ?_
          refine gf_R_48 (by omega) ((cF_0 (by decide)).trans (by rw [va_up_ne _ _ (by decide)]; exact hT7)) rfl d_R_parse_222 ?_
          refine J_if_icmpne (tgt := 232) d_R_parse_225 (by decide) ⟨by omega, by omega⟩ ⟨by omega, by omega⟩ (fun c225 => ?_) (fun c225 => ?_)
          · refine J_iconst d_R_parse_232 ?_
            refine J_iret rfl (nb01 (by omega)).1 d_R_parse_233 ⟨by decide, by decide⟩ ?_
            refine ⟨_, rfl, rfl, rfl, pe, kk, uu, dd, tt, ?_, by omega, htt, hWu, by rw [← hsv]⟩
            rcases (show _ ∨ _ from hhu) with w | w
            · omega
            · exact Or.inr ⟨rfl, w.2⟩
          · refine J_iconst d_R_parse_228 ?_
            refine J_goto (tgt := 233) d_R_parse_229 (by decide) ?_
            refine J_iret rfl (nb01 (by omega)).1 d_R_parse_233 ⟨by decide, by decide⟩ ?_
            refine ⟨_, rfl, rfl, rfl, pe, kk, uu, dd, tt, ?_, by omega, htt, hWu, by rw [← hsv]⟩
            rcases (show _ ∨ _ from hhu) with w | w
            · exact Or.inl ⟨rfl, w.2⟩
            · exact absurd ⟨by omega, by omega⟩ w.1
      refine J_aload_n 0 d_R_parse_73 rfl rfl ?_
      refine gf_R_9 (by omega) ((cF_0 (by decide)).trans (by rw [va_up_self])) rfl d_R_parse_74 ?_
      refine J_aload_n 0 d_R_parse_77 rfl rfl ?_
      refine gf_R_15 (by omega) ((cF_0 (by decide)).trans (by rw [va_up_self])) rfl d_R_parse_78 ?_
      refine J_callVi cw_R_28 nh_T_at pn_T_at rfl rfl (by omega) ((cF_0 (by decide)).trans (by rw [va_up_ne _ _ (by decide)]; exact hT7)) (As := [.int (iI (a : Int))]) (rest := []) rfl (Nat.le_of_ble_eq_true rfl) ⟨by decide, by decide⟩ rfl ⟨by decide, by decide⟩ d_R_parse_81 (c_T_at hfl (k := 7) (w := ln) (hh := lh) (n := (a : Int)) (by omega) ((cF_0 (by decide)).trans (by rw [va_up_ne _ _ (by decide)]; exact hT7)) ((cF_0 (by decide)).trans (by rw [va_up_ne _ _ (by decide)]; exact hT8)) htx (by omega) ⟨by omega, by omega⟩) (fun ta28 F2 hq => ?_)
      obtain ⟨hta28, eF2⟩ := hq
      refine J_eqF eF2 ?_
      refine J_topi (r := tat ln (a : Int)) (congrArg iI hta28) ?_
      have lab139 : ∀  (hn16 : ¬(chr ln a = 48 ∧ chr ln (a + 1) = 120)) , J l rm_R_parse (0, 0) "NumberTower$Reader" b_R_parse 3 (Option.some Jvm.ClassFile.FieldType.boolean) D jCl (jTys g) A (fun _ me => me.name = y_R_parse.name) (ji ad N (fun z F' => ∃ (a' : Nat) (k' : Int) (u' d' : Nat) (t' : Int), prC (prs ln) z k' u' d' t' ∧ (z = 0 ∨ z = 1) ∧ (-5000 ≤ t' ∧ t' ≤ 5000) ∧ bW (va_up (va_up W 11 u') 13 d') ∧ F' = cF ad g (va_up F0 41 (oR ad (a' : Int) t')) (va_up (va_up W 11 u') 13 d') (va_up K 10 k') (va_up S 10 (psv ln)))) ad N 0 0 139 [(0, .ref (ad 41)), (1, .ref (ad 10))] [] (cF ad g (va_up F0 41 (.inr (5, [.ref (ad 7), .int (iI (a : Int)), .int (iI 0)]))) (va_up (va_up W 11 0) 13 1) (va_up K 10 0) (va_up S 10 sv)) := by
        intro  hn16
        refine J_aload_n 0 d_R_parse_139 rfl rfl ?_
        refine gf_R_9 (by omega) ((cF_0 (by decide)).trans (by rw [va_up_self])) rfl d_R_parse_140 ?_
        refine J_aload_n 0 d_R_parse_143 rfl rfl ?_
        refine gf_R_15 (by omega) ((cF_0 (by decide)).trans (by rw [va_up_self])) rfl d_R_parse_144 ?_
        refine J_callVi cw_R_28 nh_T_at pn_T_at rfl rfl (by omega) ((cF_0 (by decide)).trans (by rw [va_up_ne _ _ (by decide)]; exact hT7)) (As := [.int (iI (a : Int))]) (rest := []) rfl (Nat.le_of_ble_eq_true rfl) ⟨by decide, by decide⟩ rfl ⟨by decide, by decide⟩ d_R_parse_147 (c_T_at hfl (k := 7) (w := ln) (hh := lh) (n := (a : Int)) (by omega) ((cF_0 (by decide)).trans (by rw [va_up_ne _ _ (by decide)]; exact hT7)) ((cF_0 (by decide)).trans (by rw [va_up_ne _ _ (by decide)]; exact hT8)) htx (by omega) ⟨by omega, by omega⟩) (fun ta29 F3 hq => ?_)
        obtain ⟨hta29, eF3⟩ := hq
        refine J_eqF eF3 ?_
        refine J_topi (r := tat ln (a : Int)) (congrArg iI hta29) ?_
        have lab204 : ∀  (hpb : pbs ln a = 10) , J l rm_R_parse (0, 0) "NumberTower$Reader" b_R_parse 3 (Option.some Jvm.ClassFile.FieldType.boolean) D jCl (jTys g) A (fun _ me => me.name = y_R_parse.name) (ji ad N (fun z F' => ∃ (a' : Nat) (k' : Int) (u' d' : Nat) (t' : Int), prC (prs ln) z k' u' d' t' ∧ (z = 0 ∨ z = 1) ∧ (-5000 ≤ t' ∧ t' ≤ 5000) ∧ bW (va_up (va_up W 11 u') 13 d') ∧ F' = cF ad g (va_up F0 41 (oR ad (a' : Int) t')) (va_up (va_up W 11 u') 13 d') (va_up K 10 k') (va_up S 10 (psv ln)))) ad N 0 0 204 [(0, .ref (ad 41)), (1, .ref (ad 10))] [] (cF ad g (va_up F0 41 (.inr (5, [.ref (ad 7), .int (iI (a : Int)), .int (iI 0)]))) (va_up (va_up W 11 0) 13 1) (va_up K 10 0) (va_up S 10 sv)) := by
          intro  hpb
          clear hca hca1 hn16
          refine J_aload_n 0 d_R_parse_204 rfl rfl ?_
          refine J_aload_n 1 d_R_parse_205 rfl rfl ?_
          refine J_callVi cw_R_44 nh_R_parseDecimal pn_R_parseDecimal rfl rfl (by omega) ((cF_0 (by decide)).trans (by rw [va_up_self])) (As := [.ref (ad 10)]) (rest := []) rfl (Nat.le_of_ble_eq_true rfl) ⟨by decide, by decide⟩ rfl ⟨by decide, by decide⟩ d_R_parse_206 (c_R_parseDecimal hfl (F0 := va_up F0 41 (.inr (5, [.ref (ad 7), .int (iI (a : Int)), .int (iI 0)]))) (W := va_up (va_up W 11 0) 13 1) (K := va_up K 10 0) (S := va_up S 10 sv) (lh := lh) (ln := ln) (a0 := a) hN hW0 (by rw [va_up_ne _ _ (by decide)]; exact hT7) (by rw [va_up_ne _ _ (by decide)]; exact hT8) htx hl40 hch (by rw [va_up_self]) (by omega) (((va_up_ne _ _ (by decide)).trans (va_up_self ..))) ((va_up_self ..)) ((va_up_self ..))) (fun ze F30 hq => ?_)
          obtain ⟨ae, ke, ue, de, te, hpx, hz01, hae, hte, hWe, eFe⟩ := hq
          have hW31 := (congrArg bW (Eq.trans (congrArg (fun qq : Nat → Nat => va_up qq 13 de) (up_in1 (by decide))) (up_in0))).mp hWe
          refine J_eqF (F2 := cF ad g (va_up F0 41 (.inr (5, [.ref (ad 7), .int (iI (ae : Int)), .int (iI te)]))) (va_up (va_up W 11 ue) 13 de) (va_up K 10 ke) (va_up S 10 sv)) (((eFe.trans (congrArg (fun qq => cF ad g (va_up (va_up F0 41 (.inr (5, [.ref (ad 7), .int (iI (a : Int)), .int (iI 0)]))) 41 (.inr (5, [.ref (ad 7), .int (iI (ae : Int)), .int (iI te)]))) qq (va_up (va_up K 10 0) 10 ke) (va_up S 10 sv)) (Eq.trans (congrArg (fun qq : Nat → Nat => va_up qq 13 de) (up_in1 (by decide))) (up_in0)))).trans (congrArg (fun qq => cF ad g (va_up (va_up F0 41 (.inr (5, [.ref (ad 7), .int (iI (a : Int)), .int (iI 0)]))) 41 (.inr (5, [.ref (ad 7), .int (iI (ae : Int)), .int (iI te)]))) (va_up (va_up W 11 ue) 13 de) qq (va_up S 10 sv)) (up_in0))).trans (congrArg (fun qq : Nat → va_E => cF ad g qq (va_up (va_up W 11 ue) 13 de) (va_up K 10 ke) (va_up S 10 sv)) (up_in0))) ?_
          refine J_istore_n (lv' := [(2, .int (iI ze)), (0, .ref (ad 41)), (1, .ref (ad 10))]) d_R_parse_209 rfl (by decide) rfl ?_
          refine J_pick (lv' := [(0, .ref (ad 41)), (1, .ref (ad 10)), (2, .int (iI ze))]) [1, 2, 0] rfl ?_
          refine lab210 (ze : Int) ae ke ue de te ?_ (by omega) (by omega) (by omega) hW31
          · have hb : pbs ln a = 10 := hpb
            unfold prs
            rw [hsg, if_pos hb]
            exact hpx
        refine J_bipush d_R_parse_150 (i8_ok (by decide)) ?_
        refine J_if_icmpne (tgt := 204) d_R_parse_152 (by decide) ⟨by omega, by omega⟩ ⟨by omega, by omega⟩ (fun c152 => ?_) (fun c152 => ?_)
        · exact lab204  (by unfold pbs; rw [if_neg (by omega)])
        · refine J_aload_n 0 d_R_parse_155 rfl rfl ?_
          refine gf_R_9 (by omega) ((cF_0 (by decide)).trans (by rw [va_up_self])) rfl d_R_parse_156 ?_
          refine J_aload_n 0 d_R_parse_159 rfl rfl ?_
          refine gf_R_15 (by omega) ((cF_0 (by decide)).trans (by rw [va_up_self])) rfl d_R_parse_160 ?_
          refine J_iconst d_R_parse_163 ?_
          refine J_iadd d_R_parse_164 ?_
          refine J_topi (r := (((a + 1 : Nat)) : Int)) (congrArg iI (by omega)) ?_
          refine J_callVi cw_R_28 nh_T_at pn_T_at rfl rfl (by omega) ((cF_0 (by decide)).trans (by rw [va_up_ne _ _ (by decide)]; exact hT7)) (As := [.int (iI (((a + 1 : Nat)) : Int))]) (rest := []) rfl (Nat.le_of_ble_eq_true rfl) ⟨by decide, by decide⟩ rfl ⟨by decide, by decide⟩ d_R_parse_165 (c_T_at hfl (k := 7) (w := ln) (hh := lh) (n := (((a + 1 : Nat)) : Int)) (by omega) ((cF_0 (by decide)).trans (by rw [va_up_ne _ _ (by decide)]; exact hT7)) ((cF_0 (by decide)).trans (by rw [va_up_ne _ _ (by decide)]; exact hT8)) htx (by omega) ⟨by omega, by omega⟩) (fun ta32 F4 hq => ?_)
          obtain ⟨hta32, eF4⟩ := hq
          refine J_eqF eF4 ?_
          refine J_topi (r := tat ln (((a + 1 : Nat)) : Int)) (congrArg iI hta32) ?_
          refine J_bipush d_R_parse_168 (i8_ok (by decide)) ?_
          refine J_if_icmpne (tgt := 204) d_R_parse_170 (by decide) ⟨by omega, by omega⟩ ⟨by omega, by omega⟩ (fun c170 => ?_) (fun c170 => ?_)
          · exact lab204  (by unfold pbs; rw [if_pos (by omega), if_neg (by omega), if_neg (by omega)])
          · refine J_aload_n 0 d_R_parse_173 rfl rfl ?_
            refine J_dup d_R_parse_174 rfl ?_
            refine gf_R_15 (by omega) ((cF_0 (by decide)).trans (by rw [va_up_self])) rfl d_R_parse_175 ?_
            refine J_iconst d_R_parse_178 ?_
            refine J_iadd d_R_parse_179 ?_
            refine pf_R_15 (by omega) ((cF_0 (by decide)).trans (by rw [va_up_self])) (Nat.le_of_ble_eq_true rfl) d_R_parse_180 ?_
            refine J_eqF (F2 := cF ad g (va_up F0 41 (.inr (5, [.ref (ad 7), .int (iI ((a : Int) + 2)), .int (iI 0)]))) (va_up (va_up W 11 0) 13 1) (va_up K 10 0) (va_up S 10 sv)) ((cF_up0 (by decide)).trans (congrArg (fun qq => cF ad g qq (va_up (va_up W 11 0) 13 1) (va_up K 10 0) (va_up S 10 sv)) (up_in0))) ?_
            refine J_eqF (F2 := cF ad g (va_up F0 41 (.inr (5, [.ref (ad 7), .int (iI (((a + 2) : Nat) : Int)), .int (iI 0)]))) (va_up (va_up W 11 0) 13 1) (va_up K 10 0) (va_up S 10 sv)) (congrArg (fun qq : Int => cF ad g (va_up F0 41 (.inr (5, [.ref (ad 7), .int (iI qq), .int (iI 0)]))) (va_up (va_up W 11 0) 13 1) (va_up K 10 0) (va_up S 10 sv)) (show (a : Int) + 2 = (((a + 2) : Nat) : Int) from (by omega))) ?_
            refine J_aload_n 0 d_R_parse_183 rfl rfl ?_
            refine J_iconst d_R_parse_184 ?_
            refine J_aload_n 1 d_R_parse_185 rfl rfl ?_
            refine gf_R_36 (by omega) (cF_U (by decide) (va_up_self ..) (va_up_self ..)) rfl d_R_parse_186 ?_
            obtain ⟨⟨pY, nY, vY⟩, hmY⟩ : ∃ x, mdg ln 2 41 (a + 2) 0 0 = x := ⟨_, rfl⟩
            refine J_callVi cw_R_40 nh_R_parseDigits pn_R_parseDigits rfl rfl (by omega) ((cF_0 (by decide)).trans (by rw [va_up_self])) (As := [.int (iI 2), .ref (ad 11)]) (rest := []) rfl (Nat.le_of_ble_eq_true rfl) ⟨by decide, by decide⟩ rfl ⟨by decide, by decide⟩ d_R_parse_189 (c_R_parseDigits hfl (F0 := va_up F0 41 (.inr (5, [.ref (ad 7), .int (iI (((a + 2) : Nat) : Int)), .int (iI 0)]))) (W := va_up (va_up W 11 0) 13 1) (K := va_up K 10 0) (S := va_up S 10 sv) (lh := lh) (ln := ln) (a0 := (a + 2)) (t0 := 0) (q := 11) (v0 := 0) (r := 2) (m0 := 0) (pe := pY) (ne := nY) (ve := vY) hN hW0 (by rw [va_up_ne _ _ (by decide)]; exact hT7) (by rw [va_up_ne _ _ (by decide)]; exact hT8) htx hl40 hch (by rw [va_up_self]) (by decide) (((va_up_ne _ _ (by decide)).trans (va_up_self ..))) (by decide) (by omega) (by decide) (by omega) hmY) (fun zdY F35 hq => ?_)
            obtain ⟨hzY, hW33, eF34⟩ := hq
            have hW36 := (congrArg bW (up_in1 (by decide))).mp hW33
            refine J_eqF (F2 := cF ad g (va_up F0 41 (.inr (5, [.ref (ad 7), .int (iI (pY : Int)), .int (iI 0)]))) (va_up (va_up W 11 vY) 13 1) (va_up K 10 0) (va_up S 10 sv)) ((eF34.trans (congrArg (fun qq => cF ad g (va_up (va_up F0 41 (.inr (5, [.ref (ad 7), .int (iI (((a + 2) : Nat) : Int)), .int (iI 0)]))) 41 (.inr (5, [.ref (ad 7), .int (iI (pY : Int)), .int (iI 0)]))) qq (va_up K 10 0) (va_up S 10 sv)) (up_in1 (by decide)))).trans (congrArg (fun qq : Nat → va_E => cF ad g qq (va_up (va_up W 11 vY) 13 1) (va_up K 10 0) (va_up S 10 sv)) (up_in0))) ?_
            refine J_topi (r := (nY : Int)) (congrArg iI hzY) ?_
            have hnpY := mdg_p (w := ln) (r := 2) 41 (a + 2) 0 0
            have hplY := mdg_le (w := ln) (r := 2) 41 (a + 2) 0 0 (by omega)
            have hnvY := mdg_v (w := ln) (r := 2) (m := 0) (by decide) 41 (a + 2) 0 0 (by decide)
            rw [hmY] at hnpY hplY hnvY
            simp only at hnpY hplY hnvY
            have hcpY := tchr hch pY
            refine J_ifle (tgt := 199) d_R_parse_192 (by decide) ⟨by omega, by omega⟩ (fun c192 => ?_) (fun c192 => ?_)
            · refine J_iconst d_R_parse_199 ?_
              refine J_istore_n (lv' := [(2, .int (iI 0)), (0, .ref (ad 41)), (1, .ref (ad 10))]) d_R_parse_200 rfl (by decide) rfl ?_
              refine J_goto (tgt := 210) d_R_parse_201 (by decide) ?_
              refine J_pick (lv' := [(0, .ref (ad 41)), (1, .ref (ad 10)), (2, .int (iI 0))]) [1, 2, 0] rfl ?_
              refine lab210 (0 : Int) pY (0 : Int) vY 1 (0 : Int) ?_ (by omega) (by omega) (by omega) hW36
              · have hb : pbs ln a = 2 := by unfold pbs; rw [if_pos (by omega), if_neg (by omega), if_pos (by omega)]
                have hr : prs ln = prB ln (mdg ln 2 41 (a + 2) 0 0) := by unfold prs; rw [hsg, hb]; exact if_neg (by decide)
                rw [hmY] at hr
                exact prX_b (n := nY) hr (by omega)
            · refine J_iconst d_R_parse_195 ?_
              refine J_goto (tgt := 200) d_R_parse_196 (by decide) ?_
              refine J_istore_n (lv' := [(2, .int (iI 1)), (0, .ref (ad 41)), (1, .ref (ad 10))]) d_R_parse_200 rfl (by decide) rfl ?_
              refine J_goto (tgt := 210) d_R_parse_201 (by decide) ?_
              refine J_pick (lv' := [(0, .ref (ad 41)), (1, .ref (ad 10)), (2, .int (iI 1))]) [1, 2, 0] rfl ?_
              refine lab210 (1 : Int) pY (0 : Int) vY 1 (0 : Int) ?_ (by omega) (by omega) (by omega) hW36
              · have hb : pbs ln a = 2 := by unfold pbs; rw [if_pos (by omega), if_neg (by omega), if_pos (by omega)]
                have hr : prs ln = prB ln (mdg ln 2 41 (a + 2) 0 0) := by unfold prs; rw [hsg, hb]; exact if_neg (by decide)
                rw [hmY] at hr
                exact prX_b (n := nY) hr (by omega)
      refine J_bipush d_R_parse_84 (i8_ok (by decide)) ?_
      refine J_if_icmpne (tgt := 139) d_R_parse_86 (by decide) ⟨by omega, by omega⟩ ⟨by omega, by omega⟩ (fun c86 => ?_) (fun c86 => ?_)
      · exact lab139  (by omega)
      · refine J_aload_n 0 d_R_parse_89 rfl rfl ?_
        refine gf_R_9 (by omega) ((cF_0 (by decide)).trans (by rw [va_up_self])) rfl d_R_parse_90 ?_
        refine J_aload_n 0 d_R_parse_93 rfl rfl ?_
        refine gf_R_15 (by omega) ((cF_0 (by decide)).trans (by rw [va_up_self])) rfl d_R_parse_94 ?_
        refine J_iconst d_R_parse_97 ?_
        refine J_iadd d_R_parse_98 ?_
        refine J_topi (r := (((a + 1 : Nat)) : Int)) (congrArg iI (by omega)) ?_
        refine J_callVi cw_R_28 nh_T_at pn_T_at rfl rfl (by omega) ((cF_0 (by decide)).trans (by rw [va_up_ne _ _ (by decide)]; exact hT7)) (As := [.int (iI (((a + 1 : Nat)) : Int))]) (rest := []) rfl (Nat.le_of_ble_eq_true rfl) ⟨by decide, by decide⟩ rfl ⟨by decide, by decide⟩ d_R_parse_99 (c_T_at hfl (k := 7) (w := ln) (hh := lh) (n := (((a + 1 : Nat)) : Int)) (by omega) ((cF_0 (by decide)).trans (by rw [va_up_ne _ _ (by decide)]; exact hT7)) ((cF_0 (by decide)).trans (by rw [va_up_ne _ _ (by decide)]; exact hT8)) htx (by omega) ⟨by omega, by omega⟩) (fun ta37 F5 hq => ?_)
        obtain ⟨hta37, eF5⟩ := hq
        refine J_eqF eF5 ?_
        refine J_topi (r := tat ln (((a + 1 : Nat)) : Int)) (congrArg iI hta37) ?_
        refine J_bipush d_R_parse_102 (i8_ok (by decide)) ?_
        refine J_if_icmpne (tgt := 139) d_R_parse_104 (by decide) ⟨by omega, by omega⟩ ⟨by omega, by omega⟩ (fun c104 => ?_) (fun c104 => ?_)
        · exact lab139  (by omega)
        · refine J_aload_n 0 d_R_parse_107 rfl rfl ?_
          refine J_dup d_R_parse_108 rfl ?_
          refine gf_R_15 (by omega) ((cF_0 (by decide)).trans (by rw [va_up_self])) rfl d_R_parse_109 ?_
          refine J_iconst d_R_parse_112 ?_
          refine J_iadd d_R_parse_113 ?_
          refine pf_R_15 (by omega) ((cF_0 (by decide)).trans (by rw [va_up_self])) (Nat.le_of_ble_eq_true rfl) d_R_parse_114 ?_
          refine J_eqF (F2 := cF ad g (va_up F0 41 (.inr (5, [.ref (ad 7), .int (iI ((a : Int) + 2)), .int (iI 0)]))) (va_up (va_up W 11 0) 13 1) (va_up K 10 0) (va_up S 10 sv)) ((cF_up0 (by decide)).trans (congrArg (fun qq => cF ad g qq (va_up (va_up W 11 0) 13 1) (va_up K 10 0) (va_up S 10 sv)) (up_in0))) ?_
          refine J_eqF (F2 := cF ad g (va_up F0 41 (.inr (5, [.ref (ad 7), .int (iI (((a + 2) : Nat) : Int)), .int (iI 0)]))) (va_up (va_up W 11 0) 13 1) (va_up K 10 0) (va_up S 10 sv)) (congrArg (fun qq : Int => cF ad g (va_up F0 41 (.inr (5, [.ref (ad 7), .int (iI qq), .int (iI 0)]))) (va_up (va_up W 11 0) 13 1) (va_up K 10 0) (va_up S 10 sv)) (show (a : Int) + 2 = (((a + 2) : Nat) : Int) from (by omega))) ?_
          refine J_aload_n 0 d_R_parse_117 rfl rfl ?_
          refine J_bipush d_R_parse_118 (i8_ok (by decide)) ?_
          refine J_aload_n 1 d_R_parse_120 rfl rfl ?_
          refine gf_R_36 (by omega) (cF_U (by decide) (va_up_self ..) (va_up_self ..)) rfl d_R_parse_121 ?_
          obtain ⟨⟨pX, nX, vX⟩, hmX⟩ : ∃ x, mdg ln 16 41 (a + 2) 0 0 = x := ⟨_, rfl⟩
          refine J_callVi cw_R_40 nh_R_parseDigits pn_R_parseDigits rfl rfl (by omega) ((cF_0 (by decide)).trans (by rw [va_up_self])) (As := [.int (iI 16), .ref (ad 11)]) (rest := []) rfl (Nat.le_of_ble_eq_true rfl) ⟨by decide, by decide⟩ rfl ⟨by decide, by decide⟩ d_R_parse_124 (c_R_parseDigits hfl (F0 := va_up F0 41 (.inr (5, [.ref (ad 7), .int (iI (((a + 2) : Nat) : Int)), .int (iI 0)]))) (W := va_up (va_up W 11 0) 13 1) (K := va_up K 10 0) (S := va_up S 10 sv) (lh := lh) (ln := ln) (a0 := (a + 2)) (t0 := 0) (q := 11) (v0 := 0) (r := 16) (m0 := 0) (pe := pX) (ne := nX) (ve := vX) hN hW0 (by rw [va_up_ne _ _ (by decide)]; exact hT7) (by rw [va_up_ne _ _ (by decide)]; exact hT8) htx hl40 hch (by rw [va_up_self]) (by decide) (((va_up_ne _ _ (by decide)).trans (va_up_self ..))) (by decide) (by omega) (by decide) (by omega) hmX) (fun zdX F40 hq => ?_)
          obtain ⟨hzX, hW38, eF39⟩ := hq
          have hW41 := (congrArg bW (up_in1 (by decide))).mp hW38
          refine J_eqF (F2 := cF ad g (va_up F0 41 (.inr (5, [.ref (ad 7), .int (iI (pX : Int)), .int (iI 0)]))) (va_up (va_up W 11 vX) 13 1) (va_up K 10 0) (va_up S 10 sv)) ((eF39.trans (congrArg (fun qq => cF ad g (va_up (va_up F0 41 (.inr (5, [.ref (ad 7), .int (iI (((a + 2) : Nat) : Int)), .int (iI 0)]))) 41 (.inr (5, [.ref (ad 7), .int (iI (pX : Int)), .int (iI 0)]))) qq (va_up K 10 0) (va_up S 10 sv)) (up_in1 (by decide)))).trans (congrArg (fun qq : Nat → va_E => cF ad g qq (va_up (va_up W 11 vX) 13 1) (va_up K 10 0) (va_up S 10 sv)) (up_in0))) ?_
          refine J_topi (r := (nX : Int)) (congrArg iI hzX) ?_
          have hnpX := mdg_p (w := ln) (r := 16) 41 (a + 2) 0 0
          have hplX := mdg_le (w := ln) (r := 16) 41 (a + 2) 0 0 (by omega)
          have hnvX := mdg_v (w := ln) (r := 16) (m := 0) (by decide) 41 (a + 2) 0 0 (by decide)
          rw [hmX] at hnpX hplX hnvX
          simp only at hnpX hplX hnvX
          have hcpX := tchr hch pX
          refine J_ifle (tgt := 134) d_R_parse_127 (by decide) ⟨by omega, by omega⟩ (fun c127 => ?_) (fun c127 => ?_)
          · refine J_iconst d_R_parse_134 ?_
            refine J_istore_n (lv' := [(2, .int (iI 0)), (0, .ref (ad 41)), (1, .ref (ad 10))]) d_R_parse_135 rfl (by decide) rfl ?_
            refine J_goto (tgt := 210) d_R_parse_136 (by decide) ?_
            refine J_pick (lv' := [(0, .ref (ad 41)), (1, .ref (ad 10)), (2, .int (iI 0))]) [1, 2, 0] rfl ?_
            refine lab210 (0 : Int) pX (0 : Int) vX 1 (0 : Int) ?_ (by omega) (by omega) (by omega) hW41
            · have hb : pbs ln a = 16 := by unfold pbs; rw [if_pos (by omega), if_pos (by omega)]
              have hr : prs ln = prB ln (mdg ln 16 41 (a + 2) 0 0) := by unfold prs; rw [hsg, hb]; exact if_neg (by decide)
              rw [hmX] at hr
              exact prX_b (n := nX) hr (by omega)
          · refine J_iconst d_R_parse_130 ?_
            refine J_goto (tgt := 135) d_R_parse_131 (by decide) ?_
            refine J_istore_n (lv' := [(2, .int (iI 1)), (0, .ref (ad 41)), (1, .ref (ad 10))]) d_R_parse_135 rfl (by decide) rfl ?_
            refine J_goto (tgt := 210) d_R_parse_136 (by decide) ?_
            refine J_pick (lv' := [(0, .ref (ad 41)), (1, .ref (ad 10)), (2, .int (iI 1))]) [1, 2, 0] rfl ?_
            refine lab210 (1 : Int) pX (0 : Int) vX 1 (0 : Int) ?_ (by omega) (by omega) (by omega) hW41
            · have hb : pbs ln a = 16 := by unfold pbs; rw [if_pos (by omega), if_pos (by omega)]
              have hr : prs ln = prB ln (mdg ln 16 41 (a + 2) 0 0) := by unfold prs; rw [hsg, hb]; exact if_neg (by decide)
              rw [hmX] at hr
              exact prX_b (n := nX) hr (by omega)
    refine J_aload_n 0 d_R_parse_37 rfl rfl ?_
    refine gf_R_9 (by omega) ((cF_0 (by decide)).trans (by rw [va_up_self])) rfl d_R_parse_38 ?_
    refine J_iconst d_R_parse_41 ?_
    refine J_callVi cw_R_28 nh_T_at pn_T_at rfl rfl (by omega) ((cF_0 (by decide)).trans (by rw [va_up_ne _ _ (by decide)]; exact hT7)) (As := [.int (iI 0)]) (rest := []) rfl (Nat.le_of_ble_eq_true rfl) ⟨by decide, by decide⟩ rfl ⟨by decide, by decide⟩ d_R_parse_42 (c_T_at hfl (k := 7) (w := ln) (hh := lh) (n := 0) (by omega) ((cF_0 (by decide)).trans (by rw [va_up_ne _ _ (by decide)]; exact hT7)) ((cF_0 (by decide)).trans (by rw [va_up_ne _ _ (by decide)]; exact hT8)) htx (by omega) ⟨by omega, by omega⟩) (fun ta42 F6 hq => ?_)
    obtain ⟨hta42, eF6⟩ := hq
    refine J_eqF eF6 ?_
    refine J_topi (r := tat ln 0) (congrArg iI hta42) ?_
    refine J_bipush d_R_parse_45 (i8_ok (by decide)) ?_
    refine J_if_icmpeq (tgt := 63) d_R_parse_47 (by decide) ⟨by omega, by omega⟩ ⟨by omega, by omega⟩ (fun c47 => ?_) (fun c47 => ?_)
    · refine J_aload_n 0 d_R_parse_63 rfl rfl ?_
      refine J_dup d_R_parse_64 rfl ?_
      refine gf_R_15 (by omega) ((cF_0 (by decide)).trans (by rw [va_up_self])) rfl d_R_parse_65 ?_
      refine J_iconst d_R_parse_68 ?_
      refine J_iadd d_R_parse_69 ?_
      refine J_topi (r := 1) (congrArg iI (by omega)) ?_
      refine pf_R_15 (by omega) ((cF_0 (by decide)).trans (by rw [va_up_self])) (Nat.le_of_ble_eq_true rfl) d_R_parse_70 ?_
      refine J_eqF (F2 := cF ad g (va_up F0 41 (.inr (5, [.ref (ad 7), .int (iI 1), .int (iI 0)]))) (va_up (va_up W 11 0) 13 1) (va_up K 10 0) (va_up S 10 sv)) ((cF_up0 (by decide)).trans (congrArg (fun qq => cF ad g qq (va_up (va_up W 11 0) 13 1) (va_up K 10 0) (va_up S 10 sv)) (up_in0))) ?_
      refine J_eqF (F2 := cF ad g (va_up F0 41 (.inr (5, [.ref (ad 7), .int (iI (1 : Int)), .int (iI 0)]))) (va_up (va_up W 11 0) 13 1) (va_up K 10 0) (va_up S 10 sv)) (congrArg (fun qq : Int => cF ad g (va_up F0 41 (.inr (5, [.ref (ad 7), .int (iI qq), .int (iI 0)]))) (va_up (va_up W 11 0) 13 1) (va_up K 10 0) (va_up S 10 sv)) (show 1 = (1 : Int) from rfl)) ?_
      exact lab73 1 (by unfold psg; rw [if_pos (by omega)]) (by omega) hWs
    · refine J_aload_n 0 d_R_parse_50 rfl rfl ?_
      refine gf_R_9 (by omega) ((cF_0 (by decide)).trans (by rw [va_up_self])) rfl d_R_parse_51 ?_
      refine J_iconst d_R_parse_54 ?_
      refine J_callVi cw_R_28 nh_T_at pn_T_at rfl rfl (by omega) ((cF_0 (by decide)).trans (by rw [va_up_ne _ _ (by decide)]; exact hT7)) (As := [.int (iI 0)]) (rest := []) rfl (Nat.le_of_ble_eq_true rfl) ⟨by decide, by decide⟩ rfl ⟨by decide, by decide⟩ d_R_parse_55 (c_T_at hfl (k := 7) (w := ln) (hh := lh) (n := 0) (by omega) ((cF_0 (by decide)).trans (by rw [va_up_ne _ _ (by decide)]; exact hT7)) ((cF_0 (by decide)).trans (by rw [va_up_ne _ _ (by decide)]; exact hT8)) htx (by omega) ⟨by omega, by omega⟩) (fun ta43 F7 hq => ?_)
      obtain ⟨hta43, eF7⟩ := hq
      refine J_eqF eF7 ?_
      refine J_topi (r := tat ln 0) (congrArg iI hta43) ?_
      refine J_bipush d_R_parse_58 (i8_ok (by decide)) ?_
      refine J_if_icmpne (tgt := 73) d_R_parse_60 (by decide) ⟨by omega, by omega⟩ ⟨by omega, by omega⟩ (fun c60 => ?_) (fun c60 => ?_)
      · refine J_eqF (F2 := cF ad g (va_up F0 41 (.inr (5, [.ref (ad 7), .int (iI (0 : Int)), .int (iI 0)]))) (va_up (va_up W 11 0) 13 1) (va_up K 10 0) (va_up S 10 sv)) (congrArg (fun qq : Int => cF ad g (va_up F0 41 (.inr (5, [.ref (ad 7), .int (iI qq), .int (iI 0)]))) (va_up (va_up W 11 0) 13 1) (va_up K 10 0) (va_up S 10 sv)) (show 0 = (0 : Int) from rfl)) ?_
        exact lab73 0 (by unfold psg; rw [if_neg (by omega)]) (by omega) hWs
      · refine J_aload_n 0 d_R_parse_63 rfl rfl ?_
        refine J_dup d_R_parse_64 rfl ?_
        refine gf_R_15 (by omega) ((cF_0 (by decide)).trans (by rw [va_up_self])) rfl d_R_parse_65 ?_
        refine J_iconst d_R_parse_68 ?_
        refine J_iadd d_R_parse_69 ?_
        refine J_topi (r := 1) (congrArg iI (by omega)) ?_
        refine pf_R_15 (by omega) ((cF_0 (by decide)).trans (by rw [va_up_self])) (Nat.le_of_ble_eq_true rfl) d_R_parse_70 ?_
        refine J_eqF (F2 := cF ad g (va_up F0 41 (.inr (5, [.ref (ad 7), .int (iI 1), .int (iI 0)]))) (va_up (va_up W 11 0) 13 1) (va_up K 10 0) (va_up S 10 sv)) ((cF_up0 (by decide)).trans (congrArg (fun qq => cF ad g qq (va_up (va_up W 11 0) 13 1) (va_up K 10 0) (va_up S 10 sv)) (up_in0))) ?_
        refine J_eqF (F2 := cF ad g (va_up F0 41 (.inr (5, [.ref (ad 7), .int (iI (1 : Int)), .int (iI 0)]))) (va_up (va_up W 11 0) 13 1) (va_up K 10 0) (va_up S 10 sv)) (congrArg (fun qq : Int => cF ad g (va_up F0 41 (.inr (5, [.ref (ad 7), .int (iI qq), .int (iI 0)]))) (va_up (va_up W 11 0) 13 1) (va_up K 10 0) (va_up S 10 sv)) (show 1 = (1 : Int) from rfl)) ?_
        exact lab73 1 (by unfold psg; rw [if_pos (by omega)]) (by omega) hWs
  refine J_bipush d_R_parse_24 (i8_ok (by decide)) ?_
  refine J_if_icmpne (tgt := 33) d_R_parse_26 (by decide) ⟨by omega, by omega⟩ ⟨by omega, by omega⟩ (fun c26 => ?_) (fun c26 => ?_)
  · refine J_iconst d_R_parse_33 ?_
    exact lab34 (1 : Int) (by unfold psv; rw [if_neg (by omega)])
  · refine J_iconst d_R_parse_29 ?_
    refine J_goto (tgt := 34) d_R_parse_30 (by decide) ?_
    exact lab34 (-1 : Int) (by unfold psv; rw [if_pos (by omega)])
