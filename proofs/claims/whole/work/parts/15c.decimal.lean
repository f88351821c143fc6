/-! the class reads a number: the whole line -/
set_option maxRecDepth 100000 in
set_option maxHeartbeats 4000000 in
theorem c_R_parseDecimal {l : Launch} (hfl : l.flags = flags0) {D : va_G} {g : Nat → ClassId} {ad : Nat → Nat} {N : Nat} {F0 : Nat → va_E} {W : Nat → Nat} {K S : Nat → Int} {lh : Nat → Int} {ln : List Nat} {a0 : Nat}
    (hN : 109 ≤ N) (hW : bW W) (hT7 : F0 7 = oT ad 7 (ln.length : Int)) (hT8 : F0 8 = aT g lh) (htx : tx lh ln) (hl40 : ln.length ≤ 40) (hch : ∀ c, c ∈ ln → 32 ≤ c ∧ c ≤ 126) (hRd : F0 41 = oR ad (a0 : Int) 0) (ha0 : a0 ≤ ln.length) (h11 : W 11 = 0) (h13 : W 13 = 1) (h10 : K 10 = 0) :
    JC l y_R_parseDecimal b_R_parseDecimal 6 (Option.some Jvm.ClassFile.FieldType.boolean) rm_R_parseDecimal (0, 0) D jCl (jTys g) ad N (cF ad g F0 W K S) [.ref (ad 41), .ref (ad 10)] (ji ad N (fun z F' => ∃ (a' : Nat) (k' : Int) (u' d' : Nat) (t' : Int), prX ln.length (prD ln (mdg ln 10 41 a0 0 0)) z a' k' u' d' t' ∧ (z = 0 ∨ z = 1) ∧ a' ≤ 41 ∧ (-5000 ≤ t' ∧ t' ≤ 5000) ∧ bW (va_up (va_up W 11 u') 13 d') ∧ F' = cF ad g (va_up F0 41 (oR ad (a' : Int) t')) (va_up (va_up W 11 u') 13 d') (va_up K 10 k') S)) := by
  refine JC.go hfl (own := "NumberTower$Reader") (lv := [(0, .ref (ad 41)), (1, .ref (ad 10))]) rfl (by decide +kernel) (Nat.le_of_ble_eq_true rfl) rfl (fun A => ?_)
  refine J_aload_n 0 d_R_parseDecimal_0 rfl rfl ?_
  refine J_bipush d_R_parseDecimal_1 (i8_ok (by decide)) ?_
  refine J_aload_n 1 d_R_parseDecimal_3 rfl rfl ?_
  refine gf_R_36 (by omega) (cF_U (by decide) h10 rfl) rfl d_R_parseDecimal_4 ?_
  obtain ⟨⟨pB, nB, vB⟩, hmB⟩ : ∃ x, mdg ln 10 41 a0 0 0 = x := ⟨_, rfl⟩
  refine J_callVi cw_R_40 nh_R_parseDigits pn_R_parseDigits rfl rfl (by omega) ((cF_0 (by decide)).trans hRd) (As := [.int (iI 10), .ref (ad 11)]) (rest := []) rfl (Nat.le_of_ble_eq_true rfl) ⟨by decide, by decide⟩ rfl ⟨by decide, by decide⟩ d_R_parseDecimal_7 (c_R_parseDigits hfl (F0 := F0) (W := W) (K := K) (S := S) (lh := lh) (ln := ln) (a0 := a0) (t0 := 0) (q := 11) (v0 := 0) (r := 10) (m0 := 0) (pe := pB) (ne := nB) (ve := vB) hN hW (hT7) (hT8) htx hl40 hch (hRd) (by decide) (h11) (by decide) (by omega) (by decide) (by omega) hmB) (fun zdB F3 hq => ?_)
  obtain ⟨hzB, hW1, eF2⟩ := hq
  refine J_eqF (F2 := cF ad g (va_up F0 41 (.inr (5, [.ref (ad 7), .int (iI (pB : Int)), .int (iI 0)]))) (va_up W 11 vB) K S) eF2 ?_
  refine J_topi (r := (nB : Int)) (congrArg iI hzB) ?_
  have hnpB := mdg_p (w := ln) (r := 10) 41 a0 0 0
  have hplB := mdg_le (w := ln) (r := 10) 41 a0 0 0 (by omega)
  have hnvB := mdg_v (w := ln) (r := 10) (m := 0) (by decide) 41 a0 0 0 (by decide)
  rw [hmB] at hnpB hplB hnvB
  simp only at hnpB hplB hnvB
  have hcpB := tchr hch pB
  refine J_istore_n (lv' := [(2, .int (iI (nB : Int))), (0, .ref (ad 41)), (1, .ref (ad 10))]) d_R_parseDecimal_10 rfl (by decide) rfl ?_
  refine J_aload_n 1 d_R_parseDecimal_11 rfl rfl ?_
  refine gf_R_9 (by omega) ((cF_0 (by decide)).trans (by rw [va_up_self])) rfl d_R_parseDecimal_12 ?_
  refine J_aload_n 1 d_R_parseDecimal_15 rfl rfl ?_
  refine gf_R_15 (by omega) ((cF_0 (by decide)).trans (by rw [va_up_self])) rfl d_R_parseDecimal_16 ?_
  refine J_callVi cw_R_28 nh_T_at pn_T_at rfl rfl (by omega) ((cF_0 (by decide)).trans (by rw [va_up_ne _ _ (by decide)]; exact hT7)) (As := [.int (iI (pB : Int))]) (rest := []) rfl (Nat.le_of_ble_eq_true rfl) ⟨by decide, by decide⟩ rfl ⟨by decide, by decide⟩ d_R_parseDecimal_19 (c_T_at hfl (k := 7) (w := ln) (hh := lh) (n := (pB : Int)) (by omega) ((cF_0 (by decide)).trans (by rw [va_up_ne _ _ (by decide)]; exact hT7)) ((cF_0 (by decide)).trans (by rw [va_up_ne _ _ (by decide)]; exact hT8)) htx (by omega) ⟨by omega, by omega⟩) (fun ta4 F1 hq => ?_)
  obtain ⟨hta4, eF1⟩ := hq
  refine J_eqF eF1 ?_
  refine J_topi (r := tat ln (pB : Int)) (congrArg iI hta4) ?_
  refine J_bipush d_R_parseDecimal_22 (i8_ok (by decide)) ?_
  refine J_if_icmpne (tgt := 72) d_R_parseDecimal_24 (by decide) ⟨by omega, by omega⟩ ⟨by omega, by omega⟩ (fun c24 => ?_) (fun c24 => ?_)
  · have lab123 : ∀ (p3 : Nat) (n4 : Nat) (v3 : Nat) (pt : Int) (hpr : hold ((pt = 0 ∧ 0 < nB ∧ p3 = ln.length ∧ n4 = 0 ∧ prD ln (mdg ln 10 41 a0 0 0) = some (0, v3, 1, 0)) ∨ (¬(pt = 0 ∧ 0 < nB ∧ p3 = ln.length) ∧ prD ln (mdg ln 10 41 a0 0 0) = prR ln nB (p3, n4, v3)))) (hpt : (pt = 0 ∧ n4 = 0) ∨ pt = 1) (hp3 : p3 ≤ ln.length ∧ n4 ≤ 41) (hW3 : bW (va_up (va_up W 11 v3) 13 1)) , J l rm_R_parseDecimal (0, 0) "NumberTower$Reader" b_R_parseDecimal 6 (Option.some Jvm.ClassFile.FieldType.boolean) D jCl (jTys g) A (fun _ me => me.name = y_R_parseDecimal.name) (ji ad N (fun z F' => ∃ (a' : Nat) (k' : Int) (u' d' : Nat) (t' : Int), prX ln.length (prD ln (mdg ln 10 41 a0 0 0)) z a' k' u' d' t' ∧ (z = 0 ∨ z = 1) ∧ a' ≤ 41 ∧ (-5000 ≤ t' ∧ t' ≤ 5000) ∧ bW (va_up (va_up W 11 u') 13 d') ∧ F' = cF ad g (va_up F0 41 (oR ad (a' : Int) t')) (va_up (va_up W 11 u') 13 d') (va_up K 10 k') S)) ad N 0 0 123 [(0, .ref (ad 41)), (1, .ref (ad 10)), (2, .int (iI (nB : Int))), (3, .int (iI pt)), (4, .int (iI (n4 : Int)))] [] (cF ad g (va_up F0 41 (.inr (5, [.ref (ad 7), .int (iI (p3 : Int)), .int (iI 0)]))) (va_up (va_up W 11 v3) 13 1) K S) := by
      intro p3 n4 v3 pt hpr hpt hp3 hW3
      have hcp3 := tchr hch p3
      refine J_iload_n 2 d_R_parseDecimal_123 rfl rfl ?_
      refine J_ifne (tgt := 134) d_R_parseDecimal_124 (by decide) ⟨by omega, by omega⟩ (fun c124 => ?_) (fun c124 => ?_)
      · have lab171 : ∀ (wt : Int) (hwt : hold ((wt = 1 ∧ (chr ln p3 = 101 ∨ chr ln p3 = 69)) ∨ (wt = 0 ∧ ¬(chr ln p3 = 101 ∨ chr ln p3 = 69)))) (hwt1 : wt = 0 ∨ (wt = 1 ∧ p3 < ln.length)) , J l rm_R_parseDecimal (0, 0) "NumberTower$Reader" b_R_parseDecimal 6 (Option.some Jvm.ClassFile.FieldType.boolean) D jCl (jTys g) A (fun _ me => me.name = y_R_parseDecimal.name) (ji ad N (fun z F' => ∃ (a' : Nat) (k' : Int) (u' d' : Nat) (t' : Int), prX ln.length (prD ln (mdg ln 10 41 a0 0 0)) z a' k' u' d' t' ∧ (z = 0 ∨ z = 1) ∧ a' ≤ 41 ∧ (-5000 ≤ t' ∧ t' ≤ 5000) ∧ bW (va_up (va_up W 11 u') 13 d') ∧ F' = cF ad g (va_up F0 41 (oR ad (a' : Int) t')) (va_up (va_up W 11 u') 13 d') (va_up K 10 k') S)) ad N 0 0 171 [(0, .ref (ad 41)), (1, .ref (ad 10)), (2, .int (iI (nB : Int))), (3, .int (iI pt)), (4, .int (iI (n4 : Int)))] [.int (iI wt)] (cF ad g (va_up F0 41 (.inr (5, [.ref (ad 7), .int (iI (p3 : Int)), .int (iI 0)]))) (va_up (va_up W 11 v3) 13 1) K S) := by
          intro wt hwt hwt1
          clear hcp3
          refine J_istore (lv' := [(5, .int (iI wt)), (0, .ref (ad 41)), (1, .ref (ad 10)), (2, .int (iI (nB : Int))), (3, .int (iI pt)), (4, .int (iI (n4 : Int)))]) d_R_parseDecimal_171 (by decide) rfl ?_
          refine J_iload 0 d_R_parseDecimal_173 rfl ?_
          refine J_ifeq (tgt := 187) d_R_parseDecimal_175 (by decide) ⟨by omega, by omega⟩ (fun c175 => ?_) (fun c175 => ?_)
          · refine J_iload_n 4 d_R_parseDecimal_187 rfl rfl ?_
            refine J_ifne (tgt := 196) d_R_parseDecimal_188 (by decide) ⟨by omega, by omega⟩ (fun c188 => ?_) (fun c188 => ?_)
            · refine J_aload_n 2 d_R_parseDecimal_196 rfl rfl ?_
              refine J_iconst d_R_parseDecimal_197 ?_
              refine pf_R_51 (by omega) (cF_U (by decide) h10 rfl) (Nat.le_of_ble_eq_true rfl) d_R_parseDecimal_198 ?_
              refine J_eqF (F2 := cF ad g (va_up F0 41 (.inr (5, [.ref (ad 7), .int (iI (p3 : Int)), .int (iI 0)]))) (va_up (va_up W 11 v3) 13 1) (va_up K 10 2) S) ((cF_upU (by decide)).trans (congrArg (fun qq => cF ad g (va_up F0 41 (.inr (5, [.ref (ad 7), .int (iI (p3 : Int)), .int (iI 0)]))) (va_up (va_up W 11 v3) 13 1) (va_up K 10 2) qq) (up_same1 rfl).symm)) ?_
              refine J_aload_n 1 d_R_parseDecimal_201 rfl rfl ?_
              refine J_dup d_R_parseDecimal_202 rfl ?_
              refine gf_R_19 (by omega) ((cF_0 (by decide)).trans (by rw [va_up_self])) rfl d_R_parseDecimal_203 ?_
              refine J_iload 5 d_R_parseDecimal_206 rfl ?_
              refine J_isub d_R_parseDecimal_208 ?_
              refine pf_R_19 (by omega) ((cF_0 (by decide)).trans (by rw [va_up_self])) (Nat.le_of_ble_eq_true rfl) d_R_parseDecimal_209 ?_
              refine J_eqF (F2 := cF ad g (va_up F0 41 (.inr (5, [.ref (ad 7), .int (iI (p3 : Int)), .int (iI (0 - (n4 : Int)))]))) (va_up (va_up W 11 v3) 13 1) (va_up K 10 2) S) ((cF_up0 (by decide)).trans (congrArg (fun qq => cF ad g qq (va_up (va_up W 11 v3) 13 1) (va_up K 10 2) S) (up_in0))) ?_
              refine J_iconst d_R_parseDecimal_212 ?_
              refine J_iret rfl (nb01 (by omega)).1 d_R_parseDecimal_213 ⟨by decide, by decide⟩ ?_
              exact ⟨_, rfl, rfl, rfl, p3, 2, v3, 1, 0 - (n4 : Int), (by rcases (show _ ∨ _ from hpr) with w | w; omega; exact prX_c (w.2.trans (prR_y (by omega) (by rcases (show _ ∨ _ from hwt) with q | q <;> omega))) rfl), by omega, by omega, ⟨by omega, by omega⟩, hW3, rfl⟩
            · refine J_iload 0 d_R_parseDecimal_191 rfl ?_
              refine J_ifeq (tgt := 212) d_R_parseDecimal_193 (by decide) ⟨by omega, by omega⟩ (fun c193 => ?_) (fun c193 => ?_)
              · refine J_iconst d_R_parseDecimal_212 ?_
                refine J_eqF (F2 := cF ad g (va_up F0 41 (.inr (5, [.ref (ad 7), .int (iI (p3 : Int)), .int (iI 0)]))) (va_up (va_up W 11 v3) 13 1) (va_up K 10 0) S) (congrArg (fun qq => cF ad g (va_up F0 41 (.inr (5, [.ref (ad 7), .int (iI (p3 : Int)), .int (iI 0)]))) (va_up (va_up W 11 v3) 13 1) qq S) (up_same1 (i := 10) (a := 0) (show (K) 10 = 0 from h10))) ?_
                refine J_iret rfl (nb01 (by omega)).1 d_R_parseDecimal_213 ⟨by decide, by decide⟩ ?_
                exact ⟨_, rfl, rfl, rfl, p3, 0, v3, 1, 0, (by rcases (show _ ∨ _ from hpr) with w | w; exact Or.inl ⟨⟨rfl, w.2.2.1⟩, w.2.2.2.2⟩; exact Or.inr ⟨fun q => w.1 ⟨by omega, by omega, q.2⟩, w.2.trans ((prR_y (by omega) (by rcases (show _ ∨ _ from hwt) with q | q <;> omega)).trans (if_neg (fun q => w.1 ⟨by omega, by omega, q⟩)))⟩), by omega, by omega, ⟨by omega, by omega⟩, hW3, rfl⟩
              · exact (by omega : False).elim
          · refine J_aload_n 1 d_R_parseDecimal_178 rfl rfl ?_
            obtain ⟨q6, hq6⟩ : ∃ q, psq ln (p3 + 1) = q := ⟨_, rfl⟩
            obtain ⟨⟨qe, te⟩, hten⟩ : ∃ x, ten3 ln 3 q6 0 = x := ⟨_, rfl⟩
            refine J_callVi cw_R_62 nh_R_parseTens pn_R_parseTens rfl rfl (by omega) ((cF_0 (by decide)).trans (by rw [va_up_self])) (As := []) (rest := []) rfl (Nat.le_of_ble_eq_true rfl) ⟨by decide, by decide⟩ rfl ⟨by decide, by decide⟩ d_R_parseDecimal_179 (c_R_parseTens hfl (F0 := va_up F0 41 (.inr (5, [.ref (ad 7), .int (iI (p3 : Int)), .int (iI 0)]))) (W := va_up (va_up W 11 v3) 13 1) (K := K) (S := S) (lh := lh) (ln := ln) (a0 := p3) (t0 := 0) (q6 := q6) (qe := qe) (te := te) hN hW3 (by rw [va_up_ne _ _ (by decide)]; exact hT7) (by rw [va_up_ne _ _ (by decide)]; exact hT8) htx hl40 hch (by rw [va_up_self]) (by omega) hq6 hten) (fun zt F5 hq => ?_)
            obtain ⟨hzt, eFt⟩ := hq
            refine J_eqF (F2 := cF ad g (va_up F0 41 (.inr (5, [.ref (ad 7), .int (iI (qe : Int)), .int (iI (if chr ln (p3 + 1) = 45 then -(te : Int) else (te : Int)))]))) (va_up (va_up W 11 v3) 13 1) K S) (eFt.trans (congrArg (fun qq => cF ad g qq (va_up (va_up W 11 v3) 13 1) K S) (up_in0))) ?_
            have hte := ten3_t (w := ln) 3 q6 0
            rw [hten] at hte
            simp only at hte
            have hq6b : q6 ≤ ln.length := by
              rw [← hq6]; unfold psq
              have h9 := tchr hch (p3 + 1)
              split <;> omega
            have hqe := ten3_b (w := ln) 3 q6 0 hq6b
            rw [hten] at hqe
            simp only at hqe
            obtain ⟨tz, htz⟩ : ∃ x : Int, x = (if chr ln (p3 + 1) = 45 then -(te : Int) else (te : Int)) := ⟨_, rfl⟩
            have htzb : -1000 ≤ tz ∧ tz ≤ 1000 := by rw [htz]; split <;> omega
            have hzt1 : (zt = 0 ∧ qe = q6) ∨ (zt = 1 ∧ qe ≠ q6) := by rw [hzt]; split <;> omega
            refine J_eqF (F2 := cF ad g (va_up F0 41 (.inr (5, [.ref (ad 7), .int (iI (qe : Int)), .int (iI tz)]))) (va_up (va_up W 11 v3) 13 1) K S) (congrArg (fun qq : Int => cF ad g (va_up F0 41 (.inr (5, [.ref (ad 7), .int (iI (qe : Int)), .int (iI qq)]))) (va_up (va_up W 11 v3) 13 1) K S) (show (if chr ln (p3 + 1) = 45 then -(te : Int) else (te : Int)) = tz from htz.symm)) ?_
            refine J_ifne (tgt := 187) d_R_parseDecimal_182 (by decide) ⟨by omega, by omega⟩ (fun c182 => ?_) (fun c182 => ?_)
            · refine J_iload_n 4 d_R_parseDecimal_187 rfl rfl ?_
              refine J_ifne (tgt := 196) d_R_parseDecimal_188 (by decide) ⟨by omega, by omega⟩ (fun c188 => ?_) (fun c188 => ?_)
              · refine J_aload_n 2 d_R_parseDecimal_196 rfl rfl ?_
                refine J_iconst d_R_parseDecimal_197 ?_
                refine pf_R_51 (by omega) (cF_U (by decide) h10 rfl) (Nat.le_of_ble_eq_true rfl) d_R_parseDecimal_198 ?_
                refine J_eqF (F2 := cF ad g (va_up F0 41 (.inr (5, [.ref (ad 7), .int (iI (qe : Int)), .int (iI tz)]))) (va_up (va_up W 11 v3) 13 1) (va_up K 10 2) S) ((cF_upU (by decide)).trans (congrArg (fun qq => cF ad g (va_up F0 41 (.inr (5, [.ref (ad 7), .int (iI (qe : Int)), .int (iI tz)]))) (va_up (va_up W 11 v3) 13 1) (va_up K 10 2) qq) (up_same1 rfl).symm)) ?_
                refine J_aload_n 1 d_R_parseDecimal_201 rfl rfl ?_
                refine J_dup d_R_parseDecimal_202 rfl ?_
                refine gf_R_19 (by omega) ((cF_0 (by decide)).trans (by rw [va_up_self])) rfl d_R_parseDecimal_203 ?_
                refine J_iload 5 d_R_parseDecimal_206 rfl ?_
                refine J_isub d_R_parseDecimal_208 ?_
                refine pf_R_19 (by omega) ((cF_0 (by decide)).trans (by rw [va_up_self])) (Nat.le_of_ble_eq_true rfl) d_R_parseDecimal_209 ?_
                refine J_eqF (F2 := cF ad g (va_up F0 41 (.inr (5, [.ref (ad 7), .int (iI (qe : Int)), .int (iI (tz - (n4 : Int)))]))) (va_up (va_up W 11 v3) 13 1) (va_up K 10 2) S) ((cF_up0 (by decide)).trans (congrArg (fun qq => cF ad g qq (va_up (va_up W 11 v3) 13 1) (va_up K 10 2) S) (up_in0))) ?_
                refine J_iconst d_R_parseDecimal_212 ?_
                refine J_iret rfl (nb01 (by omega)).1 d_R_parseDecimal_213 ⟨by decide, by decide⟩ ?_
                exact ⟨_, rfl, rfl, rfl, qe, 2, v3, 1, tz - (n4 : Int), (by rcases (show _ ∨ _ from hpr) with w | w; (rcases (show _ ∨ _ from hwt) with q | q <;> omega); exact prX_c (w.2.trans ((prR_e (by omega) (by rcases (show _ ∨ _ from hwt) with q | q <;> omega)).trans ((prE_x hq6 hten).trans ((if_neg (by omega)).trans (by rw [htz]))))) rfl), by omega, by omega, ⟨by omega, by omega⟩, hW3, rfl⟩
              · refine J_iload 0 d_R_parseDecimal_191 rfl ?_
                refine J_ifeq (tgt := 212) d_R_parseDecimal_193 (by decide) ⟨by omega, by omega⟩ (fun c193 => ?_) (fun c193 => ?_)
                · exact (by omega : False).elim
                · refine J_aload_n 2 d_R_parseDecimal_196 rfl rfl ?_
                  refine J_iconst d_R_parseDecimal_197 ?_
                  refine pf_R_51 (by omega) (cF_U (by decide) h10 rfl) (Nat.le_of_ble_eq_true rfl) d_R_parseDecimal_198 ?_
                  refine J_eqF (F2 := cF ad g (va_up F0 41 (.inr (5, [.ref (ad 7), .int (iI (qe : Int)), .int (iI tz)]))) (va_up (va_up W 11 v3) 13 1) (va_up K 10 2) S) ((cF_upU (by decide)).trans (congrArg (fun qq => cF ad g (va_up F0 41 (.inr (5, [.ref (ad 7), .int (iI (qe : Int)), .int (iI tz)]))) (va_up (va_up W 11 v3) 13 1) (va_up K 10 2) qq) (up_same1 rfl).symm)) ?_
                  refine J_aload_n 1 d_R_parseDecimal_201 rfl rfl ?_
                  refine J_dup d_R_parseDecimal_202 rfl ?_
                  refine gf_R_19 (by omega) ((cF_0 (by decide)).trans (by rw [va_up_self])) rfl d_R_parseDecimal_203 ?_
                  refine J_iload 5 d_R_parseDecimal_206 rfl ?_
                  refine J_isub d_R_parseDecimal_208 ?_
                  refine pf_R_19 (by omega) ((cF_0 (by decide)).trans (by rw [va_up_self])) (Nat.le_of_ble_eq_true rfl) d_R_parseDecimal_209 ?_
                  refine J_eqF (F2 := cF ad g (va_up F0 41 (.inr (5, [.ref (ad 7), .int (iI (qe : Int)), .int (iI (tz - (n4 : Int)))]))) (va_up (va_up W 11 v3) 13 1) (va_up K 10 2) S) ((cF_up0 (by decide)).trans (congrArg (fun qq => cF ad g qq (va_up (va_up W 11 v3) 13 1) (va_up K 10 2) S) (up_in0))) ?_
                  refine J_iconst d_R_parseDecimal_212 ?_
                  refine J_iret rfl (nb01 (by omega)).1 d_R_parseDecimal_213 ⟨by decide, by decide⟩ ?_
                  exact ⟨_, rfl, rfl, rfl, qe, 2, v3, 1, tz - (n4 : Int), (by rcases (show _ ∨ _ from hpr) with w | w; (rcases (show _ ∨ _ from hwt) with q | q <;> omega); exact prX_c (w.2.trans ((prR_e (by omega) (by rcases (show _ ∨ _ from hwt) with q | q <;> omega)).trans ((prE_x hq6 hten).trans ((if_neg (by omega)).trans (by rw [htz]))))) rfl), by omega, by omega, ⟨by omega, by omega⟩, hW3, rfl⟩
            · refine J_iconst d_R_parseDecimal_185 ?_
              refine J_eqF (F2 := cF ad g (va_up F0 41 (.inr (5, [.ref (ad 7), .int (iI (qe : Int)), .int (iI tz)]))) (va_up (va_up W 11 v3) 13 1) (va_up K 10 0) S) (congrArg (fun qq => cF ad g (va_up F0 41 (.inr (5, [.ref (ad 7), .int (iI (qe : Int)), .int (iI tz)]))) (va_up (va_up W 11 v3) 13 1) qq S) (up_same1 (i := 10) (a := 0) (show (K) 10 = 0 from h10))) ?_
              refine J_iret rfl (nb01 (by omega)).1 d_R_parseDecimal_186 ⟨by decide, by decide⟩ ?_
              exact ⟨_, rfl, rfl, rfl, qe, 0, v3, 1, tz, (by rcases (show _ ∨ _ from hpr) with w | w; omega; exact prX_n (w.2.trans ((prR_e (by omega) (by rcases (show _ ∨ _ from hwt) with q | q <;> omega)).trans ((prE_x hq6 hten).trans (if_pos (by omega))))) rfl), by omega, by omega, ⟨by omega, by omega⟩, hW3, rfl⟩
        refine J_aload_n 0 d_R_parseDecimal_134 rfl rfl ?_
        refine gf_R_9 (by omega) ((cF_0 (by decide)).trans (by rw [va_up_self])) rfl d_R_parseDecimal_135 ?_
        refine J_aload_n 0 d_R_parseDecimal_138 rfl rfl ?_
        refine gf_R_15 (by omega) ((cF_0 (by decide)).trans (by rw [va_up_self])) rfl d_R_parseDecimal_139 ?_
        refine J_callVi cw_R_28 nh_T_at pn_T_at rfl rfl (by omega) ((cF_0 (by decide)).trans (by rw [va_up_ne _ _ (by decide)]; exact hT7)) (As := [.int (iI (p3 : Int))]) (rest := []) rfl (Nat.le_of_ble_eq_true rfl) ⟨by decide, by decide⟩ rfl ⟨by decide, by decide⟩ d_R_parseDecimal_142 (c_T_at hfl (k := 7) (w := ln) (hh := lh) (n := (p3 : Int)) (by omega) ((cF_0 (by decide)).trans (by rw [va_up_ne _ _ (by decide)]; exact hT7)) ((cF_0 (by decide)).trans (by rw [va_up_ne _ _ (by decide)]; exact hT8)) htx (by omega) ⟨by omega, by omega⟩) (fun ta6 F2 hq => ?_)
        obtain ⟨hta6, eF2⟩ := hq
        refine J_eqF eF2 ?_
        refine J_topi (r := tat ln (p3 : Int)) (congrArg iI hta6) ?_
        refine J_bipush d_R_parseDecimal_145 (i8_ok (by decide)) ?_
        refine J_if_icmpeq (tgt := 166) d_R_parseDecimal_147 (by decide) ⟨by omega, by omega⟩ ⟨by omega, by omega⟩ (fun c147 => ?_) (fun c147 => ?_)
        · refine J_iconst d_R_parseDecimal_166 ?_
          refine J_goto (tgt := 171) d_R_parseDecimal_167 (by decide) ?_
          exact lab171 (1 : Int) (Or.inl ⟨rfl, by omega⟩) (by omega)
        · refine J_aload_n 0 d_R_parseDecimal_150 rfl rfl ?_
          refine gf_R_9 (by omega) ((cF_0 (by decide)).trans (by rw [va_up_self])) rfl d_R_parseDecimal_151 ?_
          refine J_aload_n 0 d_R_parseDecimal_154 rfl rfl ?_
          refine gf_R_15 (by omega) ((cF_0 (by decide)).trans (by rw [va_up_self])) rfl d_R_parseDecimal_155 ?_
          refine J_callVi cw_R_28 nh_T_at pn_T_at rfl rfl (by omega) ((cF_0 (by decide)).trans (by rw [va_up_ne _ _ (by decide)]; exact hT7)) (As := [.int (iI (p3 : Int))]) (rest := []) rfl (Nat.le_of_ble_eq_true rfl) ⟨by decide, by decide⟩ rfl ⟨by decide, by decide⟩ d_R_parseDecimal_158 (c_T_at hfl (k := 7) (w := ln) (hh := lh) (n := (p3 : Int)) (by omega) ((cF_0 (by decide)).trans (by rw [va_up_ne _ _ (by decide)]; exact hT7)) ((cF_0 (by decide)).trans (by rw [va_up_ne _ _ (by decide)]; exact hT8)) htx (by omega) ⟨by omega, by omega⟩) (fun ta7 F3 hq => ?_)
          obtain ⟨hta7, eF3⟩ := hq
          refine J_eqF eF3 ?_
          refine J_topi (r := tat ln (p3 : Int)) (congrArg iI hta7) ?_
          refine J_bipush d_R_parseDecimal_161 (i8_ok (by decide)) ?_
          refine J_if_icmpne (tgt := 170) d_R_parseDecimal_163 (by decide) ⟨by omega, by omega⟩ ⟨by omega, by omega⟩ (fun c163 => ?_) (fun c163 => ?_)
          · refine J_iconst d_R_parseDecimal_170 ?_
            exact lab171 (0 : Int) (Or.inr ⟨rfl, by omega⟩) (by omega)
          · refine J_iconst d_R_parseDecimal_166 ?_
            refine J_goto (tgt := 171) d_R_parseDecimal_167 (by decide) ?_
            exact lab171 (1 : Int) (Or.inl ⟨rfl, by omega⟩) (by omega)
      · refine J_iload 4 d_R_parseDecimal_127 rfl ?_
        refine J_ifne (tgt := 134) d_R_parseDecimal_129 (by decide) ⟨by omega, by omega⟩ (fun c129 => ?_) (fun c129 => ?_)
        · have lab171 : ∀ (wt : Int) (hwt : hold ((wt = 1 ∧ (chr ln p3 = 101 ∨ chr ln p3 = 69)) ∨ (wt = 0 ∧ ¬(chr ln p3 = 101 ∨ chr ln p3 = 69)))) (hwt1 : wt = 0 ∨ (wt = 1 ∧ p3 < ln.length)) , J l rm_R_parseDecimal (0, 0) "NumberTower$Reader" b_R_parseDecimal 6 (Option.some Jvm.ClassFile.FieldType.boolean) D jCl (jTys g) A (fun _ me => me.name = y_R_parseDecimal.name) (ji ad N (fun z F' => ∃ (a' : Nat) (k' : Int) (u' d' : Nat) (t' : Int), prX ln.length (prD ln (mdg ln 10 41 a0 0 0)) z a' k' u' d' t' ∧ (z = 0 ∨ z = 1) ∧ a' ≤ 41 ∧ (-5000 ≤ t' ∧ t' ≤ 5000) ∧ bW (va_up (va_up W 11 u') 13 d') ∧ F' = cF ad g (va_up F0 41 (oR ad (a' : Int) t')) (va_up (va_up W 11 u') 13 d') (va_up K 10 k') S)) ad N 0 0 171 [(0, .ref (ad 41)), (1, .ref (ad 10)), (2, .int (iI (nB : Int))), (3, .int (iI pt)), (4, .int (iI (n4 : Int)))] [.int (iI wt)] (cF ad g (va_up F0 41 (.inr (5, [.ref (ad 7), .int (iI (p3 : Int)), .int (iI 0)]))) (va_up (va_up W 11 v3) 13 1) K S) := by
            intro wt hwt hwt1
            clear hcp3
            refine J_istore (lv' := [(5, .int (iI wt)), (0, .ref (ad 41)), (1, .ref (ad 10)), (2, .int (iI (nB : Int))), (3, .int (iI pt)), (4, .int (iI (n4 : Int)))]) d_R_parseDecimal_171 (by decide) rfl ?_
            refine J_iload 0 d_R_parseDecimal_173 rfl ?_
            refine J_ifeq (tgt := 187) d_R_parseDecimal_175 (by decide) ⟨by omega, by omega⟩ (fun c175 => ?_) (fun c175 => ?_)
            · refine J_iload_n 4 d_R_parseDecimal_187 rfl rfl ?_
              refine J_ifne (tgt := 196) d_R_parseDecimal_188 (by decide) ⟨by omega, by omega⟩ (fun c188 => ?_) (fun c188 => ?_)
              · refine J_aload_n 2 d_R_parseDecimal_196 rfl rfl ?_
                refine J_iconst d_R_parseDecimal_197 ?_
                refine pf_R_51 (by omega) (cF_U (by decide) h10 rfl) (Nat.le_of_ble_eq_true rfl) d_R_parseDecimal_198 ?_
                refine J_eqF (F2 := cF ad g (va_up F0 41 (.inr (5, [.ref (ad 7), .int (iI (p3 : Int)), .int (iI 0)]))) (va_up (va_up W 11 v3) 13 1) (va_up K 10 2) S) ((cF_upU (by decide)).trans (congrArg (fun qq => cF ad g (va_up F0 41 (.inr (5, [.ref (ad 7), .int (iI (p3 : Int)), .int (iI 0)]))) (va_up (va_up W 11 v3) 13 1) (va_up K 10 2) qq) (up_same1 rfl).symm)) ?_
                refine J_aload_n 1 d_R_parseDecimal_201 rfl rfl ?_
                refine J_dup d_R_parseDecimal_202 rfl ?_
                refine gf_R_19 (by omega) ((cF_0 (by decide)).trans (by rw [va_up_self])) rfl d_R_parseDecimal_203 ?_
                refine J_iload 5 d_R_parseDecimal_206 rfl ?_
                refine J_isub d_R_parseDecimal_208 ?_
                refine pf_R_19 (by omega) ((cF_0 (by decide)).trans (by rw [va_up_self])) (Nat.le_of_ble_eq_true rfl) d_R_parseDecimal_209 ?_
                refine J_eqF (F2 := cF ad g (va_up F0 41 (.inr (5, [.ref (ad 7), .int (iI (p3 : Int)), .int (iI (0 - (n4 : Int)))]))) (va_up (va_up W 11 v3) 13 1) (va_up K 10 2) S) ((cF_up0 (by decide)).trans (congrArg (fun qq => cF ad g qq (va_up (va_up W 11 v3) 13 1) (va_up K 10 2) S) (up_in0))) ?_
                refine J_iconst d_R_parseDecimal_212 ?_
                refine J_iret rfl (nb01 (by omega)).1 d_R_parseDecimal_213 ⟨by decide, by decide⟩ ?_
                exact ⟨_, rfl, rfl, rfl, p3, 2, v3, 1, 0 - (n4 : Int), (by rcases (show _ ∨ _ from hpr) with w | w; omega; exact prX_c (w.2.trans (prR_y (by omega) (by rcases (show _ ∨ _ from hwt) with q | q <;> omega))) rfl), by omega, by omega, ⟨by omega, by omega⟩, hW3, rfl⟩
              · refine J_iload 0 d_R_parseDecimal_191 rfl ?_
                refine J_ifeq (tgt := 212) d_R_parseDecimal_193 (by decide) ⟨by omega, by omega⟩ (fun c193 => ?_) (fun c193 => ?_)
                · refine J_iconst d_R_parseDecimal_212 ?_
                  refine J_eqF (F2 := cF ad g (va_up F0 41 (.inr (5, [.ref (ad 7), .int (iI (p3 : Int)), .int (iI 0)]))) (va_up (va_up W 11 v3) 13 1) (va_up K 10 0) S) (congrArg (fun qq => cF ad g (va_up F0 41 (.inr (5, [.ref (ad 7), .int (iI (p3 : Int)), .int (iI 0)]))) (va_up (va_up W 11 v3) 13 1) qq S) (up_same1 (i := 10) (a := 0) (show (K) 10 = 0 from h10))) ?_
                  refine J_iret rfl (nb01 (by omega)).1 d_R_parseDecimal_213 ⟨by decide, by decide⟩ ?_
                  exact ⟨_, rfl, rfl, rfl, p3, 0, v3, 1, 0, (by rcases (show _ ∨ _ from hpr) with w | w; exact Or.inl ⟨⟨rfl, w.2.2.1⟩, w.2.2.2.2⟩; exact Or.inr ⟨fun q => w.1 ⟨by omega, by omega, q.2⟩, w.2.trans ((prR_y (by omega) (by rcases (show _ ∨ _ from hwt) with q | q <;> omega)).trans (if_neg (fun q => w.1 ⟨by omega, by omega, q⟩)))⟩), by omega, by omega, ⟨by omega, by omega⟩, hW3, rfl⟩
                · exact (by omega : False).elim
            · refine J_aload_n 1 d_R_parseDecimal_178 rfl rfl ?_
              obtain ⟨q6, hq6⟩ : ∃ q, psq ln (p3 + 1) = q := ⟨_, rfl⟩
              obtain ⟨⟨qe, te⟩, hten⟩ : ∃ x, ten3 ln 3 q6 0 = x := ⟨_, rfl⟩
              refine J_callVi cw_R_62 nh_R_parseTens pn_R_parseTens rfl rfl (by omega) ((cF_0 (by decide)).trans (by rw [va_up_self])) (As := []) (rest := []) rfl (Nat.le_of_ble_eq_true rfl) ⟨by decide, by decide⟩ rfl ⟨by decide, by decide⟩ d_R_parseDecimal_179 (c_R_parseTens hfl (F0 := va_up F0 41 (.inr (5, [.ref (ad 7), .int (iI (p3 : Int)), .int (iI 0)]))) (W := va_up (va_up W 11 v3) 13 1) (K := K) (S := S) (lh := lh) (ln := ln) (a0 := p3) (t0 := 0) (q6 := q6) (qe := qe) (te := te) hN hW3 (by rw [va_up_ne _ _ (by decide)]; exact hT7) (by rw [va_up_ne _ _ (by decide)]; exact hT8) htx hl40 hch (by rw [va_up_self]) (by omega) hq6 hten) (fun zt F8 hq => ?_)
              obtain ⟨hzt, eFt⟩ := hq
              refine J_eqF (F2 := cF ad g (va_up F0 41 (.inr (5, [.ref (ad 7), .int (iI (qe : Int)), .int (iI (if chr ln (p3 + 1) = 45 then -(te : Int) else (te : Int)))]))) (va_up (va_up W 11 v3) 13 1) K S) (eFt.trans (congrArg (fun qq => cF ad g qq (va_up (va_up W 11 v3) 13 1) K S) (up_in0))) ?_
              have hte := ten3_t (w := ln) 3 q6 0
              rw [hten] at hte
              simp only at hte
              have hq6b : q6 ≤ ln.length := by
                rw [← hq6]; unfold psq
                have h9 := tchr hch (p3 + 1)
                split <;> omega
              have hqe := ten3_b (w := ln) 3 q6 0 hq6b
              rw [hten] at hqe
              simp only at hqe
              obtain ⟨tz, htz⟩ : ∃ x : Int, x = (if chr ln (p3 + 1) = 45 then -(te : Int) else (te : Int)) := ⟨_, rfl⟩
              have htzb : -1000 ≤ tz ∧ tz ≤ 1000 := by rw [htz]; split <;> omega
              have hzt1 : (zt = 0 ∧ qe = q6) ∨ (zt = 1 ∧ qe ≠ q6) := by rw [hzt]; split <;> omega
              refine J_eqF (F2 := cF ad g (va_up F0 41 (.inr (5, [.ref (ad 7), .int (iI (qe : Int)), .int (iI tz)]))) (va_up (va_up W 11 v3) 13 1) K S) (congrArg (fun qq : Int => cF ad g (va_up F0 41 (.inr (5, [.ref (ad 7), .int (iI (qe : Int)), .int (iI qq)]))) (va_up (va_up W 11 v3) 13 1) K S) (show (if chr ln (p3 + 1) = 45 then -(te : Int) else (te : Int)) = tz from htz.symm)) ?_
              refine J_ifne (tgt := 187) d_R_parseDecimal_182 (by decide) ⟨by omega, by omega⟩ (fun c182 => ?_) (fun c182 => ?_)
              · refine J_iload_n 4 d_R_parseDecimal_187 rfl rfl ?_
                refine J_ifne (tgt := 196) d_R_parseDecimal_188 (by decide) ⟨by omega, by omega⟩ (fun c188 => ?_) (fun c188 => ?_)
                · refine J_aload_n 2 d_R_parseDecimal_196 rfl rfl ?_
                  refine J_iconst d_R_parseDecimal_197 ?_
                  refine pf_R_51 (by omega) (cF_U (by decide) h10 rfl) (Nat.le_of_ble_eq_true rfl) d_R_parseDecimal_198 ?_
                  refine J_eqF (F2 := cF ad g (va_up F0 41 (.inr (5, [.ref (ad 7), .int (iI (qe : Int)), .int (iI tz)]))) (va_up (va_up W 11 v3) 13 1) (va_up K 10 2) S) ((cF_upU (by decide)).trans (congrArg (fun qq => cF ad g (va_up F0 41 (.inr (5, [.ref (ad 7), .int (iI (qe : Int)), .int (iI tz)]))) (va_up (va_up W 11 v3) 13 1) (va_up K 10 2) qq) (up_same1 rfl).symm)) ?_
                  refine J_aload_n 1 d_R_parseDecimal_201 rfl rfl ?_
                  refine J_dup d_R_parseDecimal_202 rfl ?_
                  refine gf_R_19 (by omega) ((cF_0 (by decide)).trans (by rw [va_up_self])) rfl d_R_parseDecimal_203 ?_
                  refine J_iload 5 d_R_parseDecimal_206 rfl ?_
                  refine J_isub d_R_parseDecimal_208 ?_
                  refine pf_R_19 (by omega) ((cF_0 (by decide)).trans (by rw [va_up_self])) (Nat.le_of_ble_eq_true rfl) d_R_parseDecimal_209 ?_
                  refine J_eqF (F2 := cF ad g (va_up F0 41 (.inr (5, [.ref (ad 7), .int (iI (qe : Int)), .int (iI (tz - (n4 : Int)))]))) (va_up (va_up W 11 v3) 13 1) (va_up K 10 2) S) ((cF_up0 (by decide)).trans (congrArg (fun qq => cF ad g qq (va_up (va_up W 11 v3) 13 1) (va_up K 10 2) S) (up_in0))) ?_
                  refine J_iconst d_R_parseDecimal_212 ?_
                  refine J_iret rfl (nb01 (by omega)).1 d_R_parseDecimal_213 ⟨by decide, by decide⟩ ?_
                  exact ⟨_, rfl, rfl, rfl, qe, 2, v3, 1, tz - (n4 : Int), (by rcases (show _ ∨ _ from hpr) with w | w; (rcases (show _ ∨ _ from hwt) with q | q <;> omega); exact prX_c (w.2.trans ((prR_e (by omega) (by rcases (show _ ∨ _ from hwt) with q | q <;> omega)).trans ((prE_x hq6 hten).trans ((if_neg (by omega)).trans (by rw [htz]))))) rfl), by omega, by omega, ⟨by omega, by omega⟩, hW3, rfl⟩
                · refine J_iload 0 d_R_parseDecimal_191 rfl ?_
                  refine J_ifeq (tgt := 212) d_R_parseDecimal_193 (by decide) ⟨by omega, by omega⟩ (fun c193 => ?_) (fun c193 => ?_)
                  · exact (by omega : False).elim
                  · refine J_aload_n 2 d_R_parseDecimal_196 rfl rfl ?_
                    refine J_iconst d_R_parseDecimal_197 ?_
                    refine pf_R_51 (by omega) (cF_U (by decide) h10 rfl) (Nat.le_of_ble_eq_true rfl) d_R_parseDecimal_198 ?_
                    refine J_eqF (F2 := cF ad g (va_up F0 41 (.inr (5, [.ref (ad 7), .int (iI (qe : Int)), .int (iI tz)]))) (va_up (va_up W 11 v3) 13 1) (va_up K 10 2) S) ((cF_upU (by decide)).trans (congrArg (fun qq => cF ad g (va_up F0 41 (.inr (5, [.ref (ad 7), .int (iI (qe : Int)), .int (iI tz)]))) (va_up (va_up W 11 v3) 13 1) (va_up K 10 2) qq) (up_same1 rfl).symm)) ?_
                    refine J_aload_n 1 d_R_parseDecimal_201 rfl rfl ?_
                    refine J_dup d_R_parseDecimal_202 rfl ?_
                    refine gf_R_19 (by omega) ((cF_0 (by decide)).trans (by rw [va_up_self])) rfl d_R_parseDecimal_203 ?_
                    refine J_iload 5 d_R_parseDecimal_206 rfl ?_
                    refine J_isub d_R_parseDecimal_208 ?_
                    refine pf_R_19 (by omega) ((cF_0 (by decide)).trans (by rw [va_up_self])) (Nat.le_of_ble_eq_true rfl) d_R_parseDecimal_209 ?_
                    refine J_eqF (F2 := cF ad g (va_up F0 41 (.inr (5, [.ref (ad 7), .int (iI (qe : Int)), .int (iI (tz - (n4 : Int)))]))) (va_up (va_up W 11 v3) 13 1) (va_up K 10 2) S) ((cF_up0 (by decide)).trans (congrArg (fun qq => cF ad g qq (va_up (va_up W 11 v3) 13 1) (va_up K 10 2) S) (up_in0))) ?_
                    refine J_iconst d_R_parseDecimal_212 ?_
                    refine J_iret rfl (nb01 (by omega)).1 d_R_parseDecimal_213 ⟨by decide, by decide⟩ ?_
                    exact ⟨_, rfl, rfl, rfl, qe, 2, v3, 1, tz - (n4 : Int), (by rcases (show _ ∨ _ from hpr) with w | w; (rcases (show _ ∨ _ from hwt) with q | q <;> omega); exact prX_c (w.2.trans ((prR_e (by omega) (by rcases (show _ ∨ _ from hwt) with q | q <;> omega)).trans ((prE_x hq6 hten).trans ((if_neg (by omega)).trans (by rw [htz]))))) rfl), by omega, by omega, ⟨by omega, by omega⟩, hW3, rfl⟩
              · refine J_iconst d_R_parseDecimal_185 ?_
                refine J_eqF (F2 := cF ad g (va_up F0 41 (.inr (5, [.ref (ad 7), .int (iI (qe : Int)), .int (iI tz)]))) (va_up (va_up W 11 v3) 13 1) (va_up K 10 0) S) (congrArg (fun qq => cF ad g (va_up F0 41 (.inr (5, [.ref (ad 7), .int (iI (qe : Int)), .int (iI tz)]))) (va_up (va_up W 11 v3) 13 1) qq S) (up_same1 (i := 10) (a := 0) (show (K) 10 = 0 from h10))) ?_
                refine J_iret rfl (nb01 (by omega)).1 d_R_parseDecimal_186 ⟨by decide, by decide⟩ ?_
                exact ⟨_, rfl, rfl, rfl, qe, 0, v3, 1, tz, (by rcases (show _ ∨ _ from hpr) with w | w; omega; exact prX_n (w.2.trans ((prR_e (by omega) (by rcases (show _ ∨ _ from hwt) with q | q <;> omega)).trans ((prE_x hq6 hten).trans (if_pos (by omega))))) rfl), by omega, by omega, ⟨by omega, by omega⟩, hW3, rfl⟩
          refine J_aload_n 0 d_R_parseDecimal_134 rfl rfl ?_
          refine gf_R_9 (by omega) ((cF_0 (by decide)).trans (by rw [va_up_self])) rfl d_R_parseDecimal_135 ?_
          refine J_aload_n 0 d_R_parseDecimal_138 rfl rfl ?_
          refine gf_R_15 (by omega) ((cF_0 (by decide)).trans (by rw [va_up_self])) rfl d_R_parseDecimal_139 ?_
          refine J_callVi cw_R_28 nh_T_at pn_T_at rfl rfl (by omega) ((cF_0 (by decide)).trans (by rw [va_up_ne _ _ (by decide)]; exact hT7)) (As := [.int (iI (p3 : Int))]) (rest := []) rfl (Nat.le_of_ble_eq_true rfl) ⟨by decide, by decide⟩ rfl ⟨by decide, by decide⟩ d_R_parseDecimal_142 (c_T_at hfl (k := 7) (w := ln) (hh := lh) (n := (p3 : Int)) (by omega) ((cF_0 (by decide)).trans (by rw [va_up_ne _ _ (by decide)]; exact hT7)) ((cF_0 (by decide)).trans (by rw [va_up_ne _ _ (by decide)]; exact hT8)) htx (by omega) ⟨by omega, by omega⟩) (fun ta9 F4 hq => ?_)
          obtain ⟨hta9, eF4⟩ := hq
          refine J_eqF eF4 ?_
          refine J_topi (r := tat ln (p3 : Int)) (congrArg iI hta9) ?_
          refine J_bipush d_R_parseDecimal_145 (i8_ok (by decide)) ?_
          refine J_if_icmpeq (tgt := 166) d_R_parseDecimal_147 (by decide) ⟨by omega, by omega⟩ ⟨by omega, by omega⟩ (fun c147 => ?_) (fun c147 => ?_)
          · refine J_iconst d_R_parseDecimal_166 ?_
            refine J_goto (tgt := 171) d_R_parseDecimal_167 (by decide) ?_
            exact lab171 (1 : Int) (Or.inl ⟨rfl, by omega⟩) (by omega)
          · refine J_aload_n 0 d_R_parseDecimal_150 rfl rfl ?_
            refine gf_R_9 (by omega) ((cF_0 (by decide)).trans (by rw [va_up_self])) rfl d_R_parseDecimal_151 ?_
            refine J_aload_n 0 d_R_parseDecimal_154 rfl rfl ?_
            refine gf_R_15 (by omega) ((cF_0 (by decide)).trans (by rw [va_up_self])) rfl d_R_parseDecimal_155 ?_
            refine J_callVi cw_R_28 nh_T_at pn_T_at rfl rfl (by omega) ((cF_0 (by decide)).trans (by rw [va_up_ne _ _ (by decide)]; exact hT7)) (As := [.int (iI (p3 : Int))]) (rest := []) rfl (Nat.le_of_ble_eq_true rfl) ⟨by decide, by decide⟩ rfl ⟨by decide, by decide⟩ d_R_parseDecimal_158 (c_T_at hfl (k := 7) (w := ln) (hh := lh) (n := (p3 : Int)) (by omega) ((cF_0 (by decide)).trans (by rw [va_up_ne _ _ (by decide)]; exact hT7)) ((cF_0 (by decide)).trans (by rw [va_up_ne _ _ (by decide)]; exact hT8)) htx (by omega) ⟨by omega, by omega⟩) (fun ta10 F5 hq => ?_)
            obtain ⟨hta10, eF5⟩ := hq
            refine J_eqF eF5 ?_
            refine J_topi (r := tat ln (p3 : Int)) (congrArg iI hta10) ?_
            refine J_bipush d_R_parseDecimal_161 (i8_ok (by decide)) ?_
            refine J_if_icmpne (tgt := 170) d_R_parseDecimal_163 (by decide) ⟨by omega, by omega⟩ ⟨by omega, by omega⟩ (fun c163 => ?_) (fun c163 => ?_)
            · refine J_iconst d_R_parseDecimal_170 ?_
              exact lab171 (0 : Int) (Or.inr ⟨rfl, by omega⟩) (by omega)
            · refine J_iconst d_R_parseDecimal_166 ?_
              refine J_goto (tgt := 171) d_R_parseDecimal_167 (by decide) ?_
              exact lab171 (1 : Int) (Or.inl ⟨rfl, by omega⟩) (by omega)
        · refine J_iconst d_R_parseDecimal_132 ?_
          refine J_eqF (F2 := cF ad g (va_up F0 41 (.inr (5, [.ref (ad 7), .int (iI (p3 : Int)), .int (iI 0)]))) (va_up (va_up W 11 v3) 13 1) (va_up K 10 0) S) (congrArg (fun qq => cF ad g (va_up F0 41 (.inr (5, [.ref (ad 7), .int (iI (p3 : Int)), .int (iI 0)]))) (va_up (va_up W 11 v3) 13 1) qq S) (up_same1 (i := 10) (a := 0) (show (K) 10 = 0 from h10))) ?_
          refine J_iret rfl (nb01 (by omega)).1 d_R_parseDecimal_133 ⟨by decide, by decide⟩ ?_
          exact ⟨_, rfl, rfl, rfl, p3, 0, v3, 1, 0, (by rcases (show _ ∨ _ from hpr) with w | w; omega; exact prX_n (w.2.trans (prR_0 (by omega) (by omega))) rfl), by omega, by omega, ⟨by omega, by omega⟩, hW3, rfl⟩
    refine J_aload_n 1 d_R_parseDecimal_72 rfl rfl ?_
    refine gf_R_9 (by omega) ((cF_0 (by decide)).trans (by rw [va_up_self])) rfl d_R_parseDecimal_73 ?_
    refine J_aload_n 1 d_R_parseDecimal_76 rfl rfl ?_
    refine gf_R_15 (by omega) ((cF_0 (by decide)).trans (by rw [va_up_self])) rfl d_R_parseDecimal_77 ?_
    refine J_callVi cw_R_28 nh_T_at pn_T_at rfl rfl (by omega) ((cF_0 (by decide)).trans (by rw [va_up_ne _ _ (by decide)]; exact hT7)) (As := [.int (iI (pB : Int))]) (rest := []) rfl (Nat.le_of_ble_eq_true rfl) ⟨by decide, by decide⟩ rfl ⟨by decide, by decide⟩ d_R_parseDecimal_80 (c_T_at hfl (k := 7) (w := ln) (hh := lh) (n := (pB : Int)) (by omega) ((cF_0 (by decide)).trans (by rw [va_up_ne _ _ (by decide)]; exact hT7)) ((cF_0 (by decide)).trans (by rw [va_up_ne _ _ (by decide)]; exact hT8)) htx (by omega) ⟨by omega, by omega⟩) (fun ta11 F6 hq => ?_)
    obtain ⟨hta11, eF6⟩ := hq
    refine J_eqF eF6 ?_
    refine J_topi (r := tat ln (pB : Int)) (congrArg iI hta11) ?_
    refine J_bipush d_R_parseDecimal_83 (i8_ok (by decide)) ?_
    refine J_if_icmpne (tgt := 92) d_R_parseDecimal_85 (by decide) ⟨by omega, by omega⟩ ⟨by omega, by omega⟩ (fun c85 => ?_) (fun c85 => ?_)
    · refine J_iconst d_R_parseDecimal_92 ?_
      refine J_istore_n (lv' := [(3, .int (iI 0)), (2, .int (iI (nB : Int))), (0, .ref (ad 41)), (1, .ref (ad 10))]) d_R_parseDecimal_93 rfl (by decide) rfl ?_
      refine J_iconst d_R_parseDecimal_94 ?_
      refine J_istore (lv' := [(4, .int (iI 0)), (3, .int (iI 0)), (2, .int (iI (nB : Int))), (0, .ref (ad 41)), (1, .ref (ad 10))]) d_R_parseDecimal_95 (by decide) rfl ?_
      refine J_iload_n 1 d_R_parseDecimal_97 rfl rfl ?_
      refine J_ifeq (tgt := 123) d_R_parseDecimal_98 (by decide) ⟨by omega, by omega⟩ (fun c98 => ?_) (fun c98 => ?_)
      · refine J_pick (lv' := [(0, .ref (ad 41)), (1, .ref (ad 10)), (2, .int (iI (nB : Int))), (3, .int (iI 0)), (4, .int (iI 0))]) [3, 4, 2, 1, 0] rfl ?_
        have hW12 := (congrArg bW (up_same1 (i := 13) (a := 1) (show (va_up W 11 vB) 13 = 1 from ((va_up_ne _ _ (by decide)).trans h13)))).mp hW1
        refine J_eqF (F2 := cF ad g (va_up F0 41 (.inr (5, [.ref (ad 7), .int (iI (pB : Int)), .int (iI 0)]))) (va_up (va_up W 11 vB) 13 1) K S) (congrArg (fun qq => cF ad g (va_up F0 41 (.inr (5, [.ref (ad 7), .int (iI (pB : Int)), .int (iI 0)]))) qq K S) (up_same1 (i := 13) (a := 1) (show (va_up W 11 vB) 13 = 1 from ((va_up_ne _ _ (by decide)).trans h13)))) ?_
        refine lab123 pB 0 vB (0 : Int) ?_ (by omega) (by omega) hW12
        · show _ ∨ _
          by_cases e : 0 < nB ∧ pB = ln.length
          · exact Or.inl ⟨rfl, e.1, e.2, rfl, by rw [hmB]; exact prD_w e.1 e.2⟩
          · exact Or.inr ⟨fun w => e w.2, by rw [hmB, prD_p e (by omega), prP_n (by omega)]⟩
      · exact absurd c98 (by decide)
    · refine J_iconst d_R_parseDecimal_88 ?_
      refine J_goto (tgt := 93) d_R_parseDecimal_89 (by decide) ?_
      refine J_istore_n (lv' := [(3, .int (iI 1)), (2, .int (iI (nB : Int))), (0, .ref (ad 41)), (1, .ref (ad 10))]) d_R_parseDecimal_93 rfl (by decide) rfl ?_
      refine J_iconst d_R_parseDecimal_94 ?_
      refine J_istore (lv' := [(4, .int (iI 0)), (3, .int (iI 1)), (2, .int (iI (nB : Int))), (0, .ref (ad 41)), (1, .ref (ad 10))]) d_R_parseDecimal_95 (by decide) rfl ?_
      refine J_iload_n 1 d_R_parseDecimal_97 rfl rfl ?_
      refine J_ifeq (tgt := 123) d_R_parseDecimal_98 (by decide) ⟨by omega, by omega⟩ (fun c98 => ?_) (fun c98 => ?_)
      · exact absurd c98 (by decide)
      · refine J_aload_n 3 d_R_parseDecimal_101 rfl rfl ?_
        refine J_dup d_R_parseDecimal_102 rfl ?_
        refine gf_R_15 (by omega) ((cF_0 (by decide)).trans (by rw [va_up_self])) rfl d_R_parseDecimal_103 ?_
        refine J_iconst d_R_parseDecimal_106 ?_
        refine J_iadd d_R_parseDecimal_107 ?_
        refine pf_R_15 (by omega) ((cF_0 (by decide)).trans (by rw [va_up_self])) (Nat.le_of_ble_eq_true rfl) d_R_parseDecimal_108 ?_
        refine J_eqF (F2 := cF ad g (va_up F0 41 (.inr (5, [.ref (ad 7), .int (iI ((pB : Int) + 1)), .int (iI 0)]))) (va_up W 11 vB) K S) ((cF_up0 (by decide)).trans (congrArg (fun qq => cF ad g qq (va_up W 11 vB) K S) (up_in0))) ?_
        refine J_eqF (F2 := cF ad g (va_up F0 41 (.inr (5, [.ref (ad 7), .int (iI (((pB + 1) : Nat) : Int)), .int (iI 0)]))) (va_up W 11 vB) K S) (congrArg (fun qq : Int => cF ad g (va_up F0 41 (.inr (5, [.ref (ad 7), .int (iI qq), .int (iI 0)]))) (va_up W 11 vB) K S) (show (pB : Int) + 1 = (((pB + 1) : Nat) : Int) from (by omega))) ?_
        refine J_aload_n 3 d_R_parseDecimal_111 rfl rfl ?_
        refine J_bipush d_R_parseDecimal_112 (i8_ok (by decide)) ?_
        refine J_aload_n 4 d_R_parseDecimal_114 rfl rfl ?_
        refine gf_R_36 (by omega) (cF_U (by decide) h10 rfl) rfl d_R_parseDecimal_115 ?_
        obtain ⟨⟨pP, nP, vP⟩, hmP⟩ : ∃ x, mdg ln 10 41 (pB + 1) 0 vB = x := ⟨_, rfl⟩
        refine J_callVi cw_R_40 nh_R_parseDigits pn_R_parseDigits rfl rfl (by omega) ((cF_0 (by decide)).trans (by rw [va_up_self])) (As := [.int (iI 10), .ref (ad 11)]) (rest := []) rfl (Nat.le_of_ble_eq_true rfl) ⟨by decide, by decide⟩ rfl ⟨by decide, by decide⟩ d_R_parseDecimal_118 (c_R_parseDigits hfl (F0 := va_up F0 41 (.inr (5, [.ref (ad 7), .int (iI (((pB + 1) : Nat) : Int)), .int (iI 0)]))) (W := va_up W 11 vB) (K := K) (S := S) (lh := lh) (ln := ln) (a0 := (pB + 1)) (t0 := 0) (q := 11) (v0 := vB) (r := 10) (m0 := nB) (pe := pP) (ne := nP) (ve := vP) hN hW1 (by rw [va_up_ne _ _ (by decide)]; exact hT7) (by rw [va_up_ne _ _ (by decide)]; exact hT8) htx hl40 hch (by rw [va_up_self]) (by decide) ((va_up_self ..)) (by decide) (by omega) (by rw [Nat.zero_add] at hnvB; exact hnvB) (by omega) hmP) (fun zdP F15 hq => ?_)
        obtain ⟨hzP, hW13, eF14⟩ := hq
        have hW16 := (congrArg bW (up_in0)).mp hW13
        refine J_eqF (F2 := cF ad g (va_up F0 41 (.inr (5, [.ref (ad 7), .int (iI (pP : Int)), .int (iI 0)]))) (va_up W 11 vP) K S) ((eF14.trans (congrArg (fun qq => cF ad g (va_up (va_up F0 41 (.inr (5, [.ref (ad 7), .int (iI (((pB + 1) : Nat) : Int)), .int (iI 0)]))) 41 (.inr (5, [.ref (ad 7), .int (iI (pP : Int)), .int (iI 0)]))) qq K S) (up_in0))).trans (congrArg (fun qq : Nat → va_E => cF ad g qq (va_up W 11 vP) K S) (up_in0))) ?_
        refine J_topi (r := (nP : Int)) (congrArg iI hzP) ?_
        have hnpP := mdg_p (w := ln) (r := 10) 41 (pB + 1) 0 vB
        have hplP := mdg_le (w := ln) (r := 10) 41 (pB + 1) 0 vB (by omega)
        have hnvP := mdg_v (w := ln) (r := 10) (m := nB) (by decide) 41 (pB + 1) 0 vB (by rw [Nat.zero_add] at hnvB; exact hnvB)
        rw [hmP] at hnpP hplP hnvP
        simp only at hnpP hplP hnvP
        have hcpP := tchr hch pP
        refine J_istore (lv' := [(4, .int (iI (nP : Int))), (3, .int (iI 1)), (2, .int (iI (nB : Int))), (0, .ref (ad 41)), (1, .ref (ad 10))]) d_R_parseDecimal_121 (by decide) rfl ?_
        refine J_pick (lv' := [(0, .ref (ad 41)), (1, .ref (ad 10)), (2, .int (iI (nB : Int))), (3, .int (iI 1)), (4, .int (iI (nP : Int)))]) [3, 4, 2, 1, 0] rfl ?_
        have hW17 := (congrArg bW (up_same1 (i := 13) (a := 1) (show (va_up W 11 vP) 13 = 1 from ((va_up_ne _ _ (by decide)).trans h13)))).mp hW16
        refine J_eqF (F2 := cF ad g (va_up F0 41 (.inr (5, [.ref (ad 7), .int (iI (pP : Int)), .int (iI 0)]))) (va_up (va_up W 11 vP) 13 1) K S) (congrArg (fun qq => cF ad g (va_up F0 41 (.inr (5, [.ref (ad 7), .int (iI (pP : Int)), .int (iI 0)]))) qq K S) (up_same1 (i := 13) (a := 1) (show (va_up W 11 vP) 13 = 1 from ((va_up_ne _ _ (by decide)).trans h13)))) ?_
        refine lab123 pP nP vP (1 : Int) ?_ (by omega) (by omega) hW17
        · show _ ∨ _
          exact Or.inr ⟨by omega, by rw [hmB, prD_p (by omega) (by omega), prP_y (by omega), hmP]⟩
  · refine J_aload_n 1 d_R_parseDecimal_27 rfl rfl ?_
    refine J_dup d_R_parseDecimal_28 rfl ?_
    refine gf_R_15 (by omega) ((cF_0 (by decide)).trans (by rw [va_up_self])) rfl d_R_parseDecimal_29 ?_
    refine J_iconst d_R_parseDecimal_32 ?_
    refine J_iadd d_R_parseDecimal_33 ?_
    refine pf_R_15 (by omega) ((cF_0 (by decide)).trans (by rw [va_up_self])) (Nat.le_of_ble_eq_true rfl) d_R_parseDecimal_34 ?_
    refine J_eqF (F2 := cF ad g (va_up F0 41 (.inr (5, [.ref (ad 7), .int (iI ((pB : Int) + 1)), .int (iI 0)]))) (va_up W 11 vB) K S) ((cF_up0 (by decide)).trans (congrArg (fun qq => cF ad g qq (va_up W 11 vB) K S) (up_in0))) ?_
    refine J_eqF (F2 := cF ad g (va_up F0 41 (.inr (5, [.ref (ad 7), .int (iI (((pB + 1) : Nat) : Int)), .int (iI 0)]))) (va_up W 11 vB) K S) (congrArg (fun qq : Int => cF ad g (va_up F0 41 (.inr (5, [.ref (ad 7), .int (iI qq), .int (iI 0)]))) (va_up W 11 vB) K S) (show (pB : Int) + 1 = (((pB + 1) : Nat) : Int) from (by omega))) ?_
    refine J_aload_n 2 d_R_parseDecimal_37 rfl rfl ?_
    refine J_iconst d_R_parseDecimal_38 ?_
    refine pf_R_51 (by omega) (cF_U (by decide) h10 rfl) (Nat.le_of_ble_eq_true rfl) d_R_parseDecimal_39 ?_
    refine J_eqF (F2 := cF ad g (va_up F0 41 (.inr (5, [.ref (ad 7), .int (iI (((pB + 1) : Nat) : Int)), .int (iI 0)]))) (va_up W 11 vB) (va_up K 10 1) S) ((cF_upU (by decide)).trans (congrArg (fun qq => cF ad g (va_up F0 41 (.inr (5, [.ref (ad 7), .int (iI (((pB + 1) : Nat) : Int)), .int (iI 0)]))) (va_up W 11 vB) (va_up K 10 1) qq) (up_same1 rfl).symm)) ?_
    refine J_aload_n 2 d_R_parseDecimal_42 rfl rfl ?_
    refine gf_R_54 (by omega) (cF_U (by decide) (va_up_self ..) rfl) rfl d_R_parseDecimal_43 ?_
    refine J_callVv cw_R_57 nh_N_clear pn_N_clear rfl rfl (by omega) (cF_N (by decide) ((va_up_ne _ _ (by decide)).trans h13)) (As := []) (rest := []) rfl (Nat.le_of_ble_eq_true rfl) ⟨by decide, by decide⟩ rfl ⟨by decide, by decide⟩ d_R_parseDecimal_46 (n_clear hfl (F0 := va_up F0 41 (.inr (5, [.ref (ad 7), .int (iI (((pB + 1) : Nat) : Int)), .int (iI 0)]))) (W := va_up W 11 vB) (K := va_up K 10 1) (S := S) (k := 13) (hN := by omega) (hW := hW1) (hk := (by decide))) (fun  F21 hq => ?_)
    obtain ⟨hW19, eF20⟩ := hq
    refine J_eqF (F2 := cF ad g (va_up F0 41 (.inr (5, [.ref (ad 7), .int (iI (((pB + 1) : Nat) : Int)), .int (iI 0)]))) (va_up (va_up W 11 vB) 13 0) (va_up K 10 1) S) eF20 ?_
    refine J_iload_n 0 d_R_parseDecimal_49 rfl rfl ?_
    refine J_ifle (tgt := 70) d_R_parseDecimal_50 (by decide) ⟨by omega, by omega⟩ (fun c50 => ?_) (fun c50 => ?_)
    · refine J_iconst d_R_parseDecimal_70 ?_
      refine J_iret rfl (nb01 (by omega)).1 d_R_parseDecimal_71 ⟨by decide, by decide⟩ ?_
      exact ⟨_, rfl, rfl, rfl, (pB + 1), 1, vB, 0, 0, prX_n (by rw [hmB]; exact (prD_p (by omega) (by omega)).trans ((prP_n (by omega)).trans (prR_0 (by omega) rfl))) rfl, by omega, by omega, ⟨by omega, by omega⟩, hW19, rfl⟩
    · refine J_aload_n 1 d_R_parseDecimal_53 rfl rfl ?_
      refine J_bipush d_R_parseDecimal_54 (i8_ok (by decide)) ?_
      refine J_aload_n 2 d_R_parseDecimal_56 rfl rfl ?_
      refine gf_R_54 (by omega) (cF_U (by decide) (va_up_self ..) rfl) rfl d_R_parseDecimal_57 ?_
      obtain ⟨⟨pC, nC, vC⟩, hmC⟩ : ∃ x, mdg ln 10 41 (pB + 1) 0 0 = x := ⟨_, rfl⟩
      refine J_callVi cw_R_40 nh_R_parseDigits pn_R_parseDigits rfl rfl (by omega) ((cF_0 (by decide)).trans (by rw [va_up_self])) (As := [.int (iI 10), .ref (ad 13)]) (rest := []) rfl (Nat.le_of_ble_eq_true rfl) ⟨by decide, by decide⟩ rfl ⟨by decide, by decide⟩ d_R_parseDecimal_60 (c_R_parseDigits hfl (F0 := va_up F0 41 (.inr (5, [.ref (ad 7), .int (iI (((pB + 1) : Nat) : Int)), .int (iI 0)]))) (W := va_up (va_up W 11 vB) 13 0) (K := va_up K 10 1) (S := S) (lh := lh) (ln := ln) (a0 := (pB + 1)) (t0 := 0) (q := 13) (v0 := 0) (r := 10) (m0 := 0) (pe := pC) (ne := nC) (ve := vC) hN hW19 (by rw [va_up_ne _ _ (by decide)]; exact hT7) (by rw [va_up_ne _ _ (by decide)]; exact hT8) htx hl40 hch (by rw [va_up_self]) (by decide) ((va_up_self ..)) (by decide) (by omega) (by decide) (by omega) hmC) (fun zdC F24 hq => ?_)
      obtain ⟨hzC, hW22, eF23⟩ := hq
      have hW25 := (congrArg bW (up_in0)).mp hW22
      refine J_eqF (F2 := cF ad g (va_up F0 41 (.inr (5, [.ref (ad 7), .int (iI (pC : Int)), .int (iI 0)]))) (va_up (va_up W 11 vB) 13 vC) (va_up K 10 1) S) ((eF23.trans (congrArg (fun qq => cF ad g (va_up (va_up F0 41 (.inr (5, [.ref (ad 7), .int (iI (((pB + 1) : Nat) : Int)), .int (iI 0)]))) 41 (.inr (5, [.ref (ad 7), .int (iI (pC : Int)), .int (iI 0)]))) qq (va_up K 10 1) S) (up_in0))).trans (congrArg (fun qq : Nat → va_E => cF ad g qq (va_up (va_up W 11 vB) 13 vC) (va_up K 10 1) S) (up_in0))) ?_
      refine J_topi (r := (nC : Int)) (congrArg iI hzC) ?_
      have hnpC := mdg_p (w := ln) (r := 10) 41 (pB + 1) 0 0
      have hplC := mdg_le (w := ln) (r := 10) 41 (pB + 1) 0 0 (by omega)
      have hnvC := mdg_v (w := ln) (r := 10) (m := 0) (by decide) 41 (pB + 1) 0 0 (by decide)
      rw [hmC] at hnpC hplC hnvC
      simp only at hnpC hplC hnvC
      have hcpC := tchr hch pC
      refine J_ifle (tgt := 70) d_R_parseDecimal_63 (by decide) ⟨by omega, by omega⟩ (fun c63 => ?_) (fun c63 => ?_)
      · refine J_iconst d_R_parseDecimal_70 ?_
        refine J_iret rfl (nb01 (by omega)).1 d_R_parseDecimal_71 ⟨by decide, by decide⟩ ?_
        exact ⟨_, rfl, rfl, rfl, pC, 1, vB, vC, 0, prX_b (n := nC) (by rw [hmB, prD_q (by omega) (by omega) (by omega), hmC]; rfl) (by omega), by omega, by omega, ⟨by omega, by omega⟩, hW25, rfl⟩
      · refine J_iconst d_R_parseDecimal_66 ?_
        refine J_goto (tgt := 71) d_R_parseDecimal_67 (by decide) ?_
        refine J_iret rfl (nb01 (by omega)).1 d_R_parseDecimal_71 ⟨by decide, by decide⟩ ?_
        exact ⟨_, rfl, rfl, rfl, pC, 1, vB, vC, 0, prX_b (n := nC) (by rw [hmB, prD_q (by omega) (by omega) (by omega), hmC]; rfl) (by omega), by omega, by omega, ⟨by omega, by omega⟩, hW25, rfl⟩
