/-! the class writes: general, whole, the sheet -/

theorem c_T_dropZ {l : Launch} (hfl : l.flags = flags0) {D : va_G} {g : Nat → ClassId} {ad : Nat → Nat} {N : Nat} {F : Nat → va_E} {k : Nat} {w : List Nat} {hh : Nat → Int} {q n c : Nat} (hk : k + 1 < N) (hF : F k = oT ad k (w.length : Int)) (hA : F (k + 1) = aT g hh) (tt : tx hh w) (hl : w.length ≤ 200) (hw : w = sgr (dgv 10 q) 0 3 0 0 c) (hn : n ≤ c) :
    JC l y_T_dropZeros b_T_dropZeros 4 (Option.some Jvm.ClassFile.FieldType.int) rm_T_dropZeros (0, 0) D jCl (jTys g) ad N F [.ref (ad k), .int (iI (n : Int))] (ji ad N (fun z F' => z = (zr q n : Int) ∧ tx hh (sgr (dgv 10 q) 0 3 0 (zr q n) (c - zr q n)) ∧ F' = va_up F k (oT ad k ((sgr (dgv 10 q) 0 3 0 (zr q n) (c - zr q n)).length : Int)))) := by
  have hc : c ≤ 200 := by rw [hw, sgr_1] at hl; exact hl
  have hz := zr_le n q
  have e1 : tz n w = zr q n := by rw [hw]; exact tz_sgr n c q hn
  have e2 : w.take (w.length - zr q n) = sgr (dgv 10 q) 0 3 0 (zr q n) (c - zr q n) := by
    rw [hw, sgr_1, sgr_take (b := zr q n) (by omega), Nat.zero_add]
  refine JC.mono (c_T_dropZeros hfl (n := (n : Int)) hk hF hA tt hl ⟨by omega, by omega⟩) ?_
  rintro o ad' N' F' ⟨z, h1, h2, h3, h4, h5⟩
  refine ⟨z, h1, h2, h3, ?_, ?_, ?_⟩
  · rw [h4, show ((n : Int)).toNat = n from rfl, e1]
  · rw [← e2]; exact tx_take tt
  · rw [h5, show ((n : Int)).toNat = n from rfl, e1, e2]
theorem gen_e {u d p pa : Nat} {sh : Int} {lt : Nat} (h : ¬(-4 ≤ flE u d p ∧ flE u d p ≤ (p : Int) - 1)) : genT u d p pa sh lt = floT (flQ u d p) p sh (if sh = 0 then 1 else 0) (flE u d p) lt := if_neg h
theorem gen_f {u d p pa n q : Nat} {sh e : Int} {lt : Nat} (he : flE u d p = e) (h : -4 ≤ e ∧ e ≤ (p : Int) - 1) (hn : (n : Int) = (p : Int) - 1 - e) (hq : rdq u d (n : Int) = q) : genT u d p pa sh lt = fixA q n pa ++ (if sh ≠ 0 then dotT n sh ++ fixB q n else cutP q n) := by
  unfold genT
  rw [he, if_pos h, ← hn, hq]
  rfl
theorem fix_cut {q n : Nat} : dotT (n - zr q n) 0 ++ sgr (dgv 10 q) 0 3 0 (zr q n) (n - zr q n) = cutP q n := by
  have hz := zr_le n q
  unfold cutP
  by_cases c : zr q n = n
  · rw [if_pos c, show n - zr q n = 0 by omega]; rfl
  · rw [if_neg c, dotT_y (by omega)]; rfl
theorem zr_ndm {q n : Nat} : zr q n ≤ n ∧ n + 1 ≤ ndm 10 (n + 1) q := ⟨zr_le n q, ndm_ge⟩
theorem int_g {b ty pa u : Nat} {cap : Int} {size : Nat} (hb : bsT ty = b) (hc : cap = if ty = 88 then 1 else 0) (hs : size = if b = 10 then 3 else 4) : sgr (dgv b u) cap size pa 0 (ndm b 1 u) = intT ty pa u := by
  unfold intT
  rw [hb, ← hc, ← hs]

theorem lay_l {n c : Nat} {h b : List Nat} : [] ++ List.replicate 0 c ++ h ++ List.replicate 0 c ++ b ++ List.replicate (n - 0 - 0) c = if 60 = 60 then h ++ b ++ List.replicate n c else if 60 = 61 then h ++ List.replicate n c ++ b else if 60 = 94 then List.replicate (n / 2) c ++ (h ++ b) ++ List.replicate (n - n / 2) c else List.replicate n c ++ (h ++ b) := by
  rw [if_pos rfl]; simp only [List.replicate_zero, List.nil_append, List.append_nil, Nat.sub_zero]
theorem lay_e {n c : Nat} {h b : List Nat} : [] ++ List.replicate 0 c ++ h ++ List.replicate n c ++ b ++ List.replicate (n - 0 - n) c = if 61 = 60 then h ++ b ++ List.replicate n c else if 61 = 61 then h ++ List.replicate n c ++ b else if 61 = 94 then List.replicate (n / 2) c ++ (h ++ b) ++ List.replicate (n - n / 2) c else List.replicate n c ++ (h ++ b) := by
  rw [if_neg (by decide), if_pos rfl, show n - 0 - n = 0 by omega]; simp only [List.replicate_zero, List.nil_append, List.append_nil]
theorem lay_c {n c : Nat} {h b : List Nat} : [] ++ List.replicate (n / 2) c ++ h ++ List.replicate 0 c ++ b ++ List.replicate (n - n / 2 - 0) c = if 94 = 60 then h ++ b ++ List.replicate n c else if 94 = 61 then h ++ List.replicate n c ++ b else if 94 = 94 then List.replicate (n / 2) c ++ (h ++ b) ++ List.replicate (n - n / 2) c else List.replicate n c ++ (h ++ b) := by
  rw [if_neg (by decide), if_neg (by decide), if_pos rfl, Nat.sub_zero]; simp only [List.replicate_zero, List.nil_append, List.append_nil, List.append_assoc]
theorem lay_r {n c : Nat} {h b : List Nat} : [] ++ List.replicate n c ++ h ++ List.replicate 0 c ++ b ++ List.replicate (n - n - 0) c = if 62 = 60 then h ++ b ++ List.replicate n c else if 62 = 61 then h ++ List.replicate n c ++ b else if 62 = 94 then List.replicate (n / 2) c ++ (h ++ b) ++ List.replicate (n - n / 2) c else List.replicate n c ++ (h ++ b) := by
  rw [if_neg (by decide), if_neg (by decide), if_neg (by decide), show n - n - 0 = 0 by omega]; simp only [List.replicate_zero, List.nil_append, List.append_nil, List.append_assoc]
set_option maxRecDepth 100000 in
set_option maxHeartbeats 4000000 in
theorem c_P_putGeneral {l : Launch} (hfl : l.flags = flags0) {D : va_G} {g : Nat → ClassId} {ad : Nat → Nat} {N : Nat} {F0 : Nat → va_E} {W : Nat → Nat} {K S : Nat → Int} {ex : Int} {wB : List Nat} {hB : Nat → Int} {wD : List Nat} {hD : Nat → Int} {fi al sg ty pa : Nat} {x1 sh ze wi pr : Int} {p u d cnt : Nat} {e : Int}
    (hN : 109 ≤ N) (hW : bW W) (hPn : F0 43 = oP ad ex) (hTB : F0 48 = oT ad 48 (wB.length : Int)) (hAB : F0 49 = aT g hB) (ttB : tx hB wB) (hlB : wB.length ≤ 200) (hTD : F0 50 = oT ad 50 (wD.length : Int)) (hAD : F0 51 = aT g hD) (ttD : tx hD wD) (hlD : wD.length ≤ 200) (hSp : F0 42 = oS ad x1 (fi : Int) (al : Int) (sg : Int) sh ze wi (pa : Int) pr (ty : Int)) (hshb : sh = 0 ∨ sh = 1) (hpab : pa < 128) (htyb : ty < 128) (hp : isU p) (hp2 : 58 ≤ p) (hu : W (p + 1) = u) (hd : W (p + 3) = d) (hb : u < 2 ^ 154 ∧ d < 2 ^ 154) (hd0 : 0 < d) (hxy : u < 2 ^ 130 * d) (hcnt : 1 ≤ cnt ∧ cnt ≤ 20) (he : e = flE u d cnt) (hwd : wD = sgr (dgv 10 (flQ u d cnt)) 0 3 0 0 cnt) (hln : wB.length ≤ 20) :
    JC l y_P_putGeneral b_P_putGeneral 6 (Option.none : Option Jvm.ClassFile.FieldType) rm_P_putGeneral (0, 0) D jCl (jTys g) ad N (cF ad g F0 W K S) [.ref (ad 43), .ref (ad p), .int (iI (cnt : Int)), .int (iI e), .ref (ad 42)] (jv ad N (fun F' => ∃ (W' : Nat → Nat) (h1 h2 : Nat → Int) (w1 : List Nat), bW W' ∧ w1.length ≤ 200 ∧ tx h1 w1 ∧ tx h2 (wB ++ genT u d cnt pa sh (exlt ty)) ∧ (∀ j, j ≠ 52 → j ≠ 54 → j ≠ 56 → W' j = W j) ∧ F' = cF ad g (va_up (va_up (va_up (va_up F0 51 (aT g h1)) 50 (oT ad 50 (w1.length : Int))) 49 (aT g h2)) 48 (oT ad 48 ((wB ++ genT u d cnt pa sh (exlt ty)).length : Int))) W' K S)) := by
  have hp4 := (isU_1 hp).1
  have her : -100 < e ∧ e < 100 := by rw [he]; exact flE_r hd0 (Nat.lt_trans hb.1 (by decide)) (Nat.lt_trans hb.2 (by decide))
  have hdl : wD.length = cnt := by rw [hwd]; exact sgr_1 cnt
  refine JC.go hfl (own := "NumberTower$Pen") (lv := [(0, .ref (ad 43)), (1, .ref (ad p)), (2, .int (iI (cnt : Int))), (3, .int (iI e)), (4, .ref (ad 42))]) rfl (by decide +kernel) (Nat.le_of_ble_eq_true rfl) rfl (fun A => ?_)
  have lab11 : ∀  (hne : hold (¬(-4 ≤ e ∧ e ≤ (cnt : Int) - 1))) , J l rm_P_putGeneral (0, 0) "NumberTower$Pen" b_P_putGeneral 6 (Option.none : Option Jvm.ClassFile.FieldType) D jCl (jTys g) A (fun _ me => me.name = y_P_putGeneral.name) (jv ad N (fun F' => ∃ (W' : Nat → Nat) (h1 h2 : Nat → Int) (w1 : List Nat), bW W' ∧ w1.length ≤ 200 ∧ tx h1 w1 ∧ tx h2 (wB ++ genT u d cnt pa sh (exlt ty)) ∧ (∀ j, j ≠ 52 → j ≠ 54 → j ≠ 56 → W' j = W j) ∧ F' = cF ad g (va_up (va_up (va_up (va_up F0 51 (aT g h1)) 50 (oT ad 50 (w1.length : Int))) 49 (aT g h2)) 48 (oT ad 48 ((wB ++ genT u d cnt pa sh (exlt ty)).length : Int))) W' K S)) ad N 0 0 11 [(0, .ref (ad 43)), (1, .ref (ad p)), (2, .int (iI (cnt : Int))), (3, .int (iI e)), (4, .ref (ad 42))] [] (cF ad g F0 W K S) := by
    intro  hne
    refine J_aload_n 0 d_P_putGeneral_11 rfl rfl ?_
    have lab30 : ∀ (kz : Nat) (hkz : (sh ≠ 0 ∧ kz = 0) ∨ (sh = 0 ∧ kz = cnt - 1)) (hkzb : kz ≤ cnt - 1) , J l rm_P_putGeneral (0, 0) "NumberTower$Pen" b_P_putGeneral 6 (Option.none : Option Jvm.ClassFile.FieldType) D jCl (jTys g) A (fun _ me => me.name = y_P_putGeneral.name) (jv ad N (fun F' => ∃ (W' : Nat → Nat) (h1 h2 : Nat → Int) (w1 : List Nat), bW W' ∧ w1.length ≤ 200 ∧ tx h1 w1 ∧ tx h2 (wB ++ genT u d cnt pa sh (exlt ty)) ∧ (∀ j, j ≠ 52 → j ≠ 54 → j ≠ 56 → W' j = W j) ∧ F' = cF ad g (va_up (va_up (va_up (va_up F0 51 (aT g h1)) 50 (oT ad 50 (w1.length : Int))) 49 (aT g h2)) 48 (oT ad 48 ((wB ++ genT u d cnt pa sh (exlt ty)).length : Int))) W' K S)) ad N 0 0 30 [(0, .ref (ad 43)), (1, .ref (ad p)), (2, .int (iI (cnt : Int))), (3, .int (iI e)), (4, .ref (ad 42))] [.int (iI (kz : Int)), .ref (ad 50)] (cF ad g F0 W K S) := by
      intro kz hkz hkzb
      have hz9 := zr_le kz (flQ u d cnt)
      refine J_callVi cw_P_160 nh_T_dropZeros pn_T_dropZeros rfl rfl (by omega) ((cF_0 (by decide)).trans hTD) (As := [.int (iI (kz : Int))]) (rest := []) rfl (Nat.le_of_ble_eq_true rfl) ⟨by decide, by decide⟩ rfl ⟨by decide, by decide⟩ d_P_putGeneral_30 (c_T_dropZ hfl (k := 50) (w := wD) (hh := hD) (q := (flQ u d cnt)) (n := kz) (c := cnt) (by omega) ((cF_0 (by decide)).trans hTD) ((cF_0 (by decide)).trans hAD) ttD hlD hwd (by omega)) (fun z61 F1 hq => ?_)
      obtain ⟨hz61, htx62, eF1⟩ := hq
      refine J_eqF (F2 := cF ad g (va_up F0 50 (.inr (7, [.ref (ad 51), .int (iI (((sgr (dgv 10 (flQ u d cnt)) 0 3 0 (zr (flQ u d cnt) kz) (cnt - zr (flQ u d cnt) kz)).length : Nat) : Int))]))) W K S) (eF1.trans (cF_up0 (by decide))) ?_
      refine J_topi (r := (((zr (flQ u d cnt) kz : Nat)) : Int)) (congrArg iI hz61) ?_
      refine J_pop d_P_putGeneral_33 rfl ?_
      refine J_aload_n 0 d_P_putGeneral_34 rfl rfl ?_
      refine J_iload_n 3 d_P_putGeneral_35 rfl rfl ?_
      refine J_aload 4 d_P_putGeneral_36 rfl ?_
      refine J_callVv cw_P_203 nh_P_putScientific pn_P_putScientific rfl rfl (by omega) ((cF_0 (by decide)).trans (by rw [va_up_ne _ _ (by decide)]; exact hPn)) (As := [.int (iI e), .ref (ad 42)]) (rest := []) rfl (Nat.le_of_ble_eq_true rfl) ⟨by decide, by decide⟩ rfl ⟨by decide, by decide⟩ d_P_putGeneral_38 (c_P_putScientific hfl (F0 := va_up F0 50 (.inr (7, [.ref (ad 51), .int (iI (((sgr (dgv 10 (flQ u d cnt)) 0 3 0 (zr (flQ u d cnt) kz) (cnt - zr (flQ u d cnt) kz)).length : Nat) : Int))]))) (W := W) (K := K) (S := S) (ex := ex) (wB := wB) (hB := hB) (wD := (sgr (dgv 10 (flQ u d cnt)) 0 3 0 (zr (flQ u d cnt) kz) (cnt - zr (flQ u d cnt) kz))) (hD := hD) (fi := fi) (al := al) (sg := sg) (ty := ty) (pa := pa) (x1 := x1) (sh := sh) (ze := ze) (wi := wi) (pr := pr) (dv := (dgv 10 (flQ u d cnt))) (to := (zr (flQ u d cnt) kz)) (n := (cnt - zr (flQ u d cnt) kz)) (e := e) hN hW (by rw [va_up_ne _ _ (by decide)]; exact hPn) (by rw [va_up_ne _ _ (by decide)]; exact hTB) (by rw [va_up_ne _ _ (by decide)]; exact hAB) ttB hlB (by rw [va_up_self]) (by rw [va_up_ne _ _ (by decide)]; exact hAD) htx62 (by rw [sgr_1]; omega) (by rw [va_up_ne _ _ (by decide)]; exact hSp) hshb hpab htyb rfl (fun k => dgv_10 _ k) (by omega) ⟨by omega, by omega⟩ (by omega)) (fun  F66 hq => ?_)
      obtain ⟨hh63, htx64, eF65⟩ := hq
      refine J_eqF (F2 := cF ad g (va_up (va_up (va_up F0 50 (.inr (7, [.ref (ad 51), .int (iI (((sgr (dgv 10 (flQ u d cnt)) 0 3 0 (zr (flQ u d cnt) kz) (cnt - zr (flQ u d cnt) kz)).length : Nat) : Int))]))) 49 (.inl (g 1, 200, .inl (aI hh63)))) 48 (.inr (7, [.ref (ad 49), .int (iI (((wB ++ sciT (dgv 10 (flQ u d cnt)) (zr (flQ u d cnt) kz) (cnt - zr (flQ u d cnt) kz) sh e (exlt ty)).length : Nat) : Int))]))) W K S) eF65 ?_
      refine J_eqF (F2 := cF ad g (va_up (va_up (va_up (va_up F0 50 (.inr (7, [.ref (ad 51), .int (iI (((sgr (dgv 10 (flQ u d cnt)) 0 3 0 (zr (flQ u d cnt) kz) (cnt - zr (flQ u d cnt) kz)).length : Nat) : Int))]))) 49 (.inl (g 1, 200, .inl (aI hh63)))) 48 (.inr (7, [.ref (ad 49), .int (iI (((wB ++ sciT (dgv 10 (flQ u d cnt)) (zr (flQ u d cnt) kz) (cnt - zr (flQ u d cnt) kz) sh e (exlt ty)).length : Nat) : Int))]))) 51 (.inl (g 1, 200, .inl (aI hD)))) W K S) (congrArg (fun qq : Nat → va_E => cF ad g qq W K S) (up_same1 (i := 51) (a := ((.inl (g 1, 200, .inl (aI hD))) : va_E)) (by rw [va_up_ne _ _ (by decide), va_up_ne _ _ (by decide), va_up_ne _ _ (by decide)]; exact hAD))) ?_
      refine J_eqF (F2 := cF ad g (va_up (va_up (va_up (va_up F0 51 (.inl (g 1, 200, .inl (aI hD)))) 50 (.inr (7, [.ref (ad 51), .int (iI (((sgr (dgv 10 (flQ u d cnt)) 0 3 0 (zr (flQ u d cnt) kz) (cnt - zr (flQ u d cnt) kz)).length : Nat) : Int))]))) 49 (.inl (g 1, 200, .inl (aI hh63)))) 48 (.inr (7, [.ref (ad 49), .int (iI (((wB ++ sciT (dgv 10 (flQ u d cnt)) (zr (flQ u d cnt) kz) (cnt - zr (flQ u d cnt) kz) sh e (exlt ty)).length : Nat) : Int))]))) W K S) (congrArg (fun qq : Nat → va_E => cF ad g qq W K S) (Eq.trans (up_cm (by decide)) (Eq.trans (congrArg (fun qq : Nat → va_E => va_up qq 48 (.inr (7, [.ref (ad 49), .int (iI (((wB ++ sciT (dgv 10 (flQ u d cnt)) (zr (flQ u d cnt) kz) (cnt - zr (flQ u d cnt) kz) sh e (exlt ty)).length : Nat) : Int))]))) (up_cm (by decide))) (congrArg (fun qq : Nat → va_E => va_up (va_up qq 49 (.inl (g 1, 200, .inl (aI hh63)))) 48 (.inr (7, [.ref (ad 49), .int (iI (((wB ++ sciT (dgv 10 (flQ u d cnt)) (zr (flQ u d cnt) kz) (cnt - zr (flQ u d cnt) kz) sh e (exlt ty)).length : Nat) : Int))]))) (up_cm (by decide)))))) ?_
      have eT67 : (wB ++ sciT (dgv 10 (flQ u d cnt)) (zr (flQ u d cnt) kz) (cnt - zr (flQ u d cnt) kz) sh e (exlt ty)) = wB ++ genT u d cnt pa sh (exlt ty) := (by rw [gen_e (show ¬(-4 ≤ flE u d cnt ∧ flE u d cnt ≤ (cnt : Int) - 1) by rw [← he]; exact hne), ← he]; rcases hkz with ⟨w1, w2⟩ | ⟨w1, w2⟩; (rw [w2, zr_0, Nat.sub_zero, if_neg w1, sci_flo hcnt.1]); (rw [w2, w1, if_pos rfl, sci_cut hcnt.1]))
      have htx68 : tx hh63 (wB ++ genT u d cnt pa sh (exlt ty)) := eT67 ▸ htx64
      refine J_eqF (F2 := cF ad g (va_up (va_up (va_up (va_up F0 51 (.inl (g 1, 200, .inl (aI hD)))) 50 (.inr (7, [.ref (ad 51), .int (iI (((sgr (dgv 10 (flQ u d cnt)) 0 3 0 (zr (flQ u d cnt) kz) (cnt - zr (flQ u d cnt) kz)).length : Nat) : Int))]))) 49 (.inl (g 1, 200, .inl (aI hh63)))) 48 (.inr (7, [.ref (ad 49), .int (iI (((wB ++ genT u d cnt pa sh (exlt ty)).length : Nat) : Int))]))) W K S) (congrArg (fun qq : List Nat => cF ad g (va_up (va_up (va_up (va_up F0 51 (.inl (g 1, 200, .inl (aI hD)))) 50 (.inr (7, [.ref (ad 51), .int (iI (((sgr (dgv 10 (flQ u d cnt)) 0 3 0 (zr (flQ u d cnt) kz) (cnt - zr (flQ u d cnt) kz)).length : Nat) : Int))]))) 49 (.inl (g 1, 200, .inl (aI hh63)))) 48 (oT ad 48 ((qq.length : Nat) : Int))) W K S) eT67) ?_
      refine J_vret rfl d_P_putGeneral_41 ⟨by decide, by decide⟩ ?_
      exact ⟨rfl, rfl, rfl, _, _, _, _, hW, (by rw [sgr_1]; omega), htx62, htx68, fun j h1 h2 h3 => (show (W) j = W j from by rfl), rfl⟩
    refine gf_P_24 (by omega) ((cF_0 (by decide)).trans hPn) rfl d_P_putGeneral_12 ?_
    refine J_aload 4 d_P_putGeneral_15 rfl ?_
    refine gf_P_227 (by omega) ((cF_0 (by decide)).trans hSp) rfl d_P_putGeneral_17 ?_
    refine J_ifeq (tgt := 27) d_P_putGeneral_20 (by decide) ⟨by omega, by omega⟩ (fun c20 => ?_) (fun c20 => ?_)
    · refine J_iload_n 2 d_P_putGeneral_27 rfl rfl ?_
      refine J_iconst d_P_putGeneral_28 ?_
      refine J_isub d_P_putGeneral_29 ?_
      refine J_topi (r := (((cnt - 1 : Nat)) : Int)) (congrArg iI (by omega)) ?_
      exact lab30 (cnt - 1) (Or.inr ⟨by omega, rfl⟩) (by omega)
    · refine J_iconst d_P_putGeneral_23 ?_
      refine J_goto (tgt := 30) d_P_putGeneral_24 (by decide) ?_
      exact lab30 0 (Or.inl ⟨by omega, rfl⟩) (by omega)
  refine J_iload_n 3 d_P_putGeneral_0 rfl rfl ?_
  refine J_bipush d_P_putGeneral_1 (i8_ok (by decide)) ?_
  refine J_if_icmplt (tgt := 11) d_P_putGeneral_3 (by decide) ⟨by omega, by omega⟩ ⟨by omega, by omega⟩ (fun c3 => ?_) (fun c3 => ?_)
  · exact lab11  (show ¬(-4 ≤ e ∧ e ≤ (cnt : Int) - 1) by omega)
  · refine J_iload_n 3 d_P_putGeneral_6 rfl rfl ?_
    refine J_iload_n 2 d_P_putGeneral_7 rfl rfl ?_
    refine J_if_icmplt (tgt := 42) d_P_putGeneral_8 (by decide) ⟨by omega, by omega⟩ ⟨by omega, by omega⟩ (fun c8 => ?_) (fun c8 => ?_)
    · refine J_iload_n 2 d_P_putGeneral_42 rfl rfl ?_
      refine J_iconst d_P_putGeneral_43 ?_
      refine J_isub d_P_putGeneral_44 ?_
      refine J_iload_n 3 d_P_putGeneral_45 rfl rfl ?_
      refine J_isub d_P_putGeneral_46 ?_
      obtain ⟨n, hn⟩ : ∃ n : Nat, (n : Int) = (cnt : Int) - 1 - e := ⟨((cnt : Int) - 1 - e).toNat, by omega⟩
      refine J_topi (r := (n : Int)) (congrArg iI (by omega)) ?_
      refine J_istore (lv' := [(5, .int (iI (n : Int))), (0, .ref (ad 43)), (1, .ref (ad p)), (2, .int (iI (cnt : Int))), (3, .int (iI e)), (4, .ref (ad 42))]) d_P_putGeneral_47 (by decide) rfl ?_
      refine J_aload_n 1 d_P_putGeneral_49 rfl rfl ?_
      refine J_aload_n 2 d_P_putGeneral_50 rfl rfl ?_
      refine J_iload 0 d_P_putGeneral_51 rfl ?_
      refine J_callVv cw_P_191 nh_P_roundScaled pn_P_roundScaled rfl rfl (by omega) ((cF_0 (by decide)).trans hPn) (As := [.ref (ad p), .int (iI (n : Int))]) (rest := []) rfl (Nat.le_of_ble_eq_true rfl) ⟨by decide, by decide⟩ rfl ⟨by decide, by decide⟩ d_P_putGeneral_53 (c_P_roundScaled hfl (F0 := F0) (W := W) (K := K) (S := S) (ex := ex) (p := p) (u := u) (d := d) (n := (n : Int)) hN hW (hPn) hp (by omega) (hu) (hd) hb hd0 ⟨by omega, by omega⟩) (fun  F74 hq => ?_)
      obtain ⟨W69, hW70, hq71, hf72, eF73⟩ := hq
      refine J_eqF (F2 := cF ad g F0 W69 K S) eF73 ?_
      obtain ⟨q, hq⟩ : ∃ q, rdq u d (n : Int) = q := ⟨_, rfl⟩
      have hq40 := rdq_40 (p := n) hd0 hxy
      rw [hq] at hq40
      obtain ⟨hz1, hz2⟩ := zr_ndm (q := q) (n := n)
      have hT := gen_f (pa := pa) (sh := sh) (lt := exlt ty) he.symm (show -4 ≤ e ∧ e ≤ (cnt : Int) - 1 by omega) hn hq
      have hA : (fixA q n pa).length ≤ 80 := by
        have h8 := (okT_sgr (cap := 0) (grp := 3) (to := n) (dgv_16 q) hpab (ndm 10 (n + 1) q - n)).1
        unfold fixA
        omega
      refine J_aload_n 1 d_P_putGeneral_56 rfl rfl ?_
      refine J_bipush d_P_putGeneral_57 (i8_ok (by decide)) ?_
      refine J_bipush d_P_putGeneral_59 (i8_ok (by decide)) ?_
      refine J_iload 0 d_P_putGeneral_61 rfl ?_
      refine J_iconst d_P_putGeneral_63 ?_
      refine J_iadd d_P_putGeneral_64 ?_
      refine J_callVv cw_P_84 nh_P_setDigits pn_P_setDigits rfl rfl (by omega) ((cF_0 (by decide)).trans hPn) (As := [.int (iI 10), .int (iI 97), .int (iI ((n : Int) + 1))]) (rest := []) rfl (Nat.le_of_ble_eq_true rfl) ⟨by decide, by decide⟩ rfl ⟨by decide, by decide⟩ d_P_putGeneral_65 (c_P_setDigits hfl (F0 := F0) (W := W69) (K := K) (S := S) (ex := ex) (wD := wD) (hD := hD) (b := 10) (lst := n + 1) (v := q) (ten := 97) (cap := 0) hN hW70 (hPn) (hTD) (hAD) ttD hlD ((hq71.trans hq)) (by omega) (Or.inl ⟨rfl, rfl⟩) (by omega)) (fun  F79 hq => ?_)
      obtain ⟨hh75, htx76, hW77, eF78⟩ := hq
      refine J_eqF (F2 := cF ad g (va_up (va_up F0 51 (.inl (g 1, 200, .inl (aI hh75)))) 50 (.inr (7, [.ref (ad 51), .int (iI (((dgL 10 0 (n + 1) q).length : Nat) : Int))]))) (va_up W69 52 0) K S) eF78 ?_
      refine J_iload 0 d_P_putGeneral_68 rfl ?_
      refine J_aload_n 1 d_P_putGeneral_70 rfl rfl ?_
      have lab88 : ∀ (kz : Nat) (hkz : (sh ≠ 0 ∧ kz = 0) ∨ (sh = 0 ∧ kz = n)) (hkzb : kz ≤ n) , J l rm_P_putGeneral (0, 0) "NumberTower$Pen" b_P_putGeneral 6 (Option.none : Option Jvm.ClassFile.FieldType) D jCl (jTys g) A (fun _ me => me.name = y_P_putGeneral.name) (jv ad N (fun F' => ∃ (W' : Nat → Nat) (h1 h2 : Nat → Int) (w1 : List Nat), bW W' ∧ w1.length ≤ 200 ∧ tx h1 w1 ∧ tx h2 (wB ++ genT u d cnt pa sh (exlt ty)) ∧ (∀ j, j ≠ 52 → j ≠ 54 → j ≠ 56 → W' j = W j) ∧ F' = cF ad g (va_up (va_up (va_up (va_up F0 51 (aT g h1)) 50 (oT ad 50 (w1.length : Int))) 49 (aT g h2)) 48 (oT ad 48 ((wB ++ genT u d cnt pa sh (exlt ty)).length : Int))) W' K S)) ad N 0 0 88 [(0, .ref (ad 43)), (1, .ref (ad p)), (2, .int (iI (cnt : Int))), (3, .int (iI e)), (4, .ref (ad 42)), (5, .int (iI (n : Int)))] [.int (iI (kz : Int)), .ref (ad 50), .int (iI (n : Int))] (cF ad g (va_up (va_up F0 51 (.inl (g 1, 200, .inl (aI hh75)))) 50 (.inr (7, [.ref (ad 51), .int (iI (((dgL 10 0 (n + 1) q).length : Nat) : Int))]))) (va_up W69 52 0) K S) := by
        intro kz hkz hkzb
        have hz9 := zr_le kz q
        refine J_callVi cw_P_160 nh_T_dropZeros pn_T_dropZeros rfl rfl (by omega) ((cF_0 (by decide)).trans (by rw [va_up_self])) (As := [.int (iI (kz : Int))]) (rest := [.int (iI (n : Int))]) rfl (Nat.le_of_ble_eq_true rfl) ⟨by decide, by decide⟩ rfl ⟨by decide, by decide⟩ d_P_putGeneral_88 (c_T_dropZ hfl (k := 50) (w := (dgL 10 0 (n + 1) q)) (hh := hh75) (q := q) (n := kz) (c := (ndm 10 (n + 1) q)) (by omega) ((cF_0 (by decide)).trans (by rw [va_up_self])) ((cF_0 (by decide)).trans (by rw [va_up_ne _ _ (by decide), va_up_self])) htx76 (by rw [dgL_l]; omega) rfl (by omega)) (fun z80 F2 hq => ?_)
        obtain ⟨hz80, htx81, eF2⟩ := hq
        refine J_eqF (F2 := cF ad g (va_up (va_up F0 51 (.inl (g 1, 200, .inl (aI hh75)))) 50 (.inr (7, [.ref (ad 51), .int (iI (((sgr (dgv 10 q) 0 3 0 (zr q kz) ((ndm 10 (n + 1) q) - zr q kz)).length : Nat) : Int))]))) (va_up W69 52 0) K S) (eF2.trans ((cF_up0 (by decide)).trans (congrArg (fun qq => cF ad g qq (va_up W69 52 0) K S) (up_in0)))) ?_
        refine J_topi (r := (((zr q kz : Nat)) : Int)) (congrArg iI hz80) ?_
        refine J_isub d_P_putGeneral_91 ?_
        refine J_topi (r := ((n - zr q kz : Nat) : Int)) (congrArg iI (by omega)) ?_
        refine J_istore (lv' := [(5, .int (iI ((n - zr q kz : Nat) : Int))), (0, .ref (ad 43)), (1, .ref (ad p)), (2, .int (iI (cnt : Int))), (3, .int (iI e)), (4, .ref (ad 42))]) d_P_putGeneral_92 (by decide) rfl ?_
        refine J_aload_n 1 d_P_putGeneral_94 rfl rfl ?_
        refine J_iload 0 d_P_putGeneral_95 rfl ?_
        refine J_aload 5 d_P_putGeneral_97 rfl ?_
        refine J_callVv cw_P_195 nh_P_putFixed pn_P_putFixed rfl rfl (by omega) ((cF_0 (by decide)).trans (by rw [va_up_ne _ _ (by decide), va_up_ne _ _ (by decide)]; exact hPn)) (As := [.int (iI ((n - zr q kz : Nat) : Int)), .ref (ad 42)]) (rest := []) rfl (Nat.le_of_ble_eq_true rfl) ⟨by decide, by decide⟩ rfl ⟨by decide, by decide⟩ d_P_putGeneral_99 (c_P_putFixed hfl (F0 := va_up (va_up F0 51 (.inl (g 1, 200, .inl (aI hh75)))) 50 (.inr (7, [.ref (ad 51), .int (iI (((sgr (dgv 10 q) 0 3 0 (zr q kz) ((ndm 10 (n + 1) q) - zr q kz)).length : Nat) : Int))]))) (W := va_up W69 52 0) (K := K) (S := S) (ex := ex) (wB := wB) (hB := hB) (wD := (sgr (dgv 10 q) 0 3 0 (zr q kz) ((ndm 10 (n + 1) q) - zr q kz))) (hD := hh75) (fi := fi) (al := al) (sg := sg) (ty := ty) (pa := pa) (x1 := x1) (sh := sh) (ze := ze) (wi := wi) (pr := pr) (dv := (dgv 10 q)) (to := (zr q kz)) (c := (ndm 10 (n + 1) q - zr q kz)) (m := (n - zr q kz)) hN hW77 (by rw [va_up_ne _ _ (by decide), va_up_ne _ _ (by decide)]; exact hPn) (by rw [va_up_ne _ _ (by decide), va_up_ne _ _ (by decide)]; exact hTB) (by rw [va_up_ne _ _ (by decide), va_up_ne _ _ (by decide)]; exact hAB) ttB hlB (by rw [va_up_self]) (by rw [va_up_ne _ _ (by decide), va_up_self]) htx81 (by rw [sgr_1]; omega) (by rw [va_up_ne _ _ (by decide), va_up_ne _ _ (by decide)]; exact hSp) hshb hpab htyb rfl (fun k => dgv_16 _ k) (by omega) (by omega) (by omega)) (fun  F85 hq => ?_)
        obtain ⟨hh82, htx83, eF84⟩ := hq
        refine J_eqF (F2 := cF ad g (va_up (va_up (va_up (va_up F0 51 (.inl (g 1, 200, .inl (aI hh75)))) 50 (.inr (7, [.ref (ad 51), .int (iI (((sgr (dgv 10 q) 0 3 0 (zr q kz) ((ndm 10 (n + 1) q) - zr q kz)).length : Nat) : Int))]))) 49 (.inl (g 1, 200, .inl (aI hh82)))) 48 (.inr (7, [.ref (ad 49), .int (iI (((wB ++ (sgr (dgv 10 q) 0 3 pa ((zr q kz) + (n - zr q kz)) ((ndm 10 (n + 1) q - zr q kz) - (n - zr q kz)) ++ dotT (n - zr q kz) sh ++ sgr (dgv 10 q) 0 3 0 (zr q kz) (n - zr q kz))).length : Nat) : Int))]))) (va_up W69 52 0) K S) eF84 ?_
        have eT86 : (wB ++ (sgr (dgv 10 q) 0 3 pa ((zr q kz) + (n - zr q kz)) ((ndm 10 (n + 1) q - zr q kz) - (n - zr q kz)) ++ dotT (n - zr q kz) sh ++ sgr (dgv 10 q) 0 3 0 (zr q kz) (n - zr q kz))) = wB ++ genT u d cnt pa sh (exlt ty) := (by rw [hT]; unfold fixA; rw [show zr q kz + (n - zr q kz) = n by omega, show ndm 10 (n + 1) q - zr q kz - (n - zr q kz) = ndm 10 (n + 1) q - n by omega, List.append_assoc (sgr _ _ _ _ _ _)]; rcases hkz with ⟨w1, w2⟩ | ⟨w1, w2⟩; (rw [w2, zr_0, Nat.sub_zero, if_pos w1]; rfl); (rw [w2, w1, if_neg (fun h => h rfl), fix_cut]))
        have htx87 : tx hh82 (wB ++ genT u d cnt pa sh (exlt ty)) := eT86 ▸ htx83
        refine J_eqF (F2 := cF ad g (va_up (va_up (va_up (va_up F0 51 (.inl (g 1, 200, .inl (aI hh75)))) 50 (.inr (7, [.ref (ad 51), .int (iI (((sgr (dgv 10 q) 0 3 0 (zr q kz) ((ndm 10 (n + 1) q) - zr q kz)).length : Nat) : Int))]))) 49 (.inl (g 1, 200, .inl (aI hh82)))) 48 (.inr (7, [.ref (ad 49), .int (iI (((wB ++ genT u d cnt pa sh (exlt ty)).length : Nat) : Int))]))) (va_up W69 52 0) K S) (congrArg (fun qq : List Nat => cF ad g (va_up (va_up (va_up (va_up F0 51 (.inl (g 1, 200, .inl (aI hh75)))) 50 (.inr (7, [.ref (ad 51), .int (iI (((sgr (dgv 10 q) 0 3 0 (zr q kz) ((ndm 10 (n + 1) q) - zr q kz)).length : Nat) : Int))]))) 49 (.inl (g 1, 200, .inl (aI hh82)))) 48 (oT ad 48 ((qq.length : Nat) : Int))) (va_up W69 52 0) K S) eT86) ?_
        refine J_vret rfl d_P_putGeneral_102 ⟨by decide, by decide⟩ ?_
        exact ⟨rfl, rfl, rfl, _, _, _, _, hW77, (by rw [sgr_1]; omega), htx81, htx87, fun j h1 h2 h3 => ((show (va_up W69 52 0) j = W69 j from by rw [va_up_ne _ _ (by assumption)]).trans ((hf72 j (by assumption) (by assumption) (by assumption)).trans (show (W) j = W j from by rfl))), rfl⟩
      refine gf_P_24 (by omega) ((cF_0 (by decide)).trans (by rw [va_up_ne _ _ (by decide), va_up_ne _ _ (by decide)]; exact hPn)) rfl d_P_putGeneral_71 ?_
      refine J_aload 5 d_P_putGeneral_74 rfl ?_
      refine gf_P_227 (by omega) ((cF_0 (by decide)).trans (by rw [va_up_ne _ _ (by decide), va_up_ne _ _ (by decide)]; exact hSp)) rfl d_P_putGeneral_76 ?_
      refine J_ifeq (tgt := 86) d_P_putGeneral_79 (by decide) ⟨by omega, by omega⟩ (fun c79 => ?_) (fun c79 => ?_)
      · refine J_iload 0 d_P_putGeneral_86 rfl ?_
        refine J_pick (lv' := [(0, .ref (ad 43)), (1, .ref (ad p)), (2, .int (iI (cnt : Int))), (3, .int (iI e)), (4, .ref (ad 42)), (5, .int (iI (n : Int)))]) [1, 2, 3, 4, 5, 0] rfl ?_
        exact lab88 n (Or.inr ⟨by omega, rfl⟩) (by omega)
      · refine J_iconst d_P_putGeneral_82 ?_
        refine J_goto (tgt := 88) d_P_putGeneral_83 (by decide) ?_
        refine J_pick (lv' := [(0, .ref (ad 43)), (1, .ref (ad p)), (2, .int (iI (cnt : Int))), (3, .int (iI e)), (4, .ref (ad 42)), (5, .int (iI (n : Int)))]) [1, 2, 3, 4, 5, 0] rfl ?_
        exact lab88 0 (Or.inl ⟨by omega, rfl⟩) (by omega)
    · exact lab11  (show ¬(-4 ≤ e ∧ e ≤ (cnt : Int) - 1) by omega)
set_option maxRecDepth 100000 in
set_option maxHeartbeats 4000000 in
theorem c_P_putWhole {l : Launch} (hfl : l.flags = flags0) {D : va_G} {g : Nat → ClassId} {ad : Nat → Nat} {N : Nat} {F0 : Nat → va_E} {W : Nat → Nat} {K S : Nat → Int} {ex : Int} {wH : List Nat} {hH : Nat → Int} {wB : List Nat} {hB : Nat → Int} {wD : List Nat} {hD : Nat → Int} {fi al sg ty pa : Nat} {x1 sh ze wi pr : Int} {p u d : Nat}
    (hN : 109 ≤ N) (hW : bW W) (hPn : F0 43 = oP ad ex) (hTH : F0 46 = oT ad 46 (wH.length : Int)) (hAH : F0 47 = aT g hH) (ttH : tx hH wH) (hlH : wH.length ≤ 200) (hTB : F0 48 = oT ad 48 (wB.length : Int)) (hAB : F0 49 = aT g hB) (ttB : tx hB wB) (hlB : wB.length ≤ 200) (hTD : F0 50 = oT ad 50 (wD.length : Int)) (hAD : F0 51 = aT g hD) (ttD : tx hD wD) (hlD : wD.length ≤ 200) (hSp : F0 42 = oS ad x1 (fi : Int) (al : Int) (sg : Int) sh ze wi (pa : Int) pr (ty : Int)) (hshb : sh = 0 ∨ sh = 1) (hpab : pa < 128) (htyb : ty < 128) (hp : isU p) (hp2 : 58 ≤ p) (hu : W (p + 1) = u) (hd : W (p + 3) = d) (hb : u < 2 ^ 154 ∧ d < 2 ^ 154) (hd0 : 0 < d) (hu120 : u < 2 ^ 120) (hty4 : ty = 100 ∨ ty = 98 ∨ ty = 120 ∨ ty = 88) (hlH2 : wH.length ≤ 10) (hlB2 : wB.length ≤ 20) :
    JC l y_P_putWhole b_P_putWhole 4 (Option.none : Option Jvm.ClassFile.FieldType) rm_P_putWhole (0, 0) D jCl (jTys g) ad N (cF ad g F0 W K S) [.ref (ad 43), .ref (ad p), .ref (ad 42)] (jv ad N (fun F' => ∃ (h1 h2 h3 : Nat → Int) (w1 : List Nat), bW (va_up W 52 0) ∧ w1.length ≤ 200 ∧ tx h1 w1 ∧ tx h2 (wB ++ intT ty pa u) ∧ tx h3 (wH ++ (if sh ≠ 0 ∧ (ty = 98 ∨ ty = 120 ∨ ty = 88) then [48, ty] else [])) ∧ F' = cF ad g (va_up (va_up (va_up (va_up (va_up (va_up F0 51 (aT g h1)) 50 (oT ad 50 (w1.length : Int))) 49 (aT g h2)) 48 (oT ad 48 ((wB ++ intT ty pa u).length : Int))) 47 (aT g h3)) 46 (oT ad 46 ((wH ++ (if sh ≠ 0 ∧ (ty = 98 ∨ ty = 120 ∨ ty = 88) then [48, ty] else [])).length : Int))) (va_up W 52 0) K S)) := by
  have hp4 := (isU_1 hp).1
  refine JC.go hfl (own := "NumberTower$Pen") (lv := [(0, .ref (ad 43)), (1, .ref (ad p)), (2, .ref (ad 42))]) rfl (by decide +kernel) (Nat.le_of_ble_eq_true rfl) rfl (fun A => ?_)
  have lab29 : ∀ (bs : Nat) (hbs : bsT ty = bs) , J l rm_P_putWhole (0, 0) "NumberTower$Pen" b_P_putWhole 4 (Option.none : Option Jvm.ClassFile.FieldType) D jCl (jTys g) A (fun _ me => me.name = y_P_putWhole.name) (jv ad N (fun F' => ∃ (h1 h2 h3 : Nat → Int) (w1 : List Nat), bW (va_up W 52 0) ∧ w1.length ≤ 200 ∧ tx h1 w1 ∧ tx h2 (wB ++ intT ty pa u) ∧ tx h3 (wH ++ (if sh ≠ 0 ∧ (ty = 98 ∨ ty = 120 ∨ ty = 88) then [48, ty] else [])) ∧ F' = cF ad g (va_up (va_up (va_up (va_up (va_up (va_up F0 51 (aT g h1)) 50 (oT ad 50 (w1.length : Int))) 49 (aT g h2)) 48 (oT ad 48 ((wB ++ intT ty pa u).length : Int))) 47 (aT g h3)) 46 (oT ad 46 ((wH ++ (if sh ≠ 0 ∧ (ty = 98 ∨ ty = 120 ∨ ty = 88) then [48, ty] else [])).length : Int))) (va_up W 52 0) K S)) ad N 0 0 29 [(0, .ref (ad 43)), (1, .ref (ad p)), (2, .ref (ad 42))] [.int (iI (bs : Int))] (cF ad g F0 W K S) := by
    intro bs hbs
    have hbsb := bsT_b ty
    rw [hbs] at hbsb
    refine J_istore_n (lv' := [(3, .int (iI (bs : Int))), (0, .ref (ad 43)), (1, .ref (ad p)), (2, .ref (ad 42))]) d_P_putWhole_29 rfl (by decide) rfl ?_
    refine J_aload_n 1 d_P_putWhole_30 rfl rfl ?_
    refine gf_P_30 (by omega) ((cF_0 (by decide)).trans hPn) rfl d_P_putWhole_31 ?_
    refine J_aload_n 2 d_P_putWhole_34 rfl rfl ?_
    refine gf_P_67 (by omega) (cF_U hp rfl rfl) rfl d_P_putWhole_35 ?_
    refine J_callVv cw_P_81 nh_N_copyFrom pn_N_copyFrom rfl rfl (by omega) (cF_N (by decide) rfl) (As := [.ref (ad (p + 1))]) (rest := []) rfl (Nat.le_of_ble_eq_true rfl) ⟨by decide, by decide⟩ rfl ⟨by decide, by decide⟩ d_P_putWhole_38 (n_copyFrom hfl (F0 := F0) (W := W) (K := K) (S := S) (k := 52) (m := p + 1) (hN := by omega) (hW := hW) (hk := (by decide)) (hm := (isU_1 hp).2.1) (x := u) (hx := hu) (hd := (by omega))) (fun  F91 hq => ?_)
    obtain ⟨hW89, eF90⟩ := hq
    refine J_eqF (F2 := cF ad g F0 (va_up W 52 u) K S) eF90 ?_
    refine J_aload_n 1 d_P_putWhole_41 rfl rfl ?_
    refine J_iload_n 0 d_P_putWhole_42 rfl rfl ?_
    have lab59 : ∀ (ten : Int) (hten : ten = if ty = 88 then 65 else 97) , J l rm_P_putWhole (0, 0) "NumberTower$Pen" b_P_putWhole 4 (Option.none : Option Jvm.ClassFile.FieldType) D jCl (jTys g) A (fun _ me => me.name = y_P_putWhole.name) (jv ad N (fun F' => ∃ (h1 h2 h3 : Nat → Int) (w1 : List Nat), bW (va_up W 52 0) ∧ w1.length ≤ 200 ∧ tx h1 w1 ∧ tx h2 (wB ++ intT ty pa u) ∧ tx h3 (wH ++ (if sh ≠ 0 ∧ (ty = 98 ∨ ty = 120 ∨ ty = 88) then [48, ty] else [])) ∧ F' = cF ad g (va_up (va_up (va_up (va_up (va_up (va_up F0 51 (aT g h1)) 50 (oT ad 50 (w1.length : Int))) 49 (aT g h2)) 48 (oT ad 48 ((wB ++ intT ty pa u).length : Int))) 47 (aT g h3)) 46 (oT ad 46 ((wH ++ (if sh ≠ 0 ∧ (ty = 98 ∨ ty = 120 ∨ ty = 88) then [48, ty] else [])).length : Int))) (va_up W 52 0) K S)) ad N 0 0 59 [(0, .ref (ad 43)), (1, .ref (ad p)), (2, .ref (ad 42)), (3, .int (iI (bs : Int)))] [.int (iI ten), .int (iI (bs : Int)), .ref (ad 43)] (cF ad g F0 (va_up W 52 u) K S) := by
      intro ten hten
      refine J_iconst d_P_putWhole_59 ?_
      have hnd := ndm_120b hbsb.1 hu120
      obtain ⟨cp, hcp⟩ : ∃ c : Int, c = if ty = 88 then 1 else 0 := ⟨_, rfl⟩
      have hcten : (cp = 0 ∧ ten = 97) ∨ (cp = 1 ∧ ten = 65) := by rw [hcp, hten]; split; exact Or.inr ⟨rfl, rfl⟩; exact Or.inl ⟨rfl, rfl⟩
      have hinl := (okT_int (ty := ty) hpab hu120).1
      refine J_callVv cw_P_84 nh_P_setDigits pn_P_setDigits rfl rfl (by omega) ((cF_0 (by decide)).trans hPn) (As := [.int (iI (bs : Int)), .int (iI ten), .int (iI 1)]) (rest := []) rfl (Nat.le_of_ble_eq_true rfl) ⟨by decide, by decide⟩ rfl ⟨by decide, by decide⟩ d_P_putWhole_60 (c_P_setDigits hfl (F0 := F0) (W := va_up W 52 u) (K := K) (S := S) (ex := ex) (wD := wD) (hD := hD) (b := bs) (lst := 1) (v := u) (ten := ten) (cap := cp) hN hW89 (hPn) (hTD) (hAD) ttD hlD ((va_up_self ..)) (by omega) hcten (by omega)) (fun  F96 hq => ?_)
      obtain ⟨hh92, htx93, hW94, eF95⟩ := hq
      have hW97 := (congrArg bW (up_in0)).mp hW94
      refine J_eqF (F2 := cF ad g (va_up (va_up F0 51 (.inl (g 1, 200, .inl (aI hh92)))) 50 (.inr (7, [.ref (ad 51), .int (iI (((dgL bs cp 1 u).length : Nat) : Int))]))) (va_up W 52 0) K S) (eF95.trans (congrArg (fun qq => cF ad g (va_up (va_up F0 51 (.inl (g 1, 200, .inl (aI hh92)))) 50 (.inr (7, [.ref (ad 51), .int (iI (((dgL bs cp 1 u).length : Nat) : Int))]))) qq K S) (up_in0))) ?_
      refine J_aload_n 0 d_P_putWhole_63 rfl rfl ?_
      refine J_aload_n 0 d_P_putWhole_64 rfl rfl ?_
      refine gf_P_24 (by omega) ((cF_0 (by decide)).trans (by rw [va_up_ne _ _ (by decide), va_up_ne _ _ (by decide)]; exact hPn)) rfl d_P_putWhole_65 ?_
      refine gf_P_88 (by omega) ((cF_0 (by decide)).trans (by rw [va_up_self])) rfl d_P_putWhole_68 ?_
      have lab82 : ∀ (sz : Nat) (hsz : sz = if bs = 10 then 3 else 4) , J l rm_P_putWhole (0, 0) "NumberTower$Pen" b_P_putWhole 4 (Option.none : Option Jvm.ClassFile.FieldType) D jCl (jTys g) A (fun _ me => me.name = y_P_putWhole.name) (jv ad N (fun F' => ∃ (h1 h2 h3 : Nat → Int) (w1 : List Nat), bW (va_up W 52 0) ∧ w1.length ≤ 200 ∧ tx h1 w1 ∧ tx h2 (wB ++ intT ty pa u) ∧ tx h3 (wH ++ (if sh ≠ 0 ∧ (ty = 98 ∨ ty = 120 ∨ ty = 88) then [48, ty] else [])) ∧ F' = cF ad g (va_up (va_up (va_up (va_up (va_up (va_up F0 51 (aT g h1)) 50 (oT ad 50 (w1.length : Int))) 49 (aT g h2)) 48 (oT ad 48 ((wB ++ intT ty pa u).length : Int))) 47 (aT g h3)) 46 (oT ad 46 ((wH ++ (if sh ≠ 0 ∧ (ty = 98 ∨ ty = 120 ∨ ty = 88) then [48, ty] else [])).length : Int))) (va_up W 52 0) K S)) ad N 0 0 82 [(0, .ref (ad 43)), (1, .ref (ad p)), (2, .ref (ad 42)), (3, .int (iI (bs : Int)))] [.int (iI (sz : Int)), .int (iI (((ndm bs 1 u : Nat)) : Int)), .ref (ad 43)] (cF ad g (va_up (va_up F0 51 (.inl (g 1, 200, .inl (aI hh92)))) 50 (.inr (7, [.ref (ad 51), .int (iI (((dgL bs cp 1 u).length : Nat) : Int))]))) (va_up W 52 0) K S) := by
        intro sz hsz
        refine J_aload_n 2 d_P_putWhole_82 rfl rfl ?_
        refine gf_P_221 (by omega) ((cF_0 (by decide)).trans (by rw [va_up_ne _ _ (by decide), va_up_ne _ _ (by decide)]; exact hSp)) rfl d_P_putWhole_83 ?_
        have hig := int_g (ty := ty) (pa := pa) (u := u) (cap := cp) (size := sz) (b := bs) hbs hcp hsz
        refine J_callVv cw_P_224 nh_P_putGroups pn_P_putGroups rfl rfl (by omega) ((cF_0 (by decide)).trans (by rw [va_up_ne _ _ (by decide), va_up_ne _ _ (by decide)]; exact hPn)) (As := [.int (iI (((ndm bs 1 u : Nat)) : Int)), .int (iI (sz : Int)), .int (iI (pa : Int))]) (rest := []) rfl (Nat.le_of_ble_eq_true rfl) ⟨by decide, by decide⟩ rfl ⟨by decide, by decide⟩ d_P_putWhole_86 (c_P_putGroups hfl (F0 := va_up (va_up F0 51 (.inl (g 1, 200, .inl (aI hh92)))) 50 (.inr (7, [.ref (ad 51), .int (iI (((dgL bs cp 1 u).length : Nat) : Int))]))) (W := va_up W 52 0) (K := K) (S := S) (ex := ex) (wB := wB) (hB := hB) (wD := (dgL bs cp 1 u)) (hD := hh92) (dv := (dgv bs u)) (cap := cp) (to := 0) (n := (ndm bs 1 u)) (cnt := (ndm bs 1 u)) (size := sz) (pt := pa) hN hW97 (by rw [va_up_ne _ _ (by decide), va_up_ne _ _ (by decide)]; exact hPn) (by rw [va_up_ne _ _ (by decide), va_up_ne _ _ (by decide)]; exact hTB) (by rw [va_up_ne _ _ (by decide), va_up_ne _ _ (by decide)]; exact hAB) ttB hlB (by rw [va_up_self]) (by rw [va_up_ne _ _ (by decide), va_up_self]) htx93 (by rw [dgL_l]; omega) rfl (fun k => dgv_b ⟨by omega, by omega⟩) (by omega) (by rw [hsz]; split; exact Or.inl rfl; exact Or.inr rfl) (by omega) (by rw [Nat.zero_add, Nat.sub_self, hig]; omega) (by omega)) (fun  F101 hq => ?_)
        obtain ⟨hh98, htx99, eF100⟩ := hq
        refine J_eqF (F2 := cF ad g (va_up (va_up (va_up (va_up F0 51 (.inl (g 1, 200, .inl (aI hh92)))) 50 (.inr (7, [.ref (ad 51), .int (iI (((dgL bs cp 1 u).length : Nat) : Int))]))) 49 (.inl (g 1, 200, .inl (aI hh98)))) 48 (.inr (7, [.ref (ad 49), .int (iI (((wB ++ sgr (dgv bs u) cp sz pa (0 + (ndm bs 1 u) - (ndm bs 1 u)) (ndm bs 1 u)).length : Nat) : Int))]))) (va_up W 52 0) K S) eF100 ?_
        refine J_aload_n 2 d_P_putWhole_89 rfl rfl ?_
        refine gf_P_227 (by omega) ((cF_0 (by decide)).trans (by rw [va_up_ne _ _ (by decide), va_up_ne _ _ (by decide), va_up_ne _ _ (by decide), va_up_ne _ _ (by decide)]; exact hSp)) rfl d_P_putWhole_90 ?_
        refine J_ifeq (tgt := 122) d_P_putWhole_93 (by decide) ⟨by omega, by omega⟩ (fun c93 => ?_) (fun c93 => ?_)
        · refine J_eqF (F2 := cF ad g (va_up (va_up (va_up (va_up (va_up F0 51 (.inl (g 1, 200, .inl (aI hh92)))) 50 (.inr (7, [.ref (ad 51), .int (iI (((dgL bs cp 1 u).length : Nat) : Int))]))) 49 (.inl (g 1, 200, .inl (aI hh98)))) 48 (.inr (7, [.ref (ad 49), .int (iI (((wB ++ sgr (dgv bs u) cp sz pa (0 + (ndm bs 1 u) - (ndm bs 1 u)) (ndm bs 1 u)).length : Nat) : Int))]))) 47 (.inl (g 1, 200, .inl (aI hH)))) (va_up W 52 0) K S) (congrArg (fun qq : Nat → va_E => cF ad g qq (va_up W 52 0) K S) (up_same1 (i := 47) (a := ((.inl (g 1, 200, .inl (aI hH))) : va_E)) (by rw [va_up_ne _ _ (by decide), va_up_ne _ _ (by decide), va_up_ne _ _ (by decide), va_up_ne _ _ (by decide)]; exact hAH))) ?_
          refine J_eqF (F2 := cF ad g (va_up (va_up (va_up (va_up (va_up (va_up F0 51 (.inl (g 1, 200, .inl (aI hh92)))) 50 (.inr (7, [.ref (ad 51), .int (iI (((dgL bs cp 1 u).length : Nat) : Int))]))) 49 (.inl (g 1, 200, .inl (aI hh98)))) 48 (.inr (7, [.ref (ad 49), .int (iI (((wB ++ sgr (dgv bs u) cp sz pa (0 + (ndm bs 1 u) - (ndm bs 1 u)) (ndm bs 1 u)).length : Nat) : Int))]))) 47 (.inl (g 1, 200, .inl (aI hH)))) 46 (.inr (7, [.ref (ad 47), .int (iI ((wH.length : Nat) : Int))]))) (va_up W 52 0) K S) (congrArg (fun qq : Nat → va_E => cF ad g qq (va_up W 52 0) K S) (up_same1 (i := 46) (a := ((.inr (7, [.ref (ad 47), .int (iI ((wH.length : Nat) : Int))])) : va_E)) (by rw [va_up_ne _ _ (by decide), va_up_ne _ _ (by decide), va_up_ne _ _ (by decide), va_up_ne _ _ (by decide), va_up_ne _ _ (by decide)]; exact hTH))) ?_
          have eT102 : (wB ++ sgr (dgv bs u) cp sz pa (0 + (ndm bs 1 u) - (ndm bs 1 u)) (ndm bs 1 u)) = wB ++ intT ty pa u := (by rw [Nat.zero_add, Nat.sub_self, hig])
          have htx103 : tx hh98 (wB ++ intT ty pa u) := eT102 ▸ htx99
          refine J_eqF (F2 := cF ad g (va_up (va_up (va_up (va_up (va_up (va_up F0 51 (.inl (g 1, 200, .inl (aI hh92)))) 50 (.inr (7, [.ref (ad 51), .int (iI (((dgL bs cp 1 u).length : Nat) : Int))]))) 49 (.inl (g 1, 200, .inl (aI hh98)))) 48 (.inr (7, [.ref (ad 49), .int (iI (((wB ++ intT ty pa u).length : Nat) : Int))]))) 47 (.inl (g 1, 200, .inl (aI hH)))) 46 (.inr (7, [.ref (ad 47), .int (iI ((wH.length : Nat) : Int))]))) (va_up W 52 0) K S) (congrArg (fun qq : List Nat => cF ad g (va_up (va_up (va_up (va_up (va_up (va_up F0 51 (.inl (g 1, 200, .inl (aI hh92)))) 50 (.inr (7, [.ref (ad 51), .int (iI (((dgL bs cp 1 u).length : Nat) : Int))]))) 49 (.inl (g 1, 200, .inl (aI hh98)))) 48 (oT ad 48 ((qq.length : Nat) : Int))) 47 (.inl (g 1, 200, .inl (aI hH)))) 46 (.inr (7, [.ref (ad 47), .int (iI ((wH.length : Nat) : Int))]))) (va_up W 52 0) K S) eT102) ?_
          have eT104 : wH = wH ++ (if sh ≠ 0 ∧ (ty = 98 ∨ ty = 120 ∨ ty = 88) then [48, ty] else []) := (by rw [if_neg (fun q => q.1 (by omega))]; exact (List.append_nil _).symm)
          have htx105 : tx hH (wH ++ (if sh ≠ 0 ∧ (ty = 98 ∨ ty = 120 ∨ ty = 88) then [48, ty] else [])) := eT104 ▸ ttH
          refine J_eqF (F2 := cF ad g (va_up (va_up (va_up (va_up (va_up (va_up F0 51 (.inl (g 1, 200, .inl (aI hh92)))) 50 (.inr (7, [.ref (ad 51), .int (iI (((dgL bs cp 1 u).length : Nat) : Int))]))) 49 (.inl (g 1, 200, .inl (aI hh98)))) 48 (.inr (7, [.ref (ad 49), .int (iI (((wB ++ intT ty pa u).length : Nat) : Int))]))) 47 (.inl (g 1, 200, .inl (aI hH)))) 46 (.inr (7, [.ref (ad 47), .int (iI (((wH ++ (if sh ≠ 0 ∧ (ty = 98 ∨ ty = 120 ∨ ty = 88) then [48, ty] else [])).length : Nat) : Int))]))) (va_up W 52 0) K S) (congrArg (fun qq : List Nat => cF ad g (va_up (va_up (va_up (va_up (va_up (va_up F0 51 (.inl (g 1, 200, .inl (aI hh92)))) 50 (.inr (7, [.ref (ad 51), .int (iI (((dgL bs cp 1 u).length : Nat) : Int))]))) 49 (.inl (g 1, 200, .inl (aI hh98)))) 48 (.inr (7, [.ref (ad 49), .int (iI (((wB ++ intT ty pa u).length : Nat) : Int))]))) 47 (.inl (g 1, 200, .inl (aI hH)))) 46 (oT ad 46 ((qq.length : Nat) : Int))) (va_up W 52 0) K S) eT104) ?_
          refine J_vret rfl d_P_putWhole_122 ⟨by decide, by decide⟩ ?_
          exact ⟨rfl, rfl, rfl, _, _, _, _, hW97, (by rw [dgL_l]; omega), htx93, htx103, htx105, rfl⟩
        · refine J_iload_n 3 d_P_putWhole_96 rfl rfl ?_
          refine J_bipush d_P_putWhole_97 (i8_ok (by decide)) ?_
          refine J_if_icmpeq (tgt := 122) d_P_putWhole_99 (by decide) ⟨by omega, by omega⟩ ⟨by omega, by omega⟩ (fun c99 => ?_) (fun c99 => ?_)
          · refine J_eqF (F2 := cF ad g (va_up (va_up (va_up (va_up (va_up F0 51 (.inl (g 1, 200, .inl (aI hh92)))) 50 (.inr (7, [.ref (ad 51), .int (iI (((dgL bs cp 1 u).length : Nat) : Int))]))) 49 (.inl (g 1, 200, .inl (aI hh98)))) 48 (.inr (7, [.ref (ad 49), .int (iI (((wB ++ sgr (dgv bs u) cp sz pa (0 + (ndm bs 1 u) - (ndm bs 1 u)) (ndm bs 1 u)).length : Nat) : Int))]))) 47 (.inl (g 1, 200, .inl (aI hH)))) (va_up W 52 0) K S) (congrArg (fun qq : Nat → va_E => cF ad g qq (va_up W 52 0) K S) (up_same1 (i := 47) (a := ((.inl (g 1, 200, .inl (aI hH))) : va_E)) (by rw [va_up_ne _ _ (by decide), va_up_ne _ _ (by decide), va_up_ne _ _ (by decide), va_up_ne _ _ (by decide)]; exact hAH))) ?_
            refine J_eqF (F2 := cF ad g (va_up (va_up (va_up (va_up (va_up (va_up F0 51 (.inl (g 1, 200, .inl (aI hh92)))) 50 (.inr (7, [.ref (ad 51), .int (iI (((dgL bs cp 1 u).length : Nat) : Int))]))) 49 (.inl (g 1, 200, .inl (aI hh98)))) 48 (.inr (7, [.ref (ad 49), .int (iI (((wB ++ sgr (dgv bs u) cp sz pa (0 + (ndm bs 1 u) - (ndm bs 1 u)) (ndm bs 1 u)).length : Nat) : Int))]))) 47 (.inl (g 1, 200, .inl (aI hH)))) 46 (.inr (7, [.ref (ad 47), .int (iI ((wH.length : Nat) : Int))]))) (va_up W 52 0) K S) (congrArg (fun qq : Nat → va_E => cF ad g qq (va_up W 52 0) K S) (up_same1 (i := 46) (a := ((.inr (7, [.ref (ad 47), .int (iI ((wH.length : Nat) : Int))])) : va_E)) (by rw [va_up_ne _ _ (by decide), va_up_ne _ _ (by decide), va_up_ne _ _ (by decide), va_up_ne _ _ (by decide), va_up_ne _ _ (by decide)]; exact hTH))) ?_
            have eT106 : (wB ++ sgr (dgv bs u) cp sz pa (0 + (ndm bs 1 u) - (ndm bs 1 u)) (ndm bs 1 u)) = wB ++ intT ty pa u := (by rw [Nat.zero_add, Nat.sub_self, hig])
            have htx107 : tx hh98 (wB ++ intT ty pa u) := eT106 ▸ htx99
            refine J_eqF (F2 := cF ad g (va_up (va_up (va_up (va_up (va_up (va_up F0 51 (.inl (g 1, 200, .inl (aI hh92)))) 50 (.inr (7, [.ref (ad 51), .int (iI (((dgL bs cp 1 u).length : Nat) : Int))]))) 49 (.inl (g 1, 200, .inl (aI hh98)))) 48 (.inr (7, [.ref (ad 49), .int (iI (((wB ++ intT ty pa u).length : Nat) : Int))]))) 47 (.inl (g 1, 200, .inl (aI hH)))) 46 (.inr (7, [.ref (ad 47), .int (iI ((wH.length : Nat) : Int))]))) (va_up W 52 0) K S) (congrArg (fun qq : List Nat => cF ad g (va_up (va_up (va_up (va_up (va_up (va_up F0 51 (.inl (g 1, 200, .inl (aI hh92)))) 50 (.inr (7, [.ref (ad 51), .int (iI (((dgL bs cp 1 u).length : Nat) : Int))]))) 49 (.inl (g 1, 200, .inl (aI hh98)))) 48 (oT ad 48 ((qq.length : Nat) : Int))) 47 (.inl (g 1, 200, .inl (aI hH)))) 46 (.inr (7, [.ref (ad 47), .int (iI ((wH.length : Nat) : Int))]))) (va_up W 52 0) K S) eT106) ?_
            have eT108 : wH = wH ++ (if sh ≠ 0 ∧ (ty = 98 ∨ ty = 120 ∨ ty = 88) then [48, ty] else []) := (by rw [if_neg (fun q => by have q2 := q.2; unfold bsT at hbs; rw [if_neg (by omega)] at hbs; split at hbs <;> omega)]; exact (List.append_nil _).symm)
            have htx109 : tx hH (wH ++ (if sh ≠ 0 ∧ (ty = 98 ∨ ty = 120 ∨ ty = 88) then [48, ty] else [])) := eT108 ▸ ttH
            refine J_eqF (F2 := cF ad g (va_up (va_up (va_up (va_up (va_up (va_up F0 51 (.inl (g 1, 200, .inl (aI hh92)))) 50 (.inr (7, [.ref (ad 51), .int (iI (((dgL bs cp 1 u).length : Nat) : Int))]))) 49 (.inl (g 1, 200, .inl (aI hh98)))) 48 (.inr (7, [.ref (ad 49), .int (iI (((wB ++ intT ty pa u).length : Nat) : Int))]))) 47 (.inl (g 1, 200, .inl (aI hH)))) 46 (.inr (7, [.ref (ad 47), .int (iI (((wH ++ (if sh ≠ 0 ∧ (ty = 98 ∨ ty = 120 ∨ ty = 88) then [48, ty] else [])).length : Nat) : Int))]))) (va_up W 52 0) K S) (congrArg (fun qq : List Nat => cF ad g (va_up (va_up (va_up (va_up (va_up (va_up F0 51 (.inl (g 1, 200, .inl (aI hh92)))) 50 (.inr (7, [.ref (ad 51), .int (iI (((dgL bs cp 1 u).length : Nat) : Int))]))) 49 (.inl (g 1, 200, .inl (aI hh98)))) 48 (.inr (7, [.ref (ad 49), .int (iI (((wB ++ intT ty pa u).length : Nat) : Int))]))) 47 (.inl (g 1, 200, .inl (aI hH)))) 46 (oT ad 46 ((qq.length : Nat) : Int))) (va_up W 52 0) K S) eT108) ?_
            refine J_vret rfl d_P_putWhole_122 ⟨by decide, by decide⟩ ?_
            exact ⟨rfl, rfl, rfl, _, _, _, _, hW97, (by rw [dgL_l]; omega), htx93, htx107, htx109, rfl⟩
          · refine J_aload_n 0 d_P_putWhole_102 rfl rfl ?_
            refine gf_P_18 (by omega) ((cF_0 (by decide)).trans (by rw [va_up_ne _ _ (by decide), va_up_ne _ _ (by decide), va_up_ne _ _ (by decide), va_up_ne _ _ (by decide)]; exact hPn)) rfl d_P_putWhole_103 ?_
            refine J_bipush d_P_putWhole_106 (i8_ok (by decide)) ?_
            refine J_callVv cw_P_49 nh_T_put pn_T_put rfl rfl (by omega) ((cF_0 (by decide)).trans (by rw [va_up_ne _ _ (by decide), va_up_ne _ _ (by decide), va_up_ne _ _ (by decide), va_up_ne _ _ (by decide)]; exact hTH)) (As := [.int (iI 48)]) (rest := []) rfl (Nat.le_of_ble_eq_true rfl) ⟨by decide, by decide⟩ rfl ⟨by decide, by decide⟩ d_P_putWhole_108 (c_T_putN hfl (k := 46) (w := wH) (hh := hH) (c := (48 : Nat)) (by omega) ((cF_0 (by decide)).trans (by rw [va_up_ne _ _ (by decide), va_up_ne _ _ (by decide), va_up_ne _ _ (by decide), va_up_ne _ _ (by decide)]; exact hTH)) ((cF_0 (by decide)).trans (by rw [va_up_ne _ _ (by decide), va_up_ne _ _ (by decide), va_up_ne _ _ (by decide), va_up_ne _ _ (by decide)]; exact hAH)) ttH (by omega) (by omega)) (fun  F1 hq => ?_)
            obtain ⟨hh110, htx111, eF1⟩ := hq
            refine J_eqF (F2 := cF ad g (va_up (va_up (va_up (va_up (va_up (va_up F0 51 (.inl (g 1, 200, .inl (aI hh92)))) 50 (.inr (7, [.ref (ad 51), .int (iI (((dgL bs cp 1 u).length : Nat) : Int))]))) 49 (.inl (g 1, 200, .inl (aI hh98)))) 48 (.inr (7, [.ref (ad 49), .int (iI (((wB ++ sgr (dgv bs u) cp sz pa (0 + (ndm bs 1 u) - (ndm bs 1 u)) (ndm bs 1 u)).length : Nat) : Int))]))) 47 (.inl (g 1, 200, .inl (aI hh110)))) 46 (.inr (7, [.ref (ad 47), .int (iI (((wH ++ [(48 : Nat)]).length : Nat) : Int))]))) (va_up W 52 0) K S) (eF1.trans (Eq.trans (congrArg (fun qF : Nat → va_E => va_up qF 46 (.inr (7, [.ref (ad 47), .int (iI (((wH ++ [(48 : Nat)]).length : Nat) : Int))]))) (cF_up0 (by decide))) (cF_up0 (by decide)))) ?_
            refine J_aload_n 0 d_P_putWhole_111 rfl rfl ?_
            refine gf_P_18 (by omega) ((cF_0 (by decide)).trans (by rw [va_up_ne _ _ (by decide), va_up_ne _ _ (by decide), va_up_ne _ _ (by decide), va_up_ne _ _ (by decide), va_up_ne _ _ (by decide), va_up_ne _ _ (by decide)]; exact hPn)) rfl d_P_putWhole_112 ?_
            refine J_aload_n 2 d_P_putWhole_115 rfl rfl ?_
            refine gf_P_188 (by omega) ((cF_0 (by decide)).trans (by rw [va_up_ne _ _ (by decide), va_up_ne _ _ (by decide), va_up_ne _ _ (by decide), va_up_ne _ _ (by decide), va_up_ne _ _ (by decide), va_up_ne _ _ (by decide)]; exact hSp)) rfl d_P_putWhole_116 ?_
            refine J_callVv cw_P_49 nh_T_put pn_T_put rfl rfl (by omega) ((cF_0 (by decide)).trans (by rw [va_up_self])) (As := [.int (iI (ty : Int))]) (rest := []) rfl (Nat.le_of_ble_eq_true rfl) ⟨by decide, by decide⟩ rfl ⟨by decide, by decide⟩ d_P_putWhole_119 (c_T_putN hfl (k := 46) (w := (wH ++ [(48 : Nat)])) (hh := hh110) (c := ty) (by omega) ((cF_0 (by decide)).trans (by rw [va_up_self])) ((cF_0 (by decide)).trans (by rw [va_up_ne _ _ (by decide), va_up_self])) htx111 (by simp only [List.length_append, List.length_cons, List.length_nil, List.length_replicate]; omega) (by omega)) (fun  F2 hq => ?_)
            obtain ⟨hh112, htx113, eF2⟩ := hq
            refine J_eqF (F2 := cF ad g (va_up (va_up (va_up (va_up (va_up (va_up F0 51 (.inl (g 1, 200, .inl (aI hh92)))) 50 (.inr (7, [.ref (ad 51), .int (iI (((dgL bs cp 1 u).length : Nat) : Int))]))) 49 (.inl (g 1, 200, .inl (aI hh98)))) 48 (.inr (7, [.ref (ad 49), .int (iI (((wB ++ sgr (dgv bs u) cp sz pa (0 + (ndm bs 1 u) - (ndm bs 1 u)) (ndm bs 1 u)).length : Nat) : Int))]))) 47 (.inl (g 1, 200, .inl (aI hh112)))) 46 (.inr (7, [.ref (ad 47), .int (iI ((((wH ++ [(48 : Nat)]) ++ [ty]).length : Nat) : Int))]))) (va_up W 52 0) K S) (eF2.trans (Eq.trans (congrArg (fun qF : Nat → va_E => va_up qF 46 (.inr (7, [.ref (ad 47), .int (iI ((((wH ++ [(48 : Nat)]) ++ [ty]).length : Nat) : Int))]))) ((cF_up0 (by decide)).trans (congrArg (fun qq => cF ad g qq (va_up W 52 0) K S) (up_in1 (by decide))))) ((cF_up0 (by decide)).trans (congrArg (fun qq => cF ad g qq (va_up W 52 0) K S) (up_in0))))) ?_
            have eT114 : (wB ++ sgr (dgv bs u) cp sz pa (0 + (ndm bs 1 u) - (ndm bs 1 u)) (ndm bs 1 u)) = wB ++ intT ty pa u := (by rw [Nat.zero_add, Nat.sub_self, hig])
            have htx115 : tx hh98 (wB ++ intT ty pa u) := eT114 ▸ htx99
            refine J_eqF (F2 := cF ad g (va_up (va_up (va_up (va_up (va_up (va_up F0 51 (.inl (g 1, 200, .inl (aI hh92)))) 50 (.inr (7, [.ref (ad 51), .int (iI (((dgL bs cp 1 u).length : Nat) : Int))]))) 49 (.inl (g 1, 200, .inl (aI hh98)))) 48 (.inr (7, [.ref (ad 49), .int (iI (((wB ++ intT ty pa u).length : Nat) : Int))]))) 47 (.inl (g 1, 200, .inl (aI hh112)))) 46 (.inr (7, [.ref (ad 47), .int (iI ((((wH ++ [(48 : Nat)]) ++ [ty]).length : Nat) : Int))]))) (va_up W 52 0) K S) (congrArg (fun qq : List Nat => cF ad g (va_up (va_up (va_up (va_up (va_up (va_up F0 51 (.inl (g 1, 200, .inl (aI hh92)))) 50 (.inr (7, [.ref (ad 51), .int (iI (((dgL bs cp 1 u).length : Nat) : Int))]))) 49 (.inl (g 1, 200, .inl (aI hh98)))) 48 (oT ad 48 ((qq.length : Nat) : Int))) 47 (.inl (g 1, 200, .inl (aI hh112)))) 46 (.inr (7, [.ref (ad 47), .int (iI ((((wH ++ [(48 : Nat)]) ++ [ty]).length : Nat) : Int))]))) (va_up W 52 0) K S) eT114) ?_
            have eT116 : ((wH ++ [(48 : Nat)]) ++ [ty]) = wH ++ (if sh ≠ 0 ∧ (ty = 98 ∨ ty = 120 ∨ ty = 88) then [48, ty] else []) := (by rw [if_pos ⟨by omega, by have h9 : ty ≠ 100 := (fun q => by rw [q] at hbs; have h8 : bsT 100 = 10 := rfl; omega); omega⟩]; simp only [List.append_assoc]; rfl)
            have htx117 : tx hh112 (wH ++ (if sh ≠ 0 ∧ (ty = 98 ∨ ty = 120 ∨ ty = 88) then [48, ty] else [])) := eT116 ▸ htx113
            refine J_eqF (F2 := cF ad g (va_up (va_up (va_up (va_up (va_up (va_up F0 51 (.inl (g 1, 200, .inl (aI hh92)))) 50 (.inr (7, [.ref (ad 51), .int (iI (((dgL bs cp 1 u).length : Nat) : Int))]))) 49 (.inl (g 1, 200, .inl (aI hh98)))) 48 (.inr (7, [.ref (ad 49), .int (iI (((wB ++ intT ty pa u).length : Nat) : Int))]))) 47 (.inl (g 1, 200, .inl (aI hh112)))) 46 (.inr (7, [.ref (ad 47), .int (iI (((wH ++ (if sh ≠ 0 ∧ (ty = 98 ∨ ty = 120 ∨ ty = 88) then [48, ty] else [])).length : Nat) : Int))]))) (va_up W 52 0) K S) (congrArg (fun qq : List Nat => cF ad g (va_up (va_up (va_up (va_up (va_up (va_up F0 51 (.inl (g 1, 200, .inl (aI hh92)))) 50 (.inr (7, [.ref (ad 51), .int (iI (((dgL bs cp 1 u).length : Nat) : Int))]))) 49 (.inl (g 1, 200, .inl (aI hh98)))) 48 (.inr (7, [.ref (ad 49), .int (iI (((wB ++ intT ty pa u).length : Nat) : Int))]))) 47 (.inl (g 1, 200, .inl (aI hh112)))) 46 (oT ad 46 ((qq.length : Nat) : Int))) (va_up W 52 0) K S) eT116) ?_
            refine J_vret rfl d_P_putWhole_122 ⟨by decide, by decide⟩ ?_
            exact ⟨rfl, rfl, rfl, _, _, _, _, hW97, (by rw [dgL_l]; omega), htx93, htx115, htx117, rfl⟩
      refine J_topi (r := (((ndm bs 1 u : Nat)) : Int)) (congrArg iI (by rw [dgL_l])) ?_
      refine J_iload_n 3 d_P_putWhole_71 rfl rfl ?_
      refine J_bipush d_P_putWhole_72 (i8_ok (by decide)) ?_
      refine J_if_icmpne (tgt := 81) d_P_putWhole_74 (by decide) ⟨by omega, by omega⟩ ⟨by omega, by omega⟩ (fun c74 => ?_) (fun c74 => ?_)
      · refine J_iconst d_P_putWhole_81 ?_
        exact lab82 4 (by rw [if_neg (by omega)])
      · refine J_iconst d_P_putWhole_77 ?_
        refine J_goto (tgt := 82) d_P_putWhole_78 (by decide) ?_
        exact lab82 3 (by rw [if_pos (by omega)])
    refine J_aload_n 3 d_P_putWhole_43 rfl rfl ?_
    refine gf_P_188 (by omega) ((cF_0 (by decide)).trans hSp) rfl d_P_putWhole_44 ?_
    refine J_bipush d_P_putWhole_47 (i8_ok (by decide)) ?_
    refine J_if_icmpne (tgt := 57) d_P_putWhole_49 (by decide) ⟨by omega, by omega⟩ ⟨by omega, by omega⟩ (fun c49 => ?_) (fun c49 => ?_)
    · refine J_bipush d_P_putWhole_57 (i8_ok (by decide)) ?_
      refine J_pick (lv' := [(0, .ref (ad 43)), (1, .ref (ad p)), (2, .ref (ad 42)), (3, .int (iI (bs : Int)))]) [1, 2, 3, 0] rfl ?_
      exact lab59 (97 : Int) (by rw [if_neg (by omega)])
    · refine J_bipush d_P_putWhole_52 (i8_ok (by decide)) ?_
      refine J_goto (tgt := 59) d_P_putWhole_54 (by decide) ?_
      refine J_pick (lv' := [(0, .ref (ad 43)), (1, .ref (ad p)), (2, .ref (ad 42)), (3, .int (iI (bs : Int)))]) [1, 2, 3, 0] rfl ?_
      exact lab59 (65 : Int) (by rw [if_pos (by omega)])
  refine J_aload_n 2 d_P_putWhole_0 rfl rfl ?_
  refine gf_P_188 (by omega) ((cF_0 (by decide)).trans hSp) rfl d_P_putWhole_1 ?_
  refine J_bipush d_P_putWhole_4 (i8_ok (by decide)) ?_
  refine J_if_icmpne (tgt := 14) d_P_putWhole_6 (by decide) ⟨by omega, by omega⟩ ⟨by omega, by omega⟩ (fun c6 => ?_) (fun c6 => ?_)
  · refine J_aload_n 2 d_P_putWhole_14 rfl rfl ?_
    refine gf_P_188 (by omega) ((cF_0 (by decide)).trans hSp) rfl d_P_putWhole_15 ?_
    refine J_bipush d_P_putWhole_18 (i8_ok (by decide)) ?_
    refine J_if_icmpne (tgt := 27) d_P_putWhole_20 (by decide) ⟨by omega, by omega⟩ ⟨by omega, by omega⟩ (fun c20 => ?_) (fun c20 => ?_)
    · refine J_bipush d_P_putWhole_27 (i8_ok (by decide)) ?_
      exact lab29 16 (by unfold bsT; rw [if_neg (by omega), if_neg (by omega)])
    · refine J_iconst d_P_putWhole_23 ?_
      refine J_goto (tgt := 29) d_P_putWhole_24 (by decide) ?_
      exact lab29 2 (by unfold bsT; rw [if_neg (by omega), if_pos (by omega)])
  · refine J_bipush d_P_putWhole_9 (i8_ok (by decide)) ?_
    refine J_goto (tgt := 29) d_P_putWhole_11 (by decide) ?_
    exact lab29 10 (by unfold bsT; rw [if_pos (by omega)])
set_option maxRecDepth 100000 in
set_option maxHeartbeats 4000000 in
theorem c_P_laySheet {l : Launch} (hfl : l.flags = flags0) {D : va_G} {g : Nat → ClassId} {ad : Nat → Nat} {N : Nat} {F0 : Nat → va_E} {W : Nat → Nat} {K S : Nat → Int} {ex : Int} {wS : List Nat} {hS : Nat → Int} {wH : List Nat} {hH : Nat → Int} {wB : List Nat} {hB : Nat → Int} {fi al sg ty pa : Nat} {x1 sh ze wi pr : Int}
    (hN : 109 ≤ N) (hW : bW W) (hPn : F0 43 = oP ad ex) (hTS : F0 44 = oT ad 44 (wS.length : Int)) (hAS : F0 45 = aT g hS) (ttS : tx hS wS) (hlS : wS.length ≤ 200) (hTH : F0 46 = oT ad 46 (wH.length : Int)) (hAH : F0 47 = aT g hH) (ttH : tx hH wH) (hlH : wH.length ≤ 200) (hTB : F0 48 = oT ad 48 (wB.length : Int)) (hAB : F0 49 = aT g hB) (ttB : tx hB wB) (hlB : wB.length ≤ 200) (hSp : F0 42 = oS ad x1 (fi : Int) (al : Int) (sg : Int) sh ze wi (pa : Int) pr (ty : Int)) (hshb : sh = 0 ∨ sh = 1) (hpab : pa < 128) (htyb : ty < 128) (hal : al = 0 ∨ al = 60 ∨ al = 61 ∨ al = 62 ∨ al = 94) (hfi : fi < 128) (hzb : ze = 0 ∨ ze = 1) (hwi : 0 ≤ wi ∧ wi ≤ 40) (hlHB : wH.length + wB.length ≤ 180) :
    JC l y_P_laySheet b_P_laySheet 7 (Option.none : Option Jvm.ClassFile.FieldType) rm_P_laySheet (0, 0) D jCl (jTys g) ad N (cF ad g F0 W K S) [.ref (ad 43), .ref (ad 42)] (jv ad N (fun F' => ∃ h0 : Nat → Int, tx h0 (padT (padW al ze) (wi - ((wH.length + wB.length : Nat) : Int)).toNat (padC fi ze) wH wB) ∧ F' = cF ad g (va_up (va_up F0 45 (aT g h0)) 44 (oT ad 44 ((padT (padW al ze) (wi - ((wH.length + wB.length : Nat) : Int)).toNat (padC fi ze) wH wB).length : Int))) W K S)) := by
  refine JC.go hfl (own := "NumberTower$Pen") (lv := [(0, .ref (ad 43)), (1, .ref (ad 42))]) rfl (by decide +kernel) (Nat.le_of_ble_eq_true rfl) rfl (fun A => ?_)
  refine J_iconst d_P_laySheet_0 ?_
  refine J_aload_n 1 d_P_laySheet_1 rfl rfl ?_
  refine gf_P_233 (by omega) ((cF_0 (by decide)).trans hSp) rfl d_P_laySheet_2 ?_
  refine J_aload_n 0 d_P_laySheet_5 rfl rfl ?_
  refine gf_P_18 (by omega) ((cF_0 (by decide)).trans hPn) rfl d_P_laySheet_6 ?_
  refine gf_P_88 (by omega) ((cF_0 (by decide)).trans hTH) rfl d_P_laySheet_9 ?_
  refine J_isub d_P_laySheet_12 ?_
  refine J_aload_n 0 d_P_laySheet_13 rfl rfl ?_
  refine gf_P_21 (by omega) ((cF_0 (by decide)).trans hPn) rfl d_P_laySheet_14 ?_
  refine gf_P_88 (by omega) ((cF_0 (by decide)).trans hTB) rfl d_P_laySheet_17 ?_
  refine J_isub d_P_laySheet_20 ?_
  refine J_callSi cw_P_206 nh_JMath_max pn_JMath_max rfl (As := [.int (iI 0), .int (iI ((wi - ((wH.length : Nat) : Int)) - ((wB.length : Nat) : Int)))]) (rest := []) rfl (Nat.le_of_ble_eq_true rfl) ⟨by decide, by decide⟩ rfl ⟨by decide, by decide⟩ d_P_laySheet_21 (c_JMath_max hfl ⟨by omega, by omega⟩ ⟨by omega, by omega⟩) (fun mx F1 hq => ?_)
  obtain ⟨hmx, eF1⟩ := hq
  refine J_eqF eF1 ?_
  obtain ⟨n, hn⟩ : ∃ n : Nat, n = (wi - ((wH.length + wB.length : Nat) : Int)).toNat := ⟨_, rfl⟩
  refine J_topi (r := (n : Int)) (congrArg iI (by omega)) ?_
  refine J_istore_n (lv' := [(2, .int (iI (n : Int))), (0, .ref (ad 43)), (1, .ref (ad 42))]) d_P_laySheet_24 rfl (by decide) rfl ?_
  have lab53 : ∀ (way : Nat) (hway : way = padW al ze) (hw4 : way = 60 ∨ way = 61 ∨ way = 62 ∨ way = 94) , J l rm_P_laySheet (0, 0) "NumberTower$Pen" b_P_laySheet 7 (Option.none : Option Jvm.ClassFile.FieldType) D jCl (jTys g) A (fun _ me => me.name = y_P_laySheet.name) (jv ad N (fun F' => ∃ h0 : Nat → Int, tx h0 (padT (padW al ze) (wi - ((wH.length + wB.length : Nat) : Int)).toNat (padC fi ze) wH wB) ∧ F' = cF ad g (va_up (va_up F0 45 (aT g h0)) 44 (oT ad 44 ((padT (padW al ze) (wi - ((wH.length + wB.length : Nat) : Int)).toNat (padC fi ze) wH wB).length : Int))) W K S)) ad N 0 0 53 [(0, .ref (ad 43)), (1, .ref (ad 42)), (2, .int (iI (n : Int)))] [.int (iI (way : Int))] (cF ad g F0 W K S) := by
    intro way hway hw4
    refine J_istore_n (lv' := [(3, .int (iI (way : Int))), (0, .ref (ad 43)), (1, .ref (ad 42)), (2, .int (iI (n : Int)))]) d_P_laySheet_53 rfl (by decide) rfl ?_
    have lab82 : ∀ (c : Nat) (hc : c = padC fi ze) (hcb : c < 128) , J l rm_P_laySheet (0, 0) "NumberTower$Pen" b_P_laySheet 7 (Option.none : Option Jvm.ClassFile.FieldType) D jCl (jTys g) A (fun _ me => me.name = y_P_laySheet.name) (jv ad N (fun F' => ∃ h0 : Nat → Int, tx h0 (padT (padW al ze) (wi - ((wH.length + wB.length : Nat) : Int)).toNat (padC fi ze) wH wB) ∧ F' = cF ad g (va_up (va_up F0 45 (aT g h0)) 44 (oT ad 44 ((padT (padW al ze) (wi - ((wH.length + wB.length : Nat) : Int)).toNat (padC fi ze) wH wB).length : Int))) W K S)) ad N 0 0 82 [(0, .ref (ad 43)), (1, .ref (ad 42)), (2, .int (iI (n : Int))), (3, .int (iI (way : Int)))] [.int (iI (c : Int))] (cF ad g F0 W K S) := by
      intro c hc hcb
      refine J_istore (lv' := [(4, .int (iI (c : Int))), (0, .ref (ad 43)), (1, .ref (ad 42)), (2, .int (iI (n : Int))), (3, .int (iI (way : Int)))]) d_P_laySheet_82 (by decide) rfl ?_
      have lab107 : ∀ (ah : Nat) (hah : (way = 62 ∧ ah = n) ∨ (way = 94 ∧ ah = n / 2) ∨ ((way = 60 ∨ way = 61) ∧ ah = 0)) , J l rm_P_laySheet (0, 0) "NumberTower$Pen" b_P_laySheet 7 (Option.none : Option Jvm.ClassFile.FieldType) D jCl (jTys g) A (fun _ me => me.name = y_P_laySheet.name) (jv ad N (fun F' => ∃ h0 : Nat → Int, tx h0 (padT (padW al ze) (wi - ((wH.length + wB.length : Nat) : Int)).toNat (padC fi ze) wH wB) ∧ F' = cF ad g (va_up (va_up F0 45 (aT g h0)) 44 (oT ad 44 ((padT (padW al ze) (wi - ((wH.length + wB.length : Nat) : Int)).toNat (padC fi ze) wH wB).length : Int))) W K S)) ad N 0 0 107 [(0, .ref (ad 43)), (1, .ref (ad 42)), (2, .int (iI (n : Int))), (3, .int (iI (way : Int))), (4, .int (iI (c : Int)))] [.int (iI (ah : Int))] (cF ad g F0 W K S) := by
        intro ah hah
        refine J_istore (lv' := [(5, .int (iI (ah : Int))), (0, .ref (ad 43)), (1, .ref (ad 42)), (2, .int (iI (n : Int))), (3, .int (iI (way : Int))), (4, .int (iI (c : Int)))]) d_P_laySheet_107 (by decide) rfl ?_
        have lab120 : ∀ (be : Nat) (hw5 : (way = 60 ∧ ah = 0 ∧ be = 0) ∨ (way = 61 ∧ ah = 0 ∧ be = n) ∨ (way = 94 ∧ ah = n / 2 ∧ be = 0) ∨ (way = 62 ∧ ah = n ∧ be = 0)) (hab : ah + be ≤ n) , J l rm_P_laySheet (0, 0) "NumberTower$Pen" b_P_laySheet 7 (Option.none : Option Jvm.ClassFile.FieldType) D jCl (jTys g) A (fun _ me => me.name = y_P_laySheet.name) (jv ad N (fun F' => ∃ h0 : Nat → Int, tx h0 (padT (padW al ze) (wi - ((wH.length + wB.length : Nat) : Int)).toNat (padC fi ze) wH wB) ∧ F' = cF ad g (va_up (va_up F0 45 (aT g h0)) 44 (oT ad 44 ((padT (padW al ze) (wi - ((wH.length + wB.length : Nat) : Int)).toNat (padC fi ze) wH wB).length : Int))) W K S)) ad N 0 0 120 [(0, .ref (ad 43)), (1, .ref (ad 42)), (2, .int (iI (n : Int))), (3, .int (iI (way : Int))), (4, .int (iI (c : Int))), (5, .int (iI (ah : Int)))] [.int (iI (be : Int))] (cF ad g F0 W K S) := by
          intro be hw5 hab
          replace hw5 : hold _ := hw5
          replace hw4 : hold _ := hw4
          replace hah : hold _ := hah
          have hnl : n + wH.length + wB.length ≤ 200 := by omega
          refine J_istore (lv' := [(6, .int (iI (be : Int))), (0, .ref (ad 43)), (1, .ref (ad 42)), (2, .int (iI (n : Int))), (3, .int (iI (way : Int))), (4, .int (iI (c : Int))), (5, .int (iI (ah : Int)))]) d_P_laySheet_120 (by decide) rfl ?_
          refine J_aload_n 1 d_P_laySheet_122 rfl rfl ?_
          refine gf_P_12 (by omega) ((cF_0 (by decide)).trans hPn) rfl d_P_laySheet_123 ?_
          refine J_callVv cw_P_40 nh_T_clear pn_T_clear rfl rfl (by omega) ((cF_0 (by decide)).trans hTS) (As := []) (rest := []) rfl (Nat.le_of_ble_eq_true rfl) ⟨by decide, by decide⟩ rfl ⟨by decide, by decide⟩ d_P_laySheet_126 (c_T_clearN hfl (k := 44) (w := wS) (hh := hS) (by omega) ((cF_0 (by decide)).trans hTS) ((cF_0 (by decide)).trans hAS) ttS hlS) (fun  F2 hq => ?_)
          have eF2 := hq
          refine J_eqF (F2 := cF ad g (va_up F0 44 (.inr (7, [.ref (ad 45), .int (iI ((([] : List Nat).length : Nat) : Int))]))) W K S) (eF2.trans (cF_up0 (by decide))) ?_
          refine J_aload_n 1 d_P_laySheet_129 rfl rfl ?_
          refine gf_P_12 (by omega) ((cF_0 (by decide)).trans (by rw [va_up_ne _ _ (by decide)]; exact hPn)) rfl d_P_laySheet_130 ?_
          refine J_iload 5 d_P_laySheet_133 rfl ?_
          refine J_iload 6 d_P_laySheet_135 rfl ?_
          refine J_callVv cw_P_111 nh_T_putMany pn_T_putMany rfl rfl (by omega) ((cF_0 (by decide)).trans (by rw [va_up_self])) (As := [.int (iI (c : Int)), .int (iI (ah : Int))]) (rest := []) rfl (Nat.le_of_ble_eq_true rfl) ⟨by decide, by decide⟩ rfl ⟨by decide, by decide⟩ d_P_laySheet_137 (c_T_putManyN hfl (k := 44) (w := ([] : List Nat)) (hh := hS) (c := c) (n := ah) (by omega) ((cF_0 (by decide)).trans (by rw [va_up_self])) ((cF_0 (by decide)).trans (by rw [va_up_ne _ _ (by decide)]; exact hAS)) (tx_nil hS) (by decide) (by omega) (by simp only [List.length_nil]; omega)) (fun  F3 hq => ?_)
          obtain ⟨hh118, htx119, eF3⟩ := hq
          refine J_eqF (F2 := cF ad g (va_up (va_up F0 44 (.inr (7, [.ref (ad 45), .int (iI (((([] : List Nat) ++ List.replicate ah c).length : Nat) : Int))]))) 45 (.inl (g 1, 200, .inl (aI hh118)))) W K S) (eF3.trans (Eq.trans (congrArg (fun qF : Nat → va_E => va_up qF 44 (.inr (7, [.ref (ad 45), .int (iI (((([] : List Nat) ++ List.replicate ah c).length : Nat) : Int))]))) (cF_up0 (by decide))) ((cF_up0 (by decide)).trans (congrArg (fun qq => cF ad g qq W K S) (up_in1 (by decide)))))) ?_
          refine J_aload_n 1 d_P_laySheet_140 rfl rfl ?_
          refine gf_P_12 (by omega) ((cF_0 (by decide)).trans (by rw [va_up_ne _ _ (by decide), va_up_ne _ _ (by decide)]; exact hPn)) rfl d_P_laySheet_141 ?_
          refine J_aload_n 1 d_P_laySheet_144 rfl rfl ?_
          refine gf_P_18 (by omega) ((cF_0 (by decide)).trans (by rw [va_up_ne _ _ (by decide), va_up_ne _ _ (by decide)]; exact hPn)) rfl d_P_laySheet_145 ?_
          refine J_iconst d_P_laySheet_148 ?_
          refine J_aload_n 1 d_P_laySheet_149 rfl rfl ?_
          refine gf_P_18 (by omega) ((cF_0 (by decide)).trans (by rw [va_up_ne _ _ (by decide), va_up_ne _ _ (by decide)]; exact hPn)) rfl d_P_laySheet_150 ?_
          refine gf_P_88 (by omega) ((cF_0 (by decide)).trans (by rw [va_up_ne _ _ (by decide), va_up_ne _ _ (by decide)]; exact hTH)) rfl d_P_laySheet_153 ?_
          refine J_callVv cw_P_91 nh_T_putFrom pn_T_putFrom rfl rfl (by omega) ((cF_0 (by decide)).trans (by rw [va_up_ne _ _ (by decide), va_up_self])) (As := [.ref (ad 46), .int (iI 0), .int (iI ((wH.length : Nat) : Int))]) (rest := []) rfl (Nat.le_of_ble_eq_true rfl) ⟨by decide, by decide⟩ rfl ⟨by decide, by decide⟩ d_P_laySheet_156 (c_T_putFromN hfl (k := 44) (m := 46) (w := (([] : List Nat) ++ List.replicate ah c)) (v := wH) (u := wH) (hh := hh118) (yh := hH) (p := 0) (q := wH.length) (by omega) ((cF_0 (by decide)).trans (by rw [va_up_ne _ _ (by decide), va_up_self])) ((cF_0 (by decide)).trans (by rw [va_up_self])) htx119 (by simp only [List.length_append, List.length_cons, List.length_nil, List.length_replicate]; omega) (by omega) ((cF_0 (by decide)).trans (by rw [va_up_ne _ _ (by decide), va_up_ne _ _ (by decide)]; exact hTH)) ((cF_0 (by decide)).trans (by rw [va_up_ne _ _ (by decide), va_up_ne _ _ (by decide)]; exact hAH)) ttH hlH (by omega) (by omega) (by omega) take_all0 (by simp only [List.length_append, List.length_cons, List.length_nil, List.length_replicate]; omega)) (fun  F4 hq => ?_)
          obtain ⟨hh120, htx121, eF4⟩ := hq
          refine J_eqF (F2 := cF ad g (va_up (va_up F0 44 (.inr (7, [.ref (ad 45), .int (iI ((((([] : List Nat) ++ List.replicate ah c) ++ wH).length : Nat) : Int))]))) 45 (.inl (g 1, 200, .inl (aI hh120)))) W K S) (eF4.trans (Eq.trans (congrArg (fun qF : Nat → va_E => va_up qF 44 (.inr (7, [.ref (ad 45), .int (iI ((((([] : List Nat) ++ List.replicate ah c) ++ wH).length : Nat) : Int))]))) ((cF_up0 (by decide)).trans (congrArg (fun qq => cF ad g qq W K S) (up_in0)))) ((cF_up0 (by decide)).trans (congrArg (fun qq => cF ad g qq W K S) (up_in1 (by decide)))))) ?_
          refine J_aload_n 1 d_P_laySheet_159 rfl rfl ?_
          refine gf_P_12 (by omega) ((cF_0 (by decide)).trans (by rw [va_up_ne _ _ (by decide), va_up_ne _ _ (by decide)]; exact hPn)) rfl d_P_laySheet_160 ?_
          refine J_iload 5 d_P_laySheet_163 rfl ?_
          refine J_iload 0 d_P_laySheet_165 rfl ?_
          refine J_callVv cw_P_111 nh_T_putMany pn_T_putMany rfl rfl (by omega) ((cF_0 (by decide)).trans (by rw [va_up_ne _ _ (by decide), va_up_self])) (As := [.int (iI (c : Int)), .int (iI (be : Int))]) (rest := []) rfl (Nat.le_of_ble_eq_true rfl) ⟨by decide, by decide⟩ rfl ⟨by decide, by decide⟩ d_P_laySheet_167 (c_T_putManyN hfl (k := 44) (w := ((([] : List Nat) ++ List.replicate ah c) ++ wH)) (hh := hh120) (c := c) (n := be) (by omega) ((cF_0 (by decide)).trans (by rw [va_up_ne _ _ (by decide), va_up_self])) ((cF_0 (by decide)).trans (by rw [va_up_self])) htx121 (by simp only [List.length_append, List.length_cons, List.length_nil, List.length_replicate]; omega) (by omega) (by simp only [List.length_append, List.length_nil, List.length_replicate]; omega)) (fun  F5 hq => ?_)
          obtain ⟨hh122, htx123, eF5⟩ := hq
          refine J_eqF (F2 := cF ad g (va_up (va_up F0 44 (.inr (7, [.ref (ad 45), .int (iI (((((([] : List Nat) ++ List.replicate ah c) ++ wH) ++ List.replicate be c).length : Nat) : Int))]))) 45 (.inl (g 1, 200, .inl (aI hh122)))) W K S) (eF5.trans (Eq.trans (congrArg (fun qF : Nat → va_E => va_up qF 44 (.inr (7, [.ref (ad 45), .int (iI (((((([] : List Nat) ++ List.replicate ah c) ++ wH) ++ List.replicate be c).length : Nat) : Int))]))) ((cF_up0 (by decide)).trans (congrArg (fun qq => cF ad g qq W K S) (up_in0)))) ((cF_up0 (by decide)).trans (congrArg (fun qq => cF ad g qq W K S) (up_in1 (by decide)))))) ?_
          refine J_aload_n 1 d_P_laySheet_170 rfl rfl ?_
          refine gf_P_12 (by omega) ((cF_0 (by decide)).trans (by rw [va_up_ne _ _ (by decide), va_up_ne _ _ (by decide)]; exact hPn)) rfl d_P_laySheet_171 ?_
          refine J_aload_n 1 d_P_laySheet_174 rfl rfl ?_
          refine gf_P_21 (by omega) ((cF_0 (by decide)).trans (by rw [va_up_ne _ _ (by decide), va_up_ne _ _ (by decide)]; exact hPn)) rfl d_P_laySheet_175 ?_
          refine J_iconst d_P_laySheet_178 ?_
          refine J_aload_n 1 d_P_laySheet_179 rfl rfl ?_
          refine gf_P_21 (by omega) ((cF_0 (by decide)).trans (by rw [va_up_ne _ _ (by decide), va_up_ne _ _ (by decide)]; exact hPn)) rfl d_P_laySheet_180 ?_
          refine gf_P_88 (by omega) ((cF_0 (by decide)).trans (by rw [va_up_ne _ _ (by decide), va_up_ne _ _ (by decide)]; exact hTB)) rfl d_P_laySheet_183 ?_
          refine J_callVv cw_P_91 nh_T_putFrom pn_T_putFrom rfl rfl (by omega) ((cF_0 (by decide)).trans (by rw [va_up_ne _ _ (by decide), va_up_self])) (As := [.ref (ad 48), .int (iI 0), .int (iI ((wB.length : Nat) : Int))]) (rest := []) rfl (Nat.le_of_ble_eq_true rfl) ⟨by decide, by decide⟩ rfl ⟨by decide, by decide⟩ d_P_laySheet_186 (c_T_putFromN hfl (k := 44) (m := 48) (w := (((([] : List Nat) ++ List.replicate ah c) ++ wH) ++ List.replicate be c)) (v := wB) (u := wB) (hh := hh122) (yh := hB) (p := 0) (q := wB.length) (by omega) ((cF_0 (by decide)).trans (by rw [va_up_ne _ _ (by decide), va_up_self])) ((cF_0 (by decide)).trans (by rw [va_up_self])) htx123 (by simp only [List.length_append, List.length_cons, List.length_nil, List.length_replicate]; omega) (by omega) ((cF_0 (by decide)).trans (by rw [va_up_ne _ _ (by decide), va_up_ne _ _ (by decide)]; exact hTB)) ((cF_0 (by decide)).trans (by rw [va_up_ne _ _ (by decide), va_up_ne _ _ (by decide)]; exact hAB)) ttB hlB (by omega) (by omega) (by omega) take_all0 (by simp only [List.length_append, List.length_cons, List.length_nil, List.length_replicate]; omega)) (fun  F6 hq => ?_)
          obtain ⟨hh124, htx125, eF6⟩ := hq
          refine J_eqF (F2 := cF ad g (va_up (va_up F0 44 (.inr (7, [.ref (ad 45), .int (iI ((((((([] : List Nat) ++ List.replicate ah c) ++ wH) ++ List.replicate be c) ++ wB).length : Nat) : Int))]))) 45 (.inl (g 1, 200, .inl (aI hh124)))) W K S) (eF6.trans (Eq.trans (congrArg (fun qF : Nat → va_E => va_up qF 44 (.inr (7, [.ref (ad 45), .int (iI ((((((([] : List Nat) ++ List.replicate ah c) ++ wH) ++ List.replicate be c) ++ wB).length : Nat) : Int))]))) ((cF_up0 (by decide)).trans (congrArg (fun qq => cF ad g qq W K S) (up_in0)))) ((cF_up0 (by decide)).trans (congrArg (fun qq => cF ad g qq W K S) (up_in1 (by decide)))))) ?_
          refine J_aload_n 1 d_P_laySheet_189 rfl rfl ?_
          refine gf_P_12 (by omega) ((cF_0 (by decide)).trans (by rw [va_up_ne _ _ (by decide), va_up_ne _ _ (by decide)]; exact hPn)) rfl d_P_laySheet_190 ?_
          refine J_iload 5 d_P_laySheet_193 rfl ?_
          refine J_iload_n 3 d_P_laySheet_195 rfl rfl ?_
          refine J_iload 6 d_P_laySheet_196 rfl ?_
          refine J_isub d_P_laySheet_198 ?_
          refine J_iload 0 d_P_laySheet_199 rfl ?_
          refine J_isub d_P_laySheet_201 ?_
          refine J_topi (r := ((n - ah - be : Nat) : Int)) (congrArg iI (by omega)) ?_
          refine J_callVv cw_P_111 nh_T_putMany pn_T_putMany rfl rfl (by omega) ((cF_0 (by decide)).trans (by rw [va_up_ne _ _ (by decide), va_up_self])) (As := [.int (iI (c : Int)), .int (iI ((n - ah - be : Nat) : Int))]) (rest := []) rfl (Nat.le_of_ble_eq_true rfl) ⟨by decide, by decide⟩ rfl ⟨by decide, by decide⟩ d_P_laySheet_202 (c_T_putManyN hfl (k := 44) (w := ((((([] : List Nat) ++ List.replicate ah c) ++ wH) ++ List.replicate be c) ++ wB)) (hh := hh124) (c := c) (n := n - ah - be) (by omega) ((cF_0 (by decide)).trans (by rw [va_up_ne _ _ (by decide), va_up_self])) ((cF_0 (by decide)).trans (by rw [va_up_self])) htx125 (by simp only [List.length_append, List.length_cons, List.length_nil, List.length_replicate]; omega) (by omega) (by simp only [List.length_append, List.length_nil, List.length_replicate]; omega)) (fun  F7 hq => ?_)
          obtain ⟨hh126, htx127, eF7⟩ := hq
          refine J_eqF (F2 := cF ad g (va_up (va_up F0 44 (.inr (7, [.ref (ad 45), .int (iI (((((((([] : List Nat) ++ List.replicate ah c) ++ wH) ++ List.replicate be c) ++ wB) ++ List.replicate (n - ah - be) c).length : Nat) : Int))]))) 45 (.inl (g 1, 200, .inl (aI hh126)))) W K S) (eF7.trans (Eq.trans (congrArg (fun qF : Nat → va_E => va_up qF 44 (.inr (7, [.ref (ad 45), .int (iI (((((((([] : List Nat) ++ List.replicate ah c) ++ wH) ++ List.replicate be c) ++ wB) ++ List.replicate (n - ah - be) c).length : Nat) : Int))]))) ((cF_up0 (by decide)).trans (congrArg (fun qq => cF ad g qq W K S) (up_in0)))) ((cF_up0 (by decide)).trans (congrArg (fun qq => cF ad g qq W K S) (up_in1 (by decide)))))) ?_
          refine J_eqF (F2 := cF ad g (va_up (va_up F0 45 (.inl (g 1, 200, .inl (aI hh126)))) 44 (.inr (7, [.ref (ad 45), .int (iI (((((((([] : List Nat) ++ List.replicate ah c) ++ wH) ++ List.replicate be c) ++ wB) ++ List.replicate (n - ah - be) c).length : Nat) : Int))]))) W K S) (congrArg (fun qq : Nat → va_E => cF ad g qq W K S) (up_cm (by decide))) ?_
          have eT128 : (((((([] : List Nat) ++ List.replicate ah c) ++ wH) ++ List.replicate be c) ++ wB) ++ List.replicate (n - ah - be) c) = padT (padW al ze) (wi - ((wH.length + wB.length : Nat) : Int)).toNat (padC fi ze) wH wB := (by rw [← hn, ← hway, ← hc]; unfold padT; rcases (show _ ∨ _ ∨ _ ∨ _ from hw5) with ⟨w1, w2, w3⟩ | ⟨w1, w2, w3⟩ | ⟨w1, w2, w3⟩ | ⟨w1, w2, w3⟩; (rw [w1, w2, w3]; exact lay_l); (rw [w1, w2, w3]; exact lay_e); (rw [w1, w2, w3]; exact lay_c); (rw [w1, w2, w3]; exact lay_r))
          have htx129 : tx hh126 (padT (padW al ze) (wi - ((wH.length + wB.length : Nat) : Int)).toNat (padC fi ze) wH wB) := eT128 ▸ htx127
          refine J_eqF (F2 := cF ad g (va_up (va_up F0 45 (.inl (g 1, 200, .inl (aI hh126)))) 44 (.inr (7, [.ref (ad 45), .int (iI (((padT (padW al ze) (wi - ((wH.length + wB.length : Nat) : Int)).toNat (padC fi ze) wH wB).length : Nat) : Int))]))) W K S) (congrArg (fun qq : List Nat => cF ad g (va_up (va_up F0 45 (.inl (g 1, 200, .inl (aI hh126)))) 44 (oT ad 44 ((qq.length : Nat) : Int))) W K S) eT128) ?_
          refine J_vret rfl d_P_laySheet_205 ⟨by decide, by decide⟩ ?_
          exact ⟨rfl, rfl, rfl, _, htx129, rfl⟩
        refine J_iload_n 4 d_P_laySheet_109 rfl rfl ?_
        refine J_bipush d_P_laySheet_110 (i8_ok (by decide)) ?_
        refine J_if_icmpne (tgt := 119) d_P_laySheet_112 (by decide) ⟨by omega, by omega⟩ ⟨by omega, by omega⟩ (fun c112 => ?_) (fun c112 => ?_)
        · refine J_iconst d_P_laySheet_119 ?_
          refine J_pick (lv' := [(0, .ref (ad 43)), (1, .ref (ad 42)), (2, .int (iI (n : Int))), (3, .int (iI (way : Int))), (4, .int (iI (c : Int))), (5, .int (iI (ah : Int)))]) [1, 2, 3, 4, 5, 0] rfl ?_
          exact lab120 0 (by omega) (by omega)
        · refine J_iload_n 3 d_P_laySheet_115 rfl rfl ?_
          refine J_goto (tgt := 120) d_P_laySheet_116 (by decide) ?_
          refine J_pick (lv' := [(0, .ref (ad 43)), (1, .ref (ad 42)), (2, .int (iI (n : Int))), (3, .int (iI (way : Int))), (4, .int (iI (c : Int))), (5, .int (iI (ah : Int)))]) [1, 2, 3, 4, 5, 0] rfl ?_
          exact lab120 n (by omega) (by omega)
      refine J_iload_n 4 d_P_laySheet_84 rfl rfl ?_
      refine J_bipush d_P_laySheet_85 (i8_ok (by decide)) ?_
      refine J_if_icmpne (tgt := 94) d_P_laySheet_87 (by decide) ⟨by omega, by omega⟩ ⟨by omega, by omega⟩ (fun c87 => ?_) (fun c87 => ?_)
      · refine J_iload_n 4 d_P_laySheet_94 rfl rfl ?_
        refine J_bipush d_P_laySheet_95 (i8_ok (by decide)) ?_
        refine J_if_icmpne (tgt := 106) d_P_laySheet_97 (by decide) ⟨by omega, by omega⟩ ⟨by omega, by omega⟩ (fun c97 => ?_) (fun c97 => ?_)
        · refine J_iconst d_P_laySheet_106 ?_
          refine J_pick (lv' := [(0, .ref (ad 43)), (1, .ref (ad 42)), (2, .int (iI (n : Int))), (3, .int (iI (way : Int))), (4, .int (iI (c : Int)))]) [1, 2, 3, 4, 0] rfl ?_
          exact lab107 0 (by omega)
        · refine J_iload_n 3 d_P_laySheet_100 rfl rfl ?_
          refine J_iconst d_P_laySheet_101 ?_
          refine J_idivn d_P_laySheet_102 (by omega) (by omega) ?_
          refine J_goto (tgt := 107) d_P_laySheet_103 (by decide) ?_
          refine J_pick (lv' := [(0, .ref (ad 43)), (1, .ref (ad 42)), (2, .int (iI (n : Int))), (3, .int (iI (way : Int))), (4, .int (iI (c : Int)))]) [1, 2, 3, 4, 0] rfl ?_
          refine J_topi (r := (((n / 2 : Nat)) : Int)) (congrArg iI rfl) ?_
          exact lab107 (n / 2) (by omega)
      · refine J_iload_n 3 d_P_laySheet_90 rfl rfl ?_
        refine J_goto (tgt := 107) d_P_laySheet_91 (by decide) ?_
        refine J_pick (lv' := [(0, .ref (ad 43)), (1, .ref (ad 42)), (2, .int (iI (n : Int))), (3, .int (iI (way : Int))), (4, .int (iI (c : Int)))]) [1, 2, 3, 4, 0] rfl ?_
        exact lab107 n (by omega)
    refine J_aload_n 2 d_P_laySheet_54 rfl rfl ?_
    refine gf_P_242 (by omega) ((cF_0 (by decide)).trans hSp) rfl d_P_laySheet_55 ?_
    refine J_ifeq (tgt := 68) d_P_laySheet_58 (by decide) ⟨by omega, by omega⟩ (fun c58 => ?_) (fun c58 => ?_)
    · refine J_aload_n 2 d_P_laySheet_68 rfl rfl ?_
      refine gf_P_239 (by omega) ((cF_0 (by decide)).trans hSp) rfl d_P_laySheet_69 ?_
      refine J_ifeq (tgt := 80) d_P_laySheet_72 (by decide) ⟨by omega, by omega⟩ (fun c72 => ?_) (fun c72 => ?_)
      · refine J_bipush d_P_laySheet_80 (i8_ok (by decide)) ?_
        refine J_pick (lv' := [(0, .ref (ad 43)), (1, .ref (ad 42)), (2, .int (iI (n : Int))), (3, .int (iI (way : Int)))]) [1, 2, 3, 0] rfl ?_
        exact lab82 32 (by unfold padC; rw [if_neg (by omega), if_neg (by omega)]) (by omega)
      · refine J_bipush d_P_laySheet_75 (i8_ok (by decide)) ?_
        refine J_goto (tgt := 82) d_P_laySheet_77 (by decide) ?_
        refine J_pick (lv' := [(0, .ref (ad 43)), (1, .ref (ad 42)), (2, .int (iI (n : Int))), (3, .int (iI (way : Int)))]) [1, 2, 3, 0] rfl ?_
        exact lab82 48 (by unfold padC; rw [if_neg (by omega), if_pos (by omega)]) (by omega)
    · refine J_aload_n 2 d_P_laySheet_61 rfl rfl ?_
      refine gf_P_242 (by omega) ((cF_0 (by decide)).trans hSp) rfl d_P_laySheet_62 ?_
      refine J_goto (tgt := 82) d_P_laySheet_65 (by decide) ?_
      refine J_pick (lv' := [(0, .ref (ad 43)), (1, .ref (ad 42)), (2, .int (iI (n : Int))), (3, .int (iI (way : Int)))]) [1, 2, 3, 0] rfl ?_
      exact lab82 fi (by unfold padC; rw [if_pos (by omega)]) (by omega)
  refine J_aload_n 2 d_P_laySheet_25 rfl rfl ?_
  refine gf_P_236 (by omega) ((cF_0 (by decide)).trans hSp) rfl d_P_laySheet_26 ?_
  refine J_ifeq (tgt := 39) d_P_laySheet_29 (by decide) ⟨by omega, by omega⟩ (fun c29 => ?_) (fun c29 => ?_)
  · refine J_aload_n 2 d_P_laySheet_39 rfl rfl ?_
    refine gf_P_239 (by omega) ((cF_0 (by decide)).trans hSp) rfl d_P_laySheet_40 ?_
    refine J_ifeq (tgt := 51) d_P_laySheet_43 (by decide) ⟨by omega, by omega⟩ (fun c43 => ?_) (fun c43 => ?_)
    · refine J_bipush d_P_laySheet_51 (i8_ok (by decide)) ?_
      refine J_pick (lv' := [(0, .ref (ad 43)), (1, .ref (ad 42)), (2, .int (iI (n : Int)))]) [1, 2, 0] rfl ?_
      exact lab53 62 (by unfold padW; rw [if_neg (by omega), if_neg (by omega)]) (by omega)
    · refine J_bipush d_P_laySheet_46 (i8_ok (by decide)) ?_
      refine J_goto (tgt := 53) d_P_laySheet_48 (by decide) ?_
      refine J_pick (lv' := [(0, .ref (ad 43)), (1, .ref (ad 42)), (2, .int (iI (n : Int)))]) [1, 2, 0] rfl ?_
      exact lab53 61 (by unfold padW; rw [if_neg (by omega), if_pos (by omega)]) (by omega)
  · refine J_aload_n 2 d_P_laySheet_32 rfl rfl ?_
    refine gf_P_236 (by omega) ((cF_0 (by decide)).trans hSp) rfl d_P_laySheet_33 ?_
    refine J_goto (tgt := 53) d_P_laySheet_36 (by decide) ?_
    refine J_pick (lv' := [(0, .ref (ad 43)), (1, .ref (ad 42)), (2, .int (iI (n : Int)))]) [1, 2, 0] rfl ?_
    exact lab53 al (by unfold padW; rw [if_pos (by omega)]) (by omega)
