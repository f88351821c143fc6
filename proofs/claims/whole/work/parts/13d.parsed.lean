/-! the Model reads a number -/

theorem mdg_n {w : List Nat} {r : Nat} : ∀ f p n v, (mdg w r f p n v).2.1 ≤ n + f := by
  intro f
  induction f with
  | zero => intro p n v; exact Nat.le_refl _
  | succ f ih =>
    intro p n v
    by_cases h : 0 ≤ dgr (chr w p) r
    · rw [mdg_d h]; have := ih (p + 1) (n + 1) (v * r + (dgr (chr w p) r).toNat); omega
    · by_cases h2 : 0 < n ∧ chr w p = 95 ∧ 0 ≤ dgr (chr w (p + 1)) r
      · rw [mdg_u h h2]; have := ih (p + 1) n v; omega
      · rw [mdg_e h h2]; exact Nat.le_add_right _ _
theorem chr_lt {w : List Nat} {p : Nat} (h : chr w p ≠ 0) : p < w.length := Nat.lt_of_not_le (fun q => h (chr_out q))
theorem dgr_pos {w : List Nat} {p : Nat} {r : Int} (h : 0 ≤ dgr (chr w p) r) : p < w.length := chr_lt (fun q => by
  have := (dgr_b (c := (chr w p : Int)) (r := r)).2.2.2 h
  omega)
theorem mdg_le {w : List Nat} {r : Nat} : ∀ f p n v, p ≤ w.length → (mdg w r f p n v).1 ≤ w.length := by
  intro f
  induction f with
  | zero => intro p n v h; exact h
  | succ f ih =>
    intro p n v hp
    by_cases h : 0 ≤ dgr (chr w p) r
    · rw [mdg_d h]; exact ih _ _ _ (dgr_pos h)
    · by_cases h2 : 0 < n ∧ chr w p = 95 ∧ 0 ≤ dgr (chr w (p + 1)) r
      · rw [mdg_u h h2]; exact ih _ _ _ (chr_lt (by omega))
      · rw [mdg_e h h2]; exact hp
theorem prB_y {w : List Nat} {p n v : Nat} (h1 : 0 < n) (h2 : p = w.length) : prB w (p, n, v) = some (0, v, 1, 0) := if_pos ⟨h1, h2⟩
theorem prB_n {w : List Nat} {p n v : Nat} (h : ¬(0 < n ∧ p = w.length)) : prB w (p, n, v) = none := if_neg h
theorem prD_w {w : List Nat} {p n v : Nat} (h1 : 0 < n) (h2 : p = w.length) : prD w (p, n, v) = some (0, v, 1, 0) := if_pos ⟨h1, h2⟩
theorem prD_q {w : List Nat} {p n v : Nat} (h : ¬(0 < n ∧ p = w.length)) (h1 : 0 < n) (h2 : chr w p = 47) : prD w (p, n, v) = prQ w v (mdg w 10 41 (p + 1) 0 0) := (if_neg h).trans (if_pos ⟨h1, h2⟩)
theorem prD_p {w : List Nat} {p n v : Nat} (h : ¬(0 < n ∧ p = w.length)) (h1 : ¬(0 < n ∧ chr w p = 47)) : prD w (p, n, v) = prP w (p, n, v) := (if_neg h).trans (if_neg h1)
theorem prQ_y {w : List Nat} {u p n v : Nat} (h1 : 0 < n) (h2 : p = w.length) : prQ w u (p, n, v) = some (1, u, v, 0) := if_pos ⟨h1, h2⟩
theorem prQ_n {w : List Nat} {u p n v : Nat} (h : ¬(0 < n ∧ p = w.length)) : prQ w u (p, n, v) = none := if_neg h
theorem prP_y {w : List Nat} {p n v : Nat} (h : chr w p = 46) : prP w (p, n, v) = prR w n (mdg w 10 41 (p + 1) 0 v) := if_pos h
theorem prP_n {w : List Nat} {p n v : Nat} (h : ¬ chr w p = 46) : prP w (p, n, v) = prR w n (p, 0, v) := if_neg h
theorem prR_0 {w : List Nat} {p n m v : Nat} (h1 : n = 0) (h2 : m = 0) : prR w n (p, m, v) = none := if_pos ⟨h1, h2⟩
theorem prR_e {w : List Nat} {p n m v : Nat} (h : ¬(n = 0 ∧ m = 0)) (h2 : chr w p = 101 ∨ chr w p = 69) : prR w n (p, m, v) = prE w m v (p + 1) := (if_neg h).trans (if_pos h2)
theorem prR_y {w : List Nat} {p n m v : Nat} (h : ¬(n = 0 ∧ m = 0)) (h2 : ¬(chr w p = 101 ∨ chr w p = 69)) : prR w n (p, m, v) = if p = w.length then some (2, v, 1, 0 - (m : Int)) else none := (if_neg h).trans (if_neg h2)
theorem prE_x {w : List Nat} {n v q q6 qe te : Nat} (hq : psq w q = q6) (ht : ten3 w 3 q6 0 = (qe, te)) : prE w n v q = if qe = q6 then none else if qe = w.length then some (2, v, 1, (if chr w q = 45 then -(te : Int) else (te : Int)) - n) else none := by
  unfold prE
  rw [hq, ht]
set_option maxRecDepth 100000 in
set_option maxHeartbeats 4000000 in
theorem c_M_parsed {l : Launch} (hfl : l.flags = flags0) {D : va_G} {g : Nat → ClassId} {ad : Nat → Nat} {N : Nat} {F : Nat → va_E} {f : Nat → Int} {v : UInt64} {lh : Nat → Int} {ln : List Nat} {hh ll : Nat → Int} {V br : Nat → Nat}
    (hN : 109 ≤ N) (hO : F 98 = oM ad f v) (h104 : F 104 = .inl (g 0, 40, .inl (aI lh))) (hml : mtx lh ln) (hf12 : f 12 = (ln.length : Int)) (hl40 : ln.length ≤ 40) (hch : ∀ c, c ∈ ln → 32 ≤ c ∧ c ≤ 126) (hB : F 99 = aB g hh) (hL : F 100 = aL g ll) (hR : reg br hh ll V) (hzz : okB br) :
    JC l y_M_parsed b_M_parsed 7 (Option.some Jvm.ClassFile.FieldType.int) rm_M_parsed (0, 0) D jCl (jTys g) ad N F [.ref (ad 98)] (ji ad N (fun z F' => ∃ (hh' ll' f' : Nat → Int) (W : Nat → Nat), reg br hh' ll' W ∧ (∀ k, k ≠ 20 → k ≠ 21 → W k = V k) ∧ (∀ j, j ≠ 7 → j ≠ 19 → j ≠ 20 → f' j = f j) ∧ prsOut (prs ln) z (W 20) (W 21) ∧ f' 7 = (if chr ln 0 = 45 then (1 : Int) else 0) ∧ F' = va_up (va_up (va_up F 98 (oM ad f' v)) 99 (aB g hh')) 100 (aL g ll'))) := by
  refine JC.go hfl (own := "NumberTowerModel") (lv := [(0, .ref (ad 98))]) rfl (by decide +kernel) (Nat.le_of_ble_eq_true rfl) rfl (fun A => ?_)
  refine J_aload_n 0 d_M_parsed_0 rfl rfl ?_
  refine J_iconst d_M_parsed_1 ?_
  refine pm_M_244 (by omega) hO d_M_parsed_2 ?_
  refine J_aload_n 0 d_M_parsed_5 rfl rfl ?_
  refine gf_M_13 (by omega) (by rw [va_up_self]) rfl d_M_parsed_6 ?_
  refine J_bipush d_M_parsed_9 (i8_ok (by decide)) ?_
  refine J_iconst d_M_parsed_11 ?_
  refine J_iastore 0 rfl (by omega) (by rw [va_up_ne _ _ (by decide)]; exact hL) (by omega) d_M_parsed_12 ?_
  refine J_eqF (F2 := va_up (va_up F 98 (oM ad (va_up f 19 0) v)) 100 (.inl (g 0, 33, .inl (aI (va_up ll 20 0))))) (congrArg (fun q => va_up (va_up F 98 (oM ad (va_up f 19 0) v)) 100 (.inl (g 0, 33, .inl (aI (va_up ll q 0))))) (by omega : (20 : Int).toNat = 20)) ?_
  have hR1 := reg_w1 (hzz.1 _) (reg_zero hR 20)
  refine J_aload_n 0 d_M_parsed_13 rfl rfl ?_
  refine J_bipush d_M_parsed_14 (i8_ok (by decide)) ?_
  refine J_lconst (v := 1) d_M_parsed_16 rfl ?_
  refine J_callVv cw_M_82 nh_M_put pn_M_put rfl rfl (by omega) (by rw [va_up_ne _ _ (by decide), va_up_self]) (As := [.int (iI 21), .long (lI 1)]) (rest := []) rfl (Nat.le_of_ble_eq_true rfl) ⟨by decide, by decide⟩ rfl ⟨by decide, by decide⟩ d_M_parsed_17 (k_M_put hfl (a := 21) (n := 1) (hh := hh) (ll := va_up ll 20 0) (V := va_up V 20 0) (br := br) (hN := hN) (hO := (by rw [va_up_ne _ _ (by decide), va_up_self])) (hB := (by rw [va_up_ne _ _ (by decide), va_up_ne _ _ (by decide)]; exact hB)) (hL := (by rw [va_up_self])) (hR := hR1) (ha := by omega) (hn := by decide)) (fun  F1 hq => ?_)
  obtain ⟨bh2, bl3, hR4, eF1⟩ := hq
  refine J_eqF (F2 := va_up (va_up (va_up F 98 (oM ad (va_up f 19 0) v)) 100 (.inl (g 0, 33, .inl (aI bl3)))) 99 (.inl (g 0, 858, .inl (aI bh2)))) (eF1.trans (up_in1 (by decide))) ?_
  have hR7 := reg_w1 (hzz.1 _) hR4
  have lab66 : ∀ (a : Nat) (e1 : Nat → Int) (e2 : Nat → Int) (hsg : psg ln = a) (ha1 : a ≤ 1 ∧ a ≤ ln.length) (hRL66 : reg br e1 e2 (va_up (va_up V 20 0) 21 1)) , J l rm_M_parsed (0, 0) "NumberTowerModel" b_M_parsed 7 (Option.some Jvm.ClassFile.FieldType.int) D jCl (jTys g) A (fun _ me => me.name = y_M_parsed.name) (ji ad N (fun z F' => ∃ (hh' ll' f' : Nat → Int) (W : Nat → Nat), reg br hh' ll' W ∧ (∀ k, k ≠ 20 → k ≠ 21 → W k = V k) ∧ (∀ j, j ≠ 7 → j ≠ 19 → j ≠ 20 → f' j = f j) ∧ prsOut (prs ln) z (W 20) (W 21) ∧ f' 7 = (if chr ln 0 = 45 then (1 : Int) else 0) ∧ F' = va_up (va_up (va_up F 98 (oM ad f' v)) 99 (aB g hh')) 100 (aL g ll'))) ad N 0 0 66 [(0, .ref (ad 98))] [] (va_up (va_up (va_up F 98 (oM ad (va_up (va_up f 19 (a : Int)) 7 (if chr ln 0 = 45 then (1 : Int) else 0)) v)) 99 (.inl (g 0, 858, .inl (aI e1)))) 100 (.inl (g 0, 33, .inl (aI e2)))) := by
    intro a e1 e2 hsg ha1 hRL66
    have hcba := chr_b hch a
    have hcba1 := chr_b hch (a + 1)
    have lab125 : ∀ (bs : Nat) (hbs : pbs ln a = bs) (hbr : bs = 10 ∨ ((bs = 16 ∨ bs = 2) ∧ a + 2 ≤ ln.length)) , J l rm_M_parsed (0, 0) "NumberTowerModel" b_M_parsed 7 (Option.some Jvm.ClassFile.FieldType.int) D jCl (jTys g) A (fun _ me => me.name = y_M_parsed.name) (ji ad N (fun z F' => ∃ (hh' ll' f' : Nat → Int) (W : Nat → Nat), reg br hh' ll' W ∧ (∀ k, k ≠ 20 → k ≠ 21 → W k = V k) ∧ (∀ j, j ≠ 7 → j ≠ 19 → j ≠ 20 → f' j = f j) ∧ prsOut (prs ln) z (W 20) (W 21) ∧ f' 7 = (if chr ln 0 = 45 then (1 : Int) else 0) ∧ F' = va_up (va_up (va_up F 98 (oM ad f' v)) 99 (aB g hh')) 100 (aL g ll'))) ad N 0 0 125 [(0, .ref (ad 98))] [.int (iI (bs : Int))] (va_up (va_up (va_up F 98 (oM ad (va_up (va_up f 19 (a : Int)) 7 (if chr ln 0 = 45 then (1 : Int) else 0)) v)) 99 (.inl (g 0, 858, .inl (aI e1)))) 100 (.inl (g 0, 33, .inl (aI e2)))) := by
      intro bs hbs hbr
      have hpr : prs ln = if bs = 10 then prD ln (mdg ln 10 41 a 0 0) else prB ln (mdg ln bs 41 (a + 2) 0 0) := by unfold prs; rw [hsg, hbs]
      refine J_istore_n (lv' := [(1, .int (iI (bs : Int))), (0, .ref (ad 98))]) d_M_parsed_125 rfl (by decide) rfl ?_
      refine J_iload_n 0 d_M_parsed_126 rfl rfl ?_
      refine J_bipush d_M_parsed_127 (i8_ok (by decide)) ?_
      refine J_if_icmpeq (tgt := 173) d_M_parsed_129 (by decide) ⟨by omega, by omega⟩ ⟨by omega, by omega⟩ (fun c129 => ?_) (fun c129 => ?_)
      · replace hpr : prs ln = prD ln (mdg ln 10 41 a 0 0) := hpr.trans (if_pos (by omega))
        refine J_aload_n 1 d_M_parsed_173 rfl rfl ?_
        refine J_bipush d_M_parsed_174 (i8_ok (by decide)) ?_
        refine J_bipush d_M_parsed_176 (i8_ok (by decide)) ?_
        obtain ⟨⟨pB, nB, vB⟩, hmB⟩ : ∃ x, mdg ln 10 41 a 0 0 = x := ⟨_, rfl⟩
        refine J_callVv cw_M_256 nh_M_digits pn_M_digits rfl rfl (by omega) (by rw [va_up_ne _ _ (by decide), va_up_ne _ _ (by decide), va_up_self]) (As := [.int (iI 10), .int (iI 20)]) (rest := []) rfl (Nat.le_of_ble_eq_true rfl) ⟨by decide, by decide⟩ rfl ⟨by decide, by decide⟩ d_M_parsed_178 (c_M_digits hfl (f := va_up (va_up f 19 (a : Int)) 7 (if chr ln 0 = 45 then (1 : Int) else 0)) (v := v) (lh := lh) (ln := ln) (hh := e1) (ll := e2) (V := va_up (va_up V 20 0) 21 1) (br := br) (to := 20) (v0 := 0) (r := 10) (p0 := a) (pe := pB) (ne := nB) (ve := vB) hN (by rw [va_up_ne _ _ (by decide), va_up_ne _ _ (by decide), va_up_self]) (by rw [va_up_ne _ _ (by decide), va_up_ne _ _ (by decide), va_up_ne _ _ (by decide)]; exact h104) hml ((va_up_ne _ _ (by decide)).trans ((va_up_ne _ _ (by decide)).trans hf12)) hl40 hch (by rw [va_up_ne _ _ (by decide), va_up_self]) (by rw [va_up_self]) hRL66 hzz (by omega) ((va_up_ne _ _ (by decide)).trans (va_up_self ..)) (by omega) ((va_up_ne _ _ (by decide)).trans (va_up_self ..)) (by omega) (Nat.pow_pos (by decide)) hmB) (fun  F2 hq => ?_)
        obtain ⟨bh8, bl9, hR10, ⟨hpbB, hvbB⟩, eF2⟩ := hq
        refine J_eqF (F2 := va_up (va_up (va_up F 98 (oM ad (va_up (va_up (va_up f 19 (pB : Int)) 7 (if chr ln 0 = 45 then (1 : Int) else 0)) 20 (nB : Int)) v)) 99 (.inl (g 0, 858, .inl (aI bh8)))) 100 (.inl (g 0, 33, .inl (aI bl9)))) ((eF2.trans (congrArg (fun qq : Nat → Int => va_up (va_up (va_up (va_up (va_up (va_up F 98 (oM ad (va_up (va_up f 19 (a : Int)) 7 (if chr ln 0 = 45 then (1 : Int) else 0)) v)) 99 (.inl (g 0, 858, .inl (aI e1)))) 100 (.inl (g 0, 33, .inl (aI e2)))) 98 (oM ad qq v)) 99 (.inl (g 0, 858, .inl (aI bh8)))) 100 (.inl (g 0, 33, .inl (aI bl9)))) (up_in2 (by decide) (by decide)))).trans (Eq.trans (Eq.trans (congrArg (fun q : Nat → va_E => va_up q 100 (.inl (g 0, 33, .inl (aI bl9)))) (congrArg (fun q : Nat → va_E => va_up q 99 (.inl (g 0, 858, .inl (aI bh8)))) (up_in2 (by decide) (by decide)))) (congrArg (fun q : Nat → va_E => va_up q 100 (.inl (g 0, 33, .inl (aI bl9)))) (up_in1 (by decide)))) (up_in0))) ?_
        have hR11 := (congrArg (fun qq : Nat → Nat => reg _ _ _ (qq)) (up_in1 (by decide))).mp hR10
        have hnbB : nB ≤ 41 := by have h9 := mdg_n (w := ln) (r := 10) 41 a 0 0; rw [hmB] at h9; simp only at h9; omega
        have hplB : pB ≤ ln.length := by have h9 := mdg_le (w := ln) (r := 10) 41 a 0 0 (by omega); rw [hmB] at h9; exact h9
        have lab264 : ∀ (be : Int) (e1 : Nat → Int) (e2 : Nat → Int) (hbe : hold ((be = 1 ∧ 0 < nB) ∨ (be = 0 ∧ nB = 0))) (hbe2 : be = 0 ∨ be = 1) (hpr3 : prs ln = prP ln (pB, nB, vB)) (hRL264 : reg br e1 e2 (va_up (va_up V 20 vB) 21 1)) , J l rm_M_parsed (0, 0) "NumberTowerModel" b_M_parsed 7 (Option.some Jvm.ClassFile.FieldType.int) D jCl (jTys g) A (fun _ me => me.name = y_M_parsed.name) (ji ad N (fun z F' => ∃ (hh' ll' f' : Nat → Int) (W : Nat → Nat), reg br hh' ll' W ∧ (∀ k, k ≠ 20 → k ≠ 21 → W k = V k) ∧ (∀ j, j ≠ 7 → j ≠ 19 → j ≠ 20 → f' j = f j) ∧ prsOut (prs ln) z (W 20) (W 21) ∧ f' 7 = (if chr ln 0 = 45 then (1 : Int) else 0) ∧ F' = va_up (va_up (va_up F 98 (oM ad f' v)) 99 (aB g hh')) 100 (aL g ll'))) ad N 0 0 264 [(0, .ref (ad 98)), (2, .int (iI be))] [] (va_up (va_up (va_up F 98 (oM ad (va_up (va_up (va_up f 19 (pB : Int)) 7 (if chr ln 0 = 45 then (1 : Int) else 0)) 20 (nB : Int)) v)) 99 (.inl (g 0, 858, .inl (aI e1)))) 100 (.inl (g 0, 33, .inl (aI e2)))) := by
          intro be e1 e2 hbe hbe2 hpr3 hRL264
          have hcbB := chr_b hch pB
          have hnbB : nB ≤ 41 := by have h9 := mdg_n (w := ln) (r := 10) 41 a 0 0; rw [hmB] at h9; simp only at h9; omega
          have hplB : pB ≤ ln.length := by have h9 := mdg_le (w := ln) (r := 10) 41 a 0 0 (by omega); rw [hmB] at h9; exact h9
          have lab288 : ∀ (p3 : Nat) (n3 : Nat) (v3 : Nat) (f20 : Int) (e1 : Nat → Int) (e2 : Nat → Int) (hpr4 : prs ln = prR ln nB (p3, n3, v3)) (hp3 : p3 ≤ 40) (hp3l : p3 ≤ ln.length) (hn3 : n3 ≤ 41) (hv3 : v3 < 16 ^ p3) (hRL288 : reg br e1 e2 (va_up (va_up V 20 v3) 21 1)) , J l rm_M_parsed (0, 0) "NumberTowerModel" b_M_parsed 7 (Option.some Jvm.ClassFile.FieldType.int) D jCl (jTys g) A (fun _ me => me.name = y_M_parsed.name) (ji ad N (fun z F' => ∃ (hh' ll' f' : Nat → Int) (W : Nat → Nat), reg br hh' ll' W ∧ (∀ k, k ≠ 20 → k ≠ 21 → W k = V k) ∧ (∀ j, j ≠ 7 → j ≠ 19 → j ≠ 20 → f' j = f j) ∧ prsOut (prs ln) z (W 20) (W 21) ∧ f' 7 = (if chr ln 0 = 45 then (1 : Int) else 0) ∧ F' = va_up (va_up (va_up F 98 (oM ad f' v)) 99 (aB g hh')) 100 (aL g ll'))) ad N 0 0 288 [(0, .ref (ad 98)), (2, .int (iI be)), (3, .int (iI (n3 : Int)))] [] (va_up (va_up (va_up F 98 (oM ad (va_up (va_up (va_up f 19 (p3 : Int)) 7 (if chr ln 0 = 45 then (1 : Int) else 0)) 20 f20) v)) 99 (.inl (g 0, 858, .inl (aI e1)))) 100 (.inl (g 0, 33, .inl (aI e2)))) := by
            intro p3 n3 v3 f20 e1 e2 hpr4 hp3 hp3l hn3 hv3 hRL288
            have hbe0 : be = 0 ∧ nB = 0 ∨ be = 1 ∧ 0 < nB := by rcases hbe with w | w; exact Or.inr w; exact Or.inl w
            clear hbe2
            have lab319 : ∀ (q5 : Nat) (e1 : Nat → Int) (e2 : Nat → Int) (hpr5 : prs ln = prE ln n3 v3 q5) (hq5 : q5 ≤ 41 ∧ q5 ≤ ln.length) (hRL319 : reg br e1 e2 (va_up (va_up V 20 v3) 21 1)) , J l rm_M_parsed (0, 0) "NumberTowerModel" b_M_parsed 7 (Option.some Jvm.ClassFile.FieldType.int) D jCl (jTys g) A (fun _ me => me.name = y_M_parsed.name) (ji ad N (fun z F' => ∃ (hh' ll' f' : Nat → Int) (W : Nat → Nat), reg br hh' ll' W ∧ (∀ k, k ≠ 20 → k ≠ 21 → W k = V k) ∧ (∀ j, j ≠ 7 → j ≠ 19 → j ≠ 20 → f' j = f j) ∧ prsOut (prs ln) z (W 20) (W 21) ∧ f' 7 = (if chr ln 0 = 45 then (1 : Int) else 0) ∧ F' = va_up (va_up (va_up F 98 (oM ad f' v)) 99 (aB g hh')) 100 (aL g ll'))) ad N 0 0 319 [(0, .ref (ad 98)), (2, .int (iI be)), (3, .int (iI (n3 : Int))), (4, .int (iI 0))] [] (va_up (va_up (va_up F 98 (oM ad (va_up (va_up (va_up f 19 (q5 : Int)) 7 (if chr ln 0 = 45 then (1 : Int) else 0)) 20 f20) v)) 99 (.inl (g 0, 858, .inl (aI e1)))) 100 (.inl (g 0, 33, .inl (aI e2)))) := by
              intro q5 e1 e2 hpr5 hq5 hRL319
              have hcb5 := chr_b hch q5
              have lab367 : ∀ (mi : Int) (q6 : Nat) (e1 : Nat → Int) (e2 : Nat → Int) (hmi : (mi = 1 ∧ chr ln q5 = 45) ∨ (mi = 0 ∧ chr ln q5 ≠ 45)) (hq6 : psq ln q5 = q6) (hq6b : q6 ≤ 42 ∧ q6 ≤ ln.length) (hRL367 : reg br e1 e2 (va_up (va_up V 20 v3) 21 1)) , J l rm_M_parsed (0, 0) "NumberTowerModel" b_M_parsed 7 (Option.some Jvm.ClassFile.FieldType.int) D jCl (jTys g) A (fun _ me => me.name = y_M_parsed.name) (ji ad N (fun z F' => ∃ (hh' ll' f' : Nat → Int) (W : Nat → Nat), reg br hh' ll' W ∧ (∀ k, k ≠ 20 → k ≠ 21 → W k = V k) ∧ (∀ j, j ≠ 7 → j ≠ 19 → j ≠ 20 → f' j = f j) ∧ prsOut (prs ln) z (W 20) (W 21) ∧ f' 7 = (if chr ln 0 = 45 then (1 : Int) else 0) ∧ F' = va_up (va_up (va_up F 98 (oM ad f' v)) 99 (aB g hh')) 100 (aL g ll'))) ad N 0 0 367 [(0, .ref (ad 98)), (2, .int (iI be)), (3, .int (iI (n3 : Int))), (4, .int (iI 0)), (5, .int (iI mi))] [] (va_up (va_up (va_up F 98 (oM ad (va_up (va_up (va_up f 19 (q6 : Int)) 7 (if chr ln 0 = 45 then (1 : Int) else 0)) 20 f20) v)) 99 (.inl (g 0, 858, .inl (aI e1)))) 100 (.inl (g 0, 33, .inl (aI e2)))) := by
                intro mi q6 e1 e2 hmi hq6 hq6b hRL367
                obtain ⟨⟨qe, te⟩, hten⟩ : ∃ x, ten3 ln 3 q6 0 = x := ⟨_, rfl⟩
                have hmib : mi = 0 ∨ mi = 1 := by rcases hmi with w | w; exact Or.inr w.1; exact Or.inl w.1
                replace hmi : hold _ := hmi
                refine J_aload_n 0 d_M_parsed_367 rfl rfl ?_
                refine gf_M_244 (by omega) (by rw [va_up_ne _ _ (by decide), va_up_ne _ _ (by decide), va_up_self]) rfl d_M_parsed_368 ?_
                refine J_topi (r := (q6 : Int)) (congrArg iI ((va_up_ne _ _ (by decide)).trans ((va_up_ne _ _ (by decide)).trans (va_up_self ..)))) ?_
                refine J_istore (lv' := [(6, .int (iI (q6 : Int))), (0, .ref (ad 98)), (2, .int (iI be)), (3, .int (iI (n3 : Int))), (4, .int (iI 0)), (5, .int (iI mi))]) d_M_parsed_371 (by decide) rfl ?_
                refine J_pick (lv' := [(0, .ref (ad 98)), (2, .int (iI be)), (3, .int (iI (n3 : Int))), (4, .int (iI 0)), (5, .int (iI mi)), (6, .int (iI (q6 : Int)))]) [1, 2, 3, 4, 5, 0] rfl ?_
                have loop373 : ∀ (fuel : Nat) (q : Nat) (t : Nat) (fu : Nat) (e1 : Nat → Int) (e2 : Nat → Int) (ht3 : ten3 ln fu q t = (qe, te)) (hqf : q + fu = q6 + 3) (htb : hold ((fu = 3 ∧ t = 0) ∨ (fu = 2 ∧ t < 10) ∨ (fu = 1 ∧ t < 100) ∨ (fu = 0 ∧ t < 1000))) (htc : t < 1000 ∧ fu ≤ 3) (hql : q ≤ ln.length) (hRL373 : reg br e1 e2 (va_up (va_up V 20 v3) 21 1)) (hfu : fu < fuel), J l rm_M_parsed (0, 0) "NumberTowerModel" b_M_parsed 7 (Option.some Jvm.ClassFile.FieldType.int) D jCl (jTys g) A (fun _ me => me.name = y_M_parsed.name) (ji ad N (fun z F' => ∃ (hh' ll' f' : Nat → Int) (W : Nat → Nat), reg br hh' ll' W ∧ (∀ k, k ≠ 20 → k ≠ 21 → W k = V k) ∧ (∀ j, j ≠ 7 → j ≠ 19 → j ≠ 20 → f' j = f j) ∧ prsOut (prs ln) z (W 20) (W 21) ∧ f' 7 = (if chr ln 0 = 45 then (1 : Int) else 0) ∧ F' = va_up (va_up (va_up F 98 (oM ad f' v)) 99 (aB g hh')) 100 (aL g ll'))) ad N 0 0 373 [(0, .ref (ad 98)), (2, .int (iI be)), (3, .int (iI (n3 : Int))), (4, .int (iI (t : Int))), (5, .int (iI mi)), (6, .int (iI (q6 : Int)))] [] (va_up (va_up (va_up F 98 (oM ad (va_up (va_up (va_up f 19 (q : Int)) 7 (if chr ln 0 = 45 then (1 : Int) else 0)) 20 f20) v)) 99 (.inl (g 0, 858, .inl (aI e1)))) 100 (.inl (g 0, 33, .inl (aI e2)))) := by
                  intro fuel
                  induction fuel with
                  | zero => intro q t fu e1 e2 ht3 hqf htb htc hql hRL373 hfu; exact absurd hfu (Nat.not_lt_zero _)
                  | succ fuel ih =>
                    intro q t fu e1 e2 ht3 hqf htb htc hql hRL373 hfu
                    have hcbq := chr_b hch q
                    have lab432 : ∀ (q : Nat) (t : Nat) (e1 : Nat → Int) (e2 : Nat → Int) (hqe : q = qe ∧ t = te) (hq8 : q ≤ 45 ∧ q6 ≤ q ∧ q ≤ ln.length) (htc : t < 1000) (hRL432 : reg br e1 e2 (va_up (va_up V 20 v3) 21 1)) , J l rm_M_parsed (0, 0) "NumberTowerModel" b_M_parsed 7 (Option.some Jvm.ClassFile.FieldType.int) D jCl (jTys g) A (fun _ me => me.name = y_M_parsed.name) (ji ad N (fun z F' => ∃ (hh' ll' f' : Nat → Int) (W : Nat → Nat), reg br hh' ll' W ∧ (∀ k, k ≠ 20 → k ≠ 21 → W k = V k) ∧ (∀ j, j ≠ 7 → j ≠ 19 → j ≠ 20 → f' j = f j) ∧ prsOut (prs ln) z (W 20) (W 21) ∧ f' 7 = (if chr ln 0 = 45 then (1 : Int) else 0) ∧ F' = va_up (va_up (va_up F 98 (oM ad f' v)) 99 (aB g hh')) 100 (aL g ll'))) ad N 0 0 432 [(0, .ref (ad 98)), (2, .int (iI be)), (3, .int (iI (n3 : Int))), (4, .int (iI (t : Int))), (5, .int (iI mi)), (6, .int (iI (q6 : Int)))] [] (va_up (va_up (va_up F 98 (oM ad (va_up (va_up (va_up f 19 (q : Int)) 7 (if chr ln 0 = 45 then (1 : Int) else 0)) 20 f20) v)) 99 (.inl (g 0, 858, .inl (aI e1)))) 100 (.inl (g 0, 33, .inl (aI e2)))) := by
                      intro q t e1 e2 hqe hq8 htc hRL432
                      obtain ⟨rfl, rfl⟩ := hqe
                      refine J_aload_n 0 d_M_parsed_432 rfl rfl ?_
                      refine gf_M_244 (by omega) (by rw [va_up_ne _ _ (by decide), va_up_ne _ _ (by decide), va_up_self]) rfl d_M_parsed_433 ?_
                      refine J_topi (r := (q : Int)) (congrArg iI ((va_up_ne _ _ (by decide)).trans ((va_up_ne _ _ (by decide)).trans (va_up_self ..)))) ?_
                      refine J_iload 5 d_M_parsed_436 rfl ?_
                      refine J_if_icmpne (tgt := 443) d_M_parsed_438 (by decide) ⟨by omega, by omega⟩ ⟨by omega, by omega⟩ (fun c438 => ?_) (fun c438 => ?_)
                      · refine J_iload 4 d_M_parsed_443 rfl ?_
                        refine J_ifeq (tgt := 454) d_M_parsed_445 (by decide) ⟨by omega, by omega⟩ (fun c445 => ?_) (fun c445 => ?_)
                        · refine J_iload 3 d_M_parsed_454 rfl ?_
                          refine J_istore (lv' := [(4, .int (iI (t : Int))), (0, .ref (ad 98)), (2, .int (iI be)), (3, .int (iI (n3 : Int))), (5, .int (iI mi)), (6, .int (iI (q6 : Int)))]) d_M_parsed_456 (by decide) rfl ?_
                          refine J_pick (lv' := [(0, .ref (ad 98)), (2, .int (iI be)), (3, .int (iI (n3 : Int))), (4, .int (iI (t : Int)))]) [1, 2, 3, 0] rfl ?_
                          have lab458 : ∀ (t6 : Int) (q7 : Nat) (e1 : Nat → Int) (e2 : Nat → Int) (hpr6 : prs ln = if q7 = ln.length then some (2, v3, 1, t6 - (n3 : Int)) else none) (hq7 : q7 ≤ 45 ∧ q7 ≤ ln.length) (ht6 : -1000 ≤ t6 ∧ t6 ≤ 1000) (hRL458 : reg br e1 e2 (va_up (va_up V 20 v3) 21 1)) , J l rm_M_parsed (0, 0) "NumberTowerModel" b_M_parsed 7 (Option.some Jvm.ClassFile.FieldType.int) D jCl (jTys g) A (fun _ me => me.name = y_M_parsed.name) (ji ad N (fun z F' => ∃ (hh' ll' f' : Nat → Int) (W : Nat → Nat), reg br hh' ll' W ∧ (∀ k, k ≠ 20 → k ≠ 21 → W k = V k) ∧ (∀ j, j ≠ 7 → j ≠ 19 → j ≠ 20 → f' j = f j) ∧ prsOut (prs ln) z (W 20) (W 21) ∧ f' 7 = (if chr ln 0 = 45 then (1 : Int) else 0) ∧ F' = va_up (va_up (va_up F 98 (oM ad f' v)) 99 (aB g hh')) 100 (aL g ll'))) ad N 0 0 458 [(0, .ref (ad 98)), (2, .int (iI be)), (3, .int (iI (n3 : Int))), (4, .int (iI t6))] [] (va_up (va_up (va_up F 98 (oM ad (va_up (va_up (va_up f 19 (q7 : Int)) 7 (if chr ln 0 = 45 then (1 : Int) else 0)) 20 f20) v)) 99 (.inl (g 0, 858, .inl (aI e1)))) 100 (.inl (g 0, 33, .inl (aI e2)))) := by
                            intro t6 q7 e1 e2 hpr6 hq7 ht6 hRL458
                            refine J_aload_n 0 d_M_parsed_458 rfl rfl ?_
                            refine gf_M_244 (by omega) (by rw [va_up_ne _ _ (by decide), va_up_ne _ _ (by decide), va_up_self]) rfl d_M_parsed_459 ?_
                            refine J_topi (r := (q7 : Int)) (congrArg iI ((va_up_ne _ _ (by decide)).trans ((va_up_ne _ _ (by decide)).trans (va_up_self ..)))) ?_
                            refine J_aload_n 0 d_M_parsed_462 rfl rfl ?_
                            refine gf_M_241 (by omega) (by rw [va_up_ne _ _ (by decide), va_up_ne _ _ (by decide), va_up_self]) rfl d_M_parsed_463 ?_
                            refine J_topi (r := (ln.length : Int)) (congrArg iI ((va_up_ne _ _ (by decide)).trans ((va_up_ne _ _ (by decide)).trans ((va_up_ne _ _ (by decide)).trans hf12)))) ?_
                            refine J_if_icmpge (tgt := 471) d_M_parsed_466 (by decide) ⟨by omega, by omega⟩ ⟨by omega, by omega⟩ (fun c466 => ?_) (fun c466 => ?_)
                            · refine J_iload 3 d_M_parsed_471 rfl ?_
                              refine J_iload_n 2 d_M_parsed_473 rfl rfl ?_
                              refine J_isub d_M_parsed_474 ?_
                              refine J_istore (lv' := [(4, .int (iI (t6 - (n3 : Int)))), (0, .ref (ad 98)), (2, .int (iI be)), (3, .int (iI (n3 : Int)))]) d_M_parsed_475 (by decide) rfl ?_
                              have lab503 : ∀ (tt : Int) (htt : tt = clm (t6 - (n3 : Int))) (htb : -110 ≤ tt ∧ tt ≤ 70) , J l rm_M_parsed (0, 0) "NumberTowerModel" b_M_parsed 7 (Option.some Jvm.ClassFile.FieldType.int) D jCl (jTys g) A (fun _ me => me.name = y_M_parsed.name) (ji ad N (fun z F' => ∃ (hh' ll' f' : Nat → Int) (W : Nat → Nat), reg br hh' ll' W ∧ (∀ k, k ≠ 20 → k ≠ 21 → W k = V k) ∧ (∀ j, j ≠ 7 → j ≠ 19 → j ≠ 20 → f' j = f j) ∧ prsOut (prs ln) z (W 20) (W 21) ∧ f' 7 = (if chr ln 0 = 45 then (1 : Int) else 0) ∧ F' = va_up (va_up (va_up F 98 (oM ad f' v)) 99 (aB g hh')) 100 (aL g ll'))) ad N 0 0 503 [(0, .ref (ad 98)), (2, .int (iI be)), (3, .int (iI (n3 : Int))), (4, .int (iI (t6 - (n3 : Int))))] [.int (iI tt)] (va_up (va_up (va_up F 98 (oM ad (va_up (va_up (va_up f 19 (q7 : Int)) 7 (if chr ln 0 = 45 then (1 : Int) else 0)) 20 f20) v)) 99 (.inl (g 0, 858, .inl (aI e1)))) 100 (.inl (g 0, 33, .inl (aI e2)))) := by
                                intro tt htt htb
                                refine J_istore (lv' := [(4, .int (iI tt)), (0, .ref (ad 98)), (2, .int (iI be)), (3, .int (iI (n3 : Int)))]) d_M_parsed_503 (by decide) rfl ?_
                                refine J_iload 0 d_M_parsed_505 rfl ?_
                                refine J_ifle (tgt := 521) d_M_parsed_507 (by decide) ⟨by omega, by omega⟩ (fun c507 => ?_) (fun c507 => ?_)
                                · refine J_aload_n 1 d_M_parsed_521 rfl rfl ?_
                                  refine J_bipush d_M_parsed_522 (i8_ok (by decide)) ?_
                                  refine J_iload 0 d_M_parsed_524 rfl ?_
                                  refine J_ineg d_M_parsed_526 ?_
                                  refine J_callVv cw_M_208 nh_M_tens pn_M_tens rfl rfl (by omega) (by rw [va_up_ne _ _ (by decide), va_up_ne _ _ (by decide), va_up_self]) (As := [.int (iI 21), .int (iI (-tt))]) (rest := []) rfl (Nat.le_of_ble_eq_true rfl) ⟨by decide, by decide⟩ rfl ⟨by decide, by decide⟩ d_M_parsed_527 (k_M_tens hfl (a := 21) (n := -tt) (hh := e1) (ll := e2) (V := va_up (va_up V 20 v3) 21 1) (br := br) (hN := hN) (hO := (by rw [va_up_ne _ _ (by decide), va_up_ne _ _ (by decide), va_up_self])) (hB := (by rw [va_up_ne _ _ (by decide), va_up_self])) (hL := (by rw [va_up_self])) (hR := hRL458) (ha := by omega) (hxa := (va_up_self ..)) (bra := (hzz.2 21 (by decide) (by decide))) (hn := ⟨by omega, by omega⟩) (hT := t110 (by omega))) (fun  F3 hq => ?_)
                                  obtain ⟨bh12, bl13, hR14, eF3⟩ := hq
                                  refine J_eqF (F2 := va_up (va_up (va_up F 98 (oM ad (va_up (va_up (va_up f 19 (q7 : Int)) 7 (if chr ln 0 = 45 then (1 : Int) else 0)) 20 f20) v)) 99 (.inl (g 0, 858, .inl (aI bh12)))) 100 (.inl (g 0, 33, .inl (aI bl13)))) (eF3.trans (Eq.trans (congrArg (fun q : Nat → va_E => va_up q 100 (.inl (g 0, 33, .inl (aI bl13)))) (up_in1 (by decide))) (up_in0))) ?_
                                  have hR17 := reg_w1 (hzz.1 _) hR14
                                  have hR18 := (congrArg (fun qq : Nat → Nat => reg _ _ _ (qq)) (up_in0)).mp hR17
                                  refine J_iconst d_M_parsed_530 ?_
                                  refine J_iret rfl rfl d_M_parsed_531 ⟨by decide, by decide⟩ ?_
                                  refine ⟨_, rfl, rfl, rfl, _, _, _, _, hR18, (fun k h1 h2 => (show (va_up (va_up V 20 v3) 21 (1 * 10 ^ ((-tt).toNat))) k = V k from by rw [va_up_ne _ _ (by omega), va_up_ne _ _ (by omega)])), (fun j h1 h2 h3 => (show (va_up (va_up (va_up f 19 (q7 : Int)) 7 (if chr ln 0 = 45 then (1 : Int) else 0)) 20 f20) j = f j from by rw [va_up_ne _ _ (by omega), va_up_ne _ _ (by omega), va_up_ne _ _ (by omega)])), ?_, ((va_up_ne _ _ (by decide)).trans (va_up_self ..)), rfl⟩
                                  rw [show (va_up (va_up V 20 v3) 21 (1 * 10 ^ ((-tt).toNat))) 20 = v3 from ((va_up_ne _ _ (by decide)).trans (va_up_self ..)), show (va_up (va_up V 20 v3) 21 (1 * 10 ^ ((-tt).toNat))) 21 = 1 * 10 ^ ((-tt).toNat) from (va_up_self ..)]
                                  refine Or.inr ⟨2, v3, 1, t6 - (n3 : Int), hpr6.trans (if_pos (by omega)), rfl, ⟨by decide, by decide⟩, ?_, ?_, Nat.lt_of_lt_of_le hv3 (Nat.pow_le_pow_right (by decide) hp3), by decide, fun w => absurd rfl w, fun _ => rfl⟩
                                  · rw [← htt, show tt.toNat = 0 by omega, Nat.pow_zero, Nat.mul_one]
                                  · rw [← htt]
                                · refine J_aload_n 1 d_M_parsed_510 rfl rfl ?_
                                  refine J_bipush d_M_parsed_511 (i8_ok (by decide)) ?_
                                  refine J_iload 0 d_M_parsed_513 rfl ?_
                                  refine J_callVv cw_M_208 nh_M_tens pn_M_tens rfl rfl (by omega) (by rw [va_up_ne _ _ (by decide), va_up_ne _ _ (by decide), va_up_self]) (As := [.int (iI 20), .int (iI tt)]) (rest := []) rfl (Nat.le_of_ble_eq_true rfl) ⟨by decide, by decide⟩ rfl ⟨by decide, by decide⟩ d_M_parsed_515 (k_M_tens hfl (a := 20) (n := tt) (hh := e1) (ll := e2) (V := va_up (va_up V 20 v3) 21 1) (br := br) (hN := hN) (hO := (by rw [va_up_ne _ _ (by decide), va_up_ne _ _ (by decide), va_up_self])) (hB := (by rw [va_up_ne _ _ (by decide), va_up_self])) (hL := (by rw [va_up_self])) (hR := hRL458) (ha := by omega) (hxa := ((va_up_ne _ _ (by decide)).trans (va_up_self ..))) (bra := (hzz.2 20 (by decide) (by decide))) (hn := ⟨by omega, by omega⟩) (hT := t70 hv3 hp3 (by omega))) (fun  F4 hq => ?_)
                                  obtain ⟨bh19, bl20, hR21, eF4⟩ := hq
                                  refine J_eqF (F2 := va_up (va_up (va_up F 98 (oM ad (va_up (va_up (va_up f 19 (q7 : Int)) 7 (if chr ln 0 = 45 then (1 : Int) else 0)) 20 f20) v)) 99 (.inl (g 0, 858, .inl (aI bh19)))) 100 (.inl (g 0, 33, .inl (aI bl20)))) (eF4.trans (Eq.trans (congrArg (fun q : Nat → va_E => va_up q 100 (.inl (g 0, 33, .inl (aI bl20)))) (up_in1 (by decide))) (up_in0))) ?_
                                  have hR24 := reg_w1 (hzz.1 _) hR21
                                  have hR25 := (congrArg (fun qq : Nat → Nat => reg _ _ _ (qq)) (up_in1 (by decide))).mp hR24
                                  refine J_goto (tgt := 530) d_M_parsed_518 (by decide) ?_
                                  refine J_iconst d_M_parsed_530 ?_
                                  refine J_iret rfl rfl d_M_parsed_531 ⟨by decide, by decide⟩ ?_
                                  refine ⟨_, rfl, rfl, rfl, _, _, _, _, hR25, (fun k h1 h2 => (show (va_up (va_up V 20 (v3 * 10 ^ tt.toNat)) 21 1) k = V k from by rw [va_up_ne _ _ (by omega), va_up_ne _ _ (by omega)])), (fun j h1 h2 h3 => (show (va_up (va_up (va_up f 19 (q7 : Int)) 7 (if chr ln 0 = 45 then (1 : Int) else 0)) 20 f20) j = f j from by rw [va_up_ne _ _ (by omega), va_up_ne _ _ (by omega), va_up_ne _ _ (by omega)])), ?_, ((va_up_ne _ _ (by decide)).trans (va_up_self ..)), rfl⟩
                                  rw [show (va_up (va_up V 20 (v3 * 10 ^ tt.toNat)) 21 1) 20 = v3 * 10 ^ tt.toNat from ((va_up_ne _ _ (by decide)).trans (va_up_self ..)), show (va_up (va_up V 20 (v3 * 10 ^ tt.toNat)) 21 1) 21 = 1 from (va_up_self ..)]
                                  refine Or.inr ⟨2, v3, 1, t6 - (n3 : Int), hpr6.trans (if_pos (by omega)), rfl, ⟨by decide, by decide⟩, ?_, ?_, Nat.lt_of_lt_of_le hv3 (Nat.pow_le_pow_right (by decide) hp3), by decide, fun w => absurd rfl w, fun _ => rfl⟩
                                  · rw [← htt]
                                  · rw [← htt, show (-tt).toNat = 0 by omega]
                              refine J_iload 0 d_M_parsed_477 rfl ?_
                              refine J_bipush d_M_parsed_479 (i8_ok (by decide)) ?_
                              refine J_if_icmple (tgt := 489) d_M_parsed_481 (by decide) ⟨by omega, by omega⟩ ⟨by omega, by omega⟩ (fun c481 => ?_) (fun c481 => ?_)
                              · refine J_iload 0 d_M_parsed_489 rfl ?_
                                refine J_bipush d_M_parsed_491 (i8_ok (by decide)) ?_
                                refine J_if_icmpge (tgt := 501) d_M_parsed_493 (by decide) ⟨by omega, by omega⟩ ⟨by omega, by omega⟩ (fun c493 => ?_) (fun c493 => ?_)
                                · refine J_iload 0 d_M_parsed_501 rfl ?_
                                  refine J_pick (lv' := [(0, .ref (ad 98)), (2, .int (iI be)), (3, .int (iI (n3 : Int))), (4, .int (iI (t6 - (n3 : Int))))]) [1, 2, 3, 0] rfl ?_
                                  exact lab503 (t6 - (n3 : Int)) (by unfold clm; rw [if_neg (by omega), if_neg (by omega)]) (by omega)
                                · refine J_bipush d_M_parsed_496 (i8_ok (by decide)) ?_
                                  refine J_goto (tgt := 503) d_M_parsed_498 (by decide) ?_
                                  refine J_pick (lv' := [(0, .ref (ad 98)), (2, .int (iI be)), (3, .int (iI (n3 : Int))), (4, .int (iI (t6 - (n3 : Int))))]) [1, 2, 3, 0] rfl ?_
                                  exact lab503 (-110 : Int) (by unfold clm; rw [if_neg (by omega), if_pos (by omega)]) (by omega)
                              · refine J_bipush d_M_parsed_484 (i8_ok (by decide)) ?_
                                refine J_goto (tgt := 503) d_M_parsed_486 (by decide) ?_
                                refine J_pick (lv' := [(0, .ref (ad 98)), (2, .int (iI be)), (3, .int (iI (n3 : Int))), (4, .int (iI (t6 - (n3 : Int))))]) [1, 2, 3, 0] rfl ?_
                                exact lab503 (70 : Int) (by unfold clm; rw [if_pos (by omega)]) (by omega)
                            · refine J_iconst d_M_parsed_469 ?_
                              refine J_iret rfl rfl d_M_parsed_470 ⟨by decide, by decide⟩ ?_
                              refine ⟨_, rfl, rfl, rfl, _, _, _, _, hRL458, (fun k h1 h2 => (show (va_up (va_up V 20 v3) 21 1) k = V k from by rw [va_up_ne _ _ (by omega), va_up_ne _ _ (by omega)])), (fun j h1 h2 h3 => (show (va_up (va_up (va_up f 19 (q7 : Int)) 7 (if chr ln 0 = 45 then (1 : Int) else 0)) 20 f20) j = f j from by rw [va_up_ne _ _ (by omega), va_up_ne _ _ (by omega), va_up_ne _ _ (by omega)])), ?_, ((va_up_ne _ _ (by decide)).trans (va_up_self ..)), rfl⟩
                              rw [show (va_up (va_up V 20 v3) 21 1) 20 = v3 from ((va_up_ne _ _ (by decide)).trans (va_up_self ..)), show (va_up (va_up V 20 v3) 21 1) 21 = 1 from (va_up_self ..)]
                              exact Or.inl ⟨hpr6.trans (if_neg (by omega)), rfl⟩
                          refine lab458 (t : Int) q e1 e2 ?_ (by omega) (by omega) hRL432
                          · refine hpr5.trans ((prE_x hq6 hten).trans ((if_neg (by omega)).trans ?_))
                            rw [if_neg (show ¬ chr ln q5 = 45 by rcases hmi with w | w <;> omega)]
                        · refine J_iload 3 d_M_parsed_448 rfl ?_
                          refine J_ineg d_M_parsed_450 ?_
                          refine J_goto (tgt := 456) d_M_parsed_451 (by decide) ?_
                          refine J_istore (lv' := [(4, .int (iI (-(t : Int)))), (0, .ref (ad 98)), (2, .int (iI be)), (3, .int (iI (n3 : Int))), (5, .int (iI mi)), (6, .int (iI (q6 : Int)))]) d_M_parsed_456 (by decide) rfl ?_
                          refine J_pick (lv' := [(0, .ref (ad 98)), (2, .int (iI be)), (3, .int (iI (n3 : Int))), (4, .int (iI (-(t : Int))))]) [1, 2, 3, 0] rfl ?_
                          have lab458 : ∀ (t6 : Int) (q7 : Nat) (e1 : Nat → Int) (e2 : Nat → Int) (hpr6 : prs ln = if q7 = ln.length then some (2, v3, 1, t6 - (n3 : Int)) else none) (hq7 : q7 ≤ 45 ∧ q7 ≤ ln.length) (ht6 : -1000 ≤ t6 ∧ t6 ≤ 1000) (hRL458 : reg br e1 e2 (va_up (va_up V 20 v3) 21 1)) , J l rm_M_parsed (0, 0) "NumberTowerModel" b_M_parsed 7 (Option.some Jvm.ClassFile.FieldType.int) D jCl (jTys g) A (fun _ me => me.name = y_M_parsed.name) (ji ad N (fun z F' => ∃ (hh' ll' f' : Nat → Int) (W : Nat → Nat), reg br hh' ll' W ∧ (∀ k, k ≠ 20 → k ≠ 21 → W k = V k) ∧ (∀ j, j ≠ 7 → j ≠ 19 → j ≠ 20 → f' j = f j) ∧ prsOut (prs ln) z (W 20) (W 21) ∧ f' 7 = (if chr ln 0 = 45 then (1 : Int) else 0) ∧ F' = va_up (va_up (va_up F 98 (oM ad f' v)) 99 (aB g hh')) 100 (aL g ll'))) ad N 0 0 458 [(0, .ref (ad 98)), (2, .int (iI be)), (3, .int (iI (n3 : Int))), (4, .int (iI t6))] [] (va_up (va_up (va_up F 98 (oM ad (va_up (va_up (va_up f 19 (q7 : Int)) 7 (if chr ln 0 = 45 then (1 : Int) else 0)) 20 f20) v)) 99 (.inl (g 0, 858, .inl (aI e1)))) 100 (.inl (g 0, 33, .inl (aI e2)))) := by
                            intro t6 q7 e1 e2 hpr6 hq7 ht6 hRL458
                            refine J_aload_n 0 d_M_parsed_458 rfl rfl ?_
                            refine gf_M_244 (by omega) (by rw [va_up_ne _ _ (by decide), va_up_ne _ _ (by decide), va_up_self]) rfl d_M_parsed_459 ?_
                            refine J_topi (r := (q7 : Int)) (congrArg iI ((va_up_ne _ _ (by decide)).trans ((va_up_ne _ _ (by decide)).trans (va_up_self ..)))) ?_
                            refine J_aload_n 0 d_M_parsed_462 rfl rfl ?_
                            refine gf_M_241 (by omega) (by rw [va_up_ne _ _ (by decide), va_up_ne _ _ (by decide), va_up_self]) rfl d_M_parsed_463 ?_
                            refine J_topi (r := (ln.length : Int)) (congrArg iI ((va_up_ne _ _ (by decide)).trans ((va_up_ne _ _ (by decide)).trans ((va_up_ne _ _ (by decide)).trans hf12)))) ?_
                            refine J_if_icmpge (tgt := 471) d_M_parsed_466 (by decide) ⟨by omega, by omega⟩ ⟨by omega, by omega⟩ (fun c466 => ?_) (fun c466 => ?_)
                            · refine J_iload 3 d_M_parsed_471 rfl ?_
                              refine J_iload_n 2 d_M_parsed_473 rfl rfl ?_
                              refine J_isub d_M_parsed_474 ?_
                              refine J_istore (lv' := [(4, .int (iI (t6 - (n3 : Int)))), (0, .ref (ad 98)), (2, .int (iI be)), (3, .int (iI (n3 : Int)))]) d_M_parsed_475 (by decide) rfl ?_
                              have lab503 : ∀ (tt : Int) (htt : tt = clm (t6 - (n3 : Int))) (htb : -110 ≤ tt ∧ tt ≤ 70) , J l rm_M_parsed (0, 0) "NumberTowerModel" b_M_parsed 7 (Option.some Jvm.ClassFile.FieldType.int) D jCl (jTys g) A (fun _ me => me.name = y_M_parsed.name) (ji ad N (fun z F' => ∃ (hh' ll' f' : Nat → Int) (W : Nat → Nat), reg br hh' ll' W ∧ (∀ k, k ≠ 20 → k ≠ 21 → W k = V k) ∧ (∀ j, j ≠ 7 → j ≠ 19 → j ≠ 20 → f' j = f j) ∧ prsOut (prs ln) z (W 20) (W 21) ∧ f' 7 = (if chr ln 0 = 45 then (1 : Int) else 0) ∧ F' = va_up (va_up (va_up F 98 (oM ad f' v)) 99 (aB g hh')) 100 (aL g ll'))) ad N 0 0 503 [(0, .ref (ad 98)), (2, .int (iI be)), (3, .int (iI (n3 : Int))), (4, .int (iI (t6 - (n3 : Int))))] [.int (iI tt)] (va_up (va_up (va_up F 98 (oM ad (va_up (va_up (va_up f 19 (q7 : Int)) 7 (if chr ln 0 = 45 then (1 : Int) else 0)) 20 f20) v)) 99 (.inl (g 0, 858, .inl (aI e1)))) 100 (.inl (g 0, 33, .inl (aI e2)))) := by
                                intro tt htt htb
                                refine J_istore (lv' := [(4, .int (iI tt)), (0, .ref (ad 98)), (2, .int (iI be)), (3, .int (iI (n3 : Int)))]) d_M_parsed_503 (by decide) rfl ?_
                                refine J_iload 0 d_M_parsed_505 rfl ?_
                                refine J_ifle (tgt := 521) d_M_parsed_507 (by decide) ⟨by omega, by omega⟩ (fun c507 => ?_) (fun c507 => ?_)
                                · refine J_aload_n 1 d_M_parsed_521 rfl rfl ?_
                                  refine J_bipush d_M_parsed_522 (i8_ok (by decide)) ?_
                                  refine J_iload 0 d_M_parsed_524 rfl ?_
                                  refine J_ineg d_M_parsed_526 ?_
                                  refine J_callVv cw_M_208 nh_M_tens pn_M_tens rfl rfl (by omega) (by rw [va_up_ne _ _ (by decide), va_up_ne _ _ (by decide), va_up_self]) (As := [.int (iI 21), .int (iI (-tt))]) (rest := []) rfl (Nat.le_of_ble_eq_true rfl) ⟨by decide, by decide⟩ rfl ⟨by decide, by decide⟩ d_M_parsed_527 (k_M_tens hfl (a := 21) (n := -tt) (hh := e1) (ll := e2) (V := va_up (va_up V 20 v3) 21 1) (br := br) (hN := hN) (hO := (by rw [va_up_ne _ _ (by decide), va_up_ne _ _ (by decide), va_up_self])) (hB := (by rw [va_up_ne _ _ (by decide), va_up_self])) (hL := (by rw [va_up_self])) (hR := hRL458) (ha := by omega) (hxa := (va_up_self ..)) (bra := (hzz.2 21 (by decide) (by decide))) (hn := ⟨by omega, by omega⟩) (hT := t110 (by omega))) (fun  F5 hq => ?_)
                                  obtain ⟨bh26, bl27, hR28, eF5⟩ := hq
                                  refine J_eqF (F2 := va_up (va_up (va_up F 98 (oM ad (va_up (va_up (va_up f 19 (q7 : Int)) 7 (if chr ln 0 = 45 then (1 : Int) else 0)) 20 f20) v)) 99 (.inl (g 0, 858, .inl (aI bh26)))) 100 (.inl (g 0, 33, .inl (aI bl27)))) (eF5.trans (Eq.trans (congrArg (fun q : Nat → va_E => va_up q 100 (.inl (g 0, 33, .inl (aI bl27)))) (up_in1 (by decide))) (up_in0))) ?_
                                  have hR31 := reg_w1 (hzz.1 _) hR28
                                  have hR32 := (congrArg (fun qq : Nat → Nat => reg _ _ _ (qq)) (up_in0)).mp hR31
                                  refine J_iconst d_M_parsed_530 ?_
                                  refine J_iret rfl rfl d_M_parsed_531 ⟨by decide, by decide⟩ ?_
                                  refine ⟨_, rfl, rfl, rfl, _, _, _, _, hR32, (fun k h1 h2 => (show (va_up (va_up V 20 v3) 21 (1 * 10 ^ ((-tt).toNat))) k = V k from by rw [va_up_ne _ _ (by omega), va_up_ne _ _ (by omega)])), (fun j h1 h2 h3 => (show (va_up (va_up (va_up f 19 (q7 : Int)) 7 (if chr ln 0 = 45 then (1 : Int) else 0)) 20 f20) j = f j from by rw [va_up_ne _ _ (by omega), va_up_ne _ _ (by omega), va_up_ne _ _ (by omega)])), ?_, ((va_up_ne _ _ (by decide)).trans (va_up_self ..)), rfl⟩
                                  rw [show (va_up (va_up V 20 v3) 21 (1 * 10 ^ ((-tt).toNat))) 20 = v3 from ((va_up_ne _ _ (by decide)).trans (va_up_self ..)), show (va_up (va_up V 20 v3) 21 (1 * 10 ^ ((-tt).toNat))) 21 = 1 * 10 ^ ((-tt).toNat) from (va_up_self ..)]
                                  refine Or.inr ⟨2, v3, 1, t6 - (n3 : Int), hpr6.trans (if_pos (by omega)), rfl, ⟨by decide, by decide⟩, ?_, ?_, Nat.lt_of_lt_of_le hv3 (Nat.pow_le_pow_right (by decide) hp3), by decide, fun w => absurd rfl w, fun _ => rfl⟩
                                  · rw [← htt, show tt.toNat = 0 by omega, Nat.pow_zero, Nat.mul_one]
                                  · rw [← htt]
                                · refine J_aload_n 1 d_M_parsed_510 rfl rfl ?_
                                  refine J_bipush d_M_parsed_511 (i8_ok (by decide)) ?_
                                  refine J_iload 0 d_M_parsed_513 rfl ?_
                                  refine J_callVv cw_M_208 nh_M_tens pn_M_tens rfl rfl (by omega) (by rw [va_up_ne _ _ (by decide), va_up_ne _ _ (by decide), va_up_self]) (As := [.int (iI 20), .int (iI tt)]) (rest := []) rfl (Nat.le_of_ble_eq_true rfl) ⟨by decide, by decide⟩ rfl ⟨by decide, by decide⟩ d_M_parsed_515 (k_M_tens hfl (a := 20) (n := tt) (hh := e1) (ll := e2) (V := va_up (va_up V 20 v3) 21 1) (br := br) (hN := hN) (hO := (by rw [va_up_ne _ _ (by decide), va_up_ne _ _ (by decide), va_up_self])) (hB := (by rw [va_up_ne _ _ (by decide), va_up_self])) (hL := (by rw [va_up_self])) (hR := hRL458) (ha := by omega) (hxa := ((va_up_ne _ _ (by decide)).trans (va_up_self ..))) (bra := (hzz.2 20 (by decide) (by decide))) (hn := ⟨by omega, by omega⟩) (hT := t70 hv3 hp3 (by omega))) (fun  F6 hq => ?_)
                                  obtain ⟨bh33, bl34, hR35, eF6⟩ := hq
                                  refine J_eqF (F2 := va_up (va_up (va_up F 98 (oM ad (va_up (va_up (va_up f 19 (q7 : Int)) 7 (if chr ln 0 = 45 then (1 : Int) else 0)) 20 f20) v)) 99 (.inl (g 0, 858, .inl (aI bh33)))) 100 (.inl (g 0, 33, .inl (aI bl34)))) (eF6.trans (Eq.trans (congrArg (fun q : Nat → va_E => va_up q 100 (.inl (g 0, 33, .inl (aI bl34)))) (up_in1 (by decide))) (up_in0))) ?_
                                  have hR38 := reg_w1 (hzz.1 _) hR35
                                  have hR39 := (congrArg (fun qq : Nat → Nat => reg _ _ _ (qq)) (up_in1 (by decide))).mp hR38
                                  refine J_goto (tgt := 530) d_M_parsed_518 (by decide) ?_
                                  refine J_iconst d_M_parsed_530 ?_
                                  refine J_iret rfl rfl d_M_parsed_531 ⟨by decide, by decide⟩ ?_
                                  refine ⟨_, rfl, rfl, rfl, _, _, _, _, hR39, (fun k h1 h2 => (show (va_up (va_up V 20 (v3 * 10 ^ tt.toNat)) 21 1) k = V k from by rw [va_up_ne _ _ (by omega), va_up_ne _ _ (by omega)])), (fun j h1 h2 h3 => (show (va_up (va_up (va_up f 19 (q7 : Int)) 7 (if chr ln 0 = 45 then (1 : Int) else 0)) 20 f20) j = f j from by rw [va_up_ne _ _ (by omega), va_up_ne _ _ (by omega), va_up_ne _ _ (by omega)])), ?_, ((va_up_ne _ _ (by decide)).trans (va_up_self ..)), rfl⟩
                                  rw [show (va_up (va_up V 20 (v3 * 10 ^ tt.toNat)) 21 1) 20 = v3 * 10 ^ tt.toNat from ((va_up_ne _ _ (by decide)).trans (va_up_self ..)), show (va_up (va_up V 20 (v3 * 10 ^ tt.toNat)) 21 1) 21 = 1 from (va_up_self ..)]
                                  refine Or.inr ⟨2, v3, 1, t6 - (n3 : Int), hpr6.trans (if_pos (by omega)), rfl, ⟨by decide, by decide⟩, ?_, ?_, Nat.lt_of_lt_of_le hv3 (Nat.pow_le_pow_right (by decide) hp3), by decide, fun w => absurd rfl w, fun _ => rfl⟩
                                  · rw [← htt]
                                  · rw [← htt, show (-tt).toNat = 0 by omega]
                              refine J_iload 0 d_M_parsed_477 rfl ?_
                              refine J_bipush d_M_parsed_479 (i8_ok (by decide)) ?_
                              refine J_if_icmple (tgt := 489) d_M_parsed_481 (by decide) ⟨by omega, by omega⟩ ⟨by omega, by omega⟩ (fun c481 => ?_) (fun c481 => ?_)
                              · refine J_iload 0 d_M_parsed_489 rfl ?_
                                refine J_bipush d_M_parsed_491 (i8_ok (by decide)) ?_
                                refine J_if_icmpge (tgt := 501) d_M_parsed_493 (by decide) ⟨by omega, by omega⟩ ⟨by omega, by omega⟩ (fun c493 => ?_) (fun c493 => ?_)
                                · refine J_iload 0 d_M_parsed_501 rfl ?_
                                  refine J_pick (lv' := [(0, .ref (ad 98)), (2, .int (iI be)), (3, .int (iI (n3 : Int))), (4, .int (iI (t6 - (n3 : Int))))]) [1, 2, 3, 0] rfl ?_
                                  exact lab503 (t6 - (n3 : Int)) (by unfold clm; rw [if_neg (by omega), if_neg (by omega)]) (by omega)
                                · refine J_bipush d_M_parsed_496 (i8_ok (by decide)) ?_
                                  refine J_goto (tgt := 503) d_M_parsed_498 (by decide) ?_
                                  refine J_pick (lv' := [(0, .ref (ad 98)), (2, .int (iI be)), (3, .int (iI (n3 : Int))), (4, .int (iI (t6 - (n3 : Int))))]) [1, 2, 3, 0] rfl ?_
                                  exact lab503 (-110 : Int) (by unfold clm; rw [if_neg (by omega), if_pos (by omega)]) (by omega)
                              · refine J_bipush d_M_parsed_484 (i8_ok (by decide)) ?_
                                refine J_goto (tgt := 503) d_M_parsed_486 (by decide) ?_
                                refine J_pick (lv' := [(0, .ref (ad 98)), (2, .int (iI be)), (3, .int (iI (n3 : Int))), (4, .int (iI (t6 - (n3 : Int))))]) [1, 2, 3, 0] rfl ?_
                                exact lab503 (70 : Int) (by unfold clm; rw [if_pos (by omega)]) (by omega)
                            · refine J_iconst d_M_parsed_469 ?_
                              refine J_iret rfl rfl d_M_parsed_470 ⟨by decide, by decide⟩ ?_
                              refine ⟨_, rfl, rfl, rfl, _, _, _, _, hRL458, (fun k h1 h2 => (show (va_up (va_up V 20 v3) 21 1) k = V k from by rw [va_up_ne _ _ (by omega), va_up_ne _ _ (by omega)])), (fun j h1 h2 h3 => (show (va_up (va_up (va_up f 19 (q7 : Int)) 7 (if chr ln 0 = 45 then (1 : Int) else 0)) 20 f20) j = f j from by rw [va_up_ne _ _ (by omega), va_up_ne _ _ (by omega), va_up_ne _ _ (by omega)])), ?_, ((va_up_ne _ _ (by decide)).trans (va_up_self ..)), rfl⟩
                              rw [show (va_up (va_up V 20 v3) 21 1) 20 = v3 from ((va_up_ne _ _ (by decide)).trans (va_up_self ..)), show (va_up (va_up V 20 v3) 21 1) 21 = 1 from (va_up_self ..)]
                              exact Or.inl ⟨hpr6.trans (if_neg (by omega)), rfl⟩
                          refine lab458 (-(t : Int)) q e1 e2 ?_ (by omega) (by omega) hRL432
                          · refine hpr5.trans ((prE_x hq6 hten).trans ((if_neg (by omega)).trans ?_))
                            rw [if_pos (show chr ln q5 = 45 by rcases hmi with w | w <;> omega)]
                      · refine J_iconst d_M_parsed_441 ?_
                        refine J_iret rfl rfl d_M_parsed_442 ⟨by decide, by decide⟩ ?_
                        refine ⟨_, rfl, rfl, rfl, _, _, _, _, hRL432, (fun k h1 h2 => (show (va_up (va_up V 20 v3) 21 1) k = V k from by rw [va_up_ne _ _ (by omega), va_up_ne _ _ (by omega)])), (fun j h1 h2 h3 => (show (va_up (va_up (va_up f 19 (q : Int)) 7 (if chr ln 0 = 45 then (1 : Int) else 0)) 20 f20) j = f j from by rw [va_up_ne _ _ (by omega), va_up_ne _ _ (by omega), va_up_ne _ _ (by omega)])), ?_, ((va_up_ne _ _ (by decide)).trans (va_up_self ..)), rfl⟩
                        rw [show (va_up (va_up V 20 v3) 21 1) 20 = v3 from ((va_up_ne _ _ (by decide)).trans (va_up_self ..)), show (va_up (va_up V 20 v3) 21 1) 21 = 1 from (va_up_self ..)]
                        exact Or.inl ⟨hpr5.trans ((prE_x hq6 hten).trans (if_pos (by omega))), rfl⟩
                    refine J_aload_n 0 d_M_parsed_373 rfl rfl ?_
                    refine gf_M_244 (by omega) (by rw [va_up_ne _ _ (by decide), va_up_ne _ _ (by decide), va_up_self]) rfl d_M_parsed_374 ?_
                    refine J_topi (r := (q : Int)) (congrArg iI ((va_up_ne _ _ (by decide)).trans ((va_up_ne _ _ (by decide)).trans (va_up_self ..)))) ?_
                    refine J_iload 5 d_M_parsed_377 rfl ?_
                    refine J_iconst d_M_parsed_379 ?_
                    refine J_iadd d_M_parsed_380 ?_
                    refine J_if_icmpge (tgt := 432) d_M_parsed_381 (by decide) ⟨by omega, by omega⟩ ⟨by omega, by omega⟩ (fun c381 => ?_) (fun c381 => ?_)
                    · refine lab432 q t e1 e2 ?_ (by omega) (by omega) hRL373
                      · have h8 := ht3
                        rw [show fu = 0 by omega] at h8
                        injection h8 with h9 h10
                        exact ⟨h9, h10⟩
                    · refine J_aload_n 0 d_M_parsed_384 rfl rfl ?_
                      refine J_aload_n 0 d_M_parsed_385 rfl rfl ?_
                      refine gf_M_244 (by omega) (by rw [va_up_ne _ _ (by decide), va_up_ne _ _ (by decide), va_up_self]) rfl d_M_parsed_386 ?_
                      refine J_topi (r := (q : Int)) (congrArg iI ((va_up_ne _ _ (by decide)).trans ((va_up_ne _ _ (by decide)).trans (va_up_self ..)))) ?_
                      refine J_callVi cw_M_247 nh_M_here pn_M_here rfl rfl (by omega) (by rw [va_up_ne _ _ (by decide), va_up_ne _ _ (by decide), va_up_self]) (As := [.int (iI (q : Int))]) (rest := []) rfl (Nat.le_of_ble_eq_true rfl) ⟨by decide, by decide⟩ rfl ⟨by decide, by decide⟩ d_M_parsed_389 (c_M_here hfl (f := va_up (va_up (va_up f 19 (q : Int)) 7 (if chr ln 0 = 45 then (1 : Int) else 0)) 20 f20) (v := v) (lh := lh) (ln := ln) (k := q) hN (by rw [va_up_ne _ _ (by decide), va_up_ne _ _ (by decide), va_up_self]) (by rw [va_up_ne _ _ (by decide), va_up_ne _ _ (by decide), va_up_ne _ _ (by decide)]; exact h104) hml ((va_up_ne _ _ (by decide)).trans ((va_up_ne _ _ (by decide)).trans ((va_up_ne _ _ (by decide)).trans hf12))) hl40 hch (by omega)) (fun z40 F7 hq => ?_)
                      obtain ⟨hz40, eF7⟩ := hq
                      refine J_eqF eF7 ?_
                      refine J_topi (r := (((chr ln q : Nat)) : Int)) (congrArg iI hz40) ?_
                      refine J_bipush d_M_parsed_392 (i8_ok (by decide)) ?_
                      have hcbz41 := chr_b hch (q)
                      refine J_callSi cw_M_253 nh_M_digitOf pn_M_digitOf rfl (As := [.int (iI (((chr ln q : Nat)) : Int)), .int (iI 10)]) (rest := []) rfl (Nat.le_of_ble_eq_true rfl) ⟨by decide, by decide⟩ rfl ⟨by decide, by decide⟩ d_M_parsed_394 (c_M_digitOf hfl (c := (((chr ln q : Nat)) : Int)) (r := 10) ⟨by omega, by omega⟩ (by omega)) (fun z41 F8 hq => ?_)
                      obtain ⟨hz41, eF8⟩ := hq
                      refine J_eqF eF8 ?_
                      have hdbz41 := dgr_b (c := (((chr ln q : Nat)) : Int)) (r := 10)
                      refine J_topi (r := dgr (((chr ln q : Nat)) : Int) 10) (congrArg iI hz41) ?_
                      refine J_iflt (tgt := 432) d_M_parsed_397 (by decide) ⟨by omega, by omega⟩ (fun c397 => ?_) (fun c397 => ?_)
                      · refine lab432 q t e1 e2 ?_ (by omega) (by omega) hRL373
                        · have h8 := ht3
                          rw [ten3_e (by omega)] at h8
                          injection h8 with h9 h10
                          exact ⟨h9, h10⟩
                      · have hdd := (dgr10 (c := (chr ln q : Int))).1 (by omega)
                        refine J_bipush d_M_parsed_400 (i8_ok (by decide)) ?_
                        refine J_iload 3 d_M_parsed_402 rfl ?_
                        refine J_imul d_M_parsed_404 ?_
                        refine J_aload_n 0 d_M_parsed_405 rfl rfl ?_
                        refine J_aload_n 0 d_M_parsed_406 rfl rfl ?_
                        refine gf_M_244 (by omega) (by rw [va_up_ne _ _ (by decide), va_up_ne _ _ (by decide), va_up_self]) rfl d_M_parsed_407 ?_
                        refine J_topi (r := (q : Int)) (congrArg iI ((va_up_ne _ _ (by decide)).trans ((va_up_ne _ _ (by decide)).trans (va_up_self ..)))) ?_
                        refine J_callVi cw_M_247 nh_M_here pn_M_here rfl rfl (by omega) (by rw [va_up_ne _ _ (by decide), va_up_ne _ _ (by decide), va_up_self]) (As := [.int (iI (q : Int))]) (rest := [.int (iI (10 * (t : Int)))]) rfl (Nat.le_of_ble_eq_true rfl) ⟨by decide, by decide⟩ rfl ⟨by decide, by decide⟩ d_M_parsed_410 (c_M_here hfl (f := va_up (va_up (va_up f 19 (q : Int)) 7 (if chr ln 0 = 45 then (1 : Int) else 0)) 20 f20) (v := v) (lh := lh) (ln := ln) (k := q) hN (by rw [va_up_ne _ _ (by decide), va_up_ne _ _ (by decide), va_up_self]) (by rw [va_up_ne _ _ (by decide), va_up_ne _ _ (by decide), va_up_ne _ _ (by decide)]; exact h104) hml ((va_up_ne _ _ (by decide)).trans ((va_up_ne _ _ (by decide)).trans ((va_up_ne _ _ (by decide)).trans hf12))) hl40 hch (by omega)) (fun z42 F9 hq => ?_)
                        obtain ⟨hz42, eF9⟩ := hq
                        refine J_eqF eF9 ?_
                        refine J_topi (r := (((chr ln q : Nat)) : Int)) (congrArg iI hz42) ?_
                        refine J_iadd d_M_parsed_413 ?_
                        refine J_bipush d_M_parsed_414 (i8_ok (by decide)) ?_
                        refine J_isub d_M_parsed_416 ?_
                        refine J_topi (r := (10 * (t : Int)) + (((chr ln q : Nat)) : Int) - 48) (congrArg iI (by omega)) ?_
                        refine J_topi (r := ((10 * t + (dgr (chr ln q : Int) 10).toNat : Nat) : Int)) (congrArg iI (by omega)) ?_
                        refine J_istore (lv' := [(4, .int (iI ((10 * t + (dgr (chr ln q : Int) 10).toNat : Nat) : Int))), (0, .ref (ad 98)), (2, .int (iI be)), (3, .int (iI (n3 : Int))), (5, .int (iI mi)), (6, .int (iI (q6 : Int)))]) d_M_parsed_417 (by decide) rfl ?_
                        refine J_aload_n 1 d_M_parsed_419 rfl rfl ?_
                        refine J_dup d_M_parsed_420 rfl ?_
                        refine gf_M_244 (by omega) (by rw [va_up_ne _ _ (by decide), va_up_ne _ _ (by decide), va_up_self]) rfl d_M_parsed_421 ?_
                        refine J_topi (r := (q : Int)) (congrArg iI ((va_up_ne _ _ (by decide)).trans ((va_up_ne _ _ (by decide)).trans (va_up_self ..)))) ?_
                        refine J_iconst d_M_parsed_424 ?_
                        refine J_iadd d_M_parsed_425 ?_
                        refine pm_M_244 (by omega) (by rw [va_up_ne _ _ (by decide), va_up_ne _ _ (by decide), va_up_self]) d_M_parsed_426 ?_
                        refine J_eqF (F2 := va_up (va_up (va_up (va_up F 98 (oM ad (va_up (va_up (va_up f 19 (q : Int)) 7 (if chr ln 0 = 45 then (1 : Int) else 0)) 20 f20) v)) 99 (.inl (g 0, 858, .inl (aI e1)))) 100 (.inl (g 0, 33, .inl (aI e2)))) 98 (oM ad (va_up (va_up (va_up f 19 ((q : Int) + 1)) 7 (if chr ln 0 = 45 then (1 : Int) else 0)) 20 f20) v)) (congrArg (fun qq : Nat → Int => va_up (va_up (va_up (va_up F 98 (oM ad (va_up (va_up (va_up f 19 (q : Int)) 7 (if chr ln 0 = 45 then (1 : Int) else 0)) 20 f20) v)) 99 (.inl (g 0, 858, .inl (aI e1)))) 100 (.inl (g 0, 33, .inl (aI e2)))) 98 (oM ad qq v)) (up_in2 (by decide) (by decide))) ?_
                        refine J_eqF (F2 := va_up (va_up (va_up F 98 (oM ad (va_up (va_up (va_up f 19 ((q : Int) + 1)) 7 (if chr ln 0 = 45 then (1 : Int) else 0)) 20 f20) v)) 99 (.inl (g 0, 858, .inl (aI e1)))) 100 (.inl (g 0, 33, .inl (aI e2)))) (up_in2 (by decide) (by decide)) ?_
                        refine J_goto (tgt := 373) d_M_parsed_429 (by decide) ?_
                        refine J_pick (lv' := [(0, .ref (ad 98)), (2, .int (iI be)), (3, .int (iI (n3 : Int))), (4, .int (iI ((10 * t + (dgr (chr ln q : Int) 10).toNat : Nat) : Int))), (5, .int (iI mi)), (6, .int (iI (q6 : Int)))]) [1, 2, 3, 0, 4, 5] rfl ?_
                        refine ih (q + 1) (10 * t + (dgr (chr ln q : Int) 10).toNat) (fu - 1) e1 e2 ?_ (by omega) ?_ ?_ ?_ hRL373 (by omega)
                        · rw [← ht3, ← ten3_d (f := fu - 1) (t := t) (by omega), show fu - 1 + 1 = fu by omega]
                        · rcases htb with w | w | w | w
                          · exact Or.inr (Or.inl ⟨by omega, by omega⟩)
                          · exact Or.inr (Or.inr (Or.inl ⟨by omega, by omega⟩))
                          · exact Or.inr (Or.inr (Or.inr ⟨by omega, by omega⟩))
                          · omega
                        · rcases htb with w | w | w | w <;> omega
                        · omega
                exact loop373 (3 + 1) q6 0 3 e1 e2 hten (by omega) (Or.inl ⟨rfl, rfl⟩) (by decide) (by omega) hRL367 (Nat.lt_succ_self _)
              refine J_aload_n 0 d_M_parsed_319 rfl rfl ?_
              refine J_aload_n 0 d_M_parsed_320 rfl rfl ?_
              refine gf_M_244 (by omega) (by rw [va_up_ne _ _ (by decide), va_up_ne _ _ (by decide), va_up_self]) rfl d_M_parsed_321 ?_
              refine J_topi (r := (q5 : Int)) (congrArg iI ((va_up_ne _ _ (by decide)).trans ((va_up_ne _ _ (by decide)).trans (va_up_self ..)))) ?_
              refine J_callVi cw_M_247 nh_M_here pn_M_here rfl rfl (by omega) (by rw [va_up_ne _ _ (by decide), va_up_ne _ _ (by decide), va_up_self]) (As := [.int (iI (q5 : Int))]) (rest := []) rfl (Nat.le_of_ble_eq_true rfl) ⟨by decide, by decide⟩ rfl ⟨by decide, by decide⟩ d_M_parsed_324 (c_M_here hfl (f := va_up (va_up (va_up f 19 (q5 : Int)) 7 (if chr ln 0 = 45 then (1 : Int) else 0)) 20 f20) (v := v) (lh := lh) (ln := ln) (k := q5) hN (by rw [va_up_ne _ _ (by decide), va_up_ne _ _ (by decide), va_up_self]) (by rw [va_up_ne _ _ (by decide), va_up_ne _ _ (by decide), va_up_ne _ _ (by decide)]; exact h104) hml ((va_up_ne _ _ (by decide)).trans ((va_up_ne _ _ (by decide)).trans ((va_up_ne _ _ (by decide)).trans hf12))) hl40 hch (by omega)) (fun z43 F10 hq => ?_)
              obtain ⟨hz43, eF10⟩ := hq
              refine J_eqF eF10 ?_
              refine J_topi (r := (((chr ln q5 : Nat)) : Int)) (congrArg iI hz43) ?_
              refine J_bipush d_M_parsed_327 (i8_ok (by decide)) ?_
              refine J_if_icmpne (tgt := 336) d_M_parsed_329 (by decide) ⟨by omega, by omega⟩ ⟨by omega, by omega⟩ (fun c329 => ?_) (fun c329 => ?_)
              · refine J_iconst d_M_parsed_336 ?_
                refine J_istore (lv' := [(5, .int (iI 0)), (0, .ref (ad 98)), (2, .int (iI be)), (3, .int (iI (n3 : Int))), (4, .int (iI 0))]) d_M_parsed_337 (by decide) rfl ?_
                refine J_iload 0 d_M_parsed_339 rfl ?_
                refine J_ifne (tgt := 357) d_M_parsed_341 (by decide) ⟨by omega, by omega⟩ (fun c341 => ?_) (fun c341 => ?_)
                · refine J_aload_n 1 d_M_parsed_357 rfl rfl ?_
                  refine J_dup d_M_parsed_358 rfl ?_
                  refine gf_M_244 (by omega) (by rw [va_up_ne _ _ (by decide), va_up_ne _ _ (by decide), va_up_self]) rfl d_M_parsed_359 ?_
                  refine J_topi (r := (q5 : Int)) (congrArg iI ((va_up_ne _ _ (by decide)).trans ((va_up_ne _ _ (by decide)).trans (va_up_self ..)))) ?_
                  refine J_iconst d_M_parsed_362 ?_
                  refine J_iadd d_M_parsed_363 ?_
                  refine pm_M_244 (by omega) (by rw [va_up_ne _ _ (by decide), va_up_ne _ _ (by decide), va_up_self]) d_M_parsed_364 ?_
                  refine J_eqF (F2 := va_up (va_up (va_up (va_up F 98 (oM ad (va_up (va_up (va_up f 19 (q5 : Int)) 7 (if chr ln 0 = 45 then (1 : Int) else 0)) 20 f20) v)) 99 (.inl (g 0, 858, .inl (aI e1)))) 100 (.inl (g 0, 33, .inl (aI e2)))) 98 (oM ad (va_up (va_up (va_up f 19 ((q5 : Int) + 1)) 7 (if chr ln 0 = 45 then (1 : Int) else 0)) 20 f20) v)) (congrArg (fun qq : Nat → Int => va_up (va_up (va_up (va_up F 98 (oM ad (va_up (va_up (va_up f 19 (q5 : Int)) 7 (if chr ln 0 = 45 then (1 : Int) else 0)) 20 f20) v)) 99 (.inl (g 0, 858, .inl (aI e1)))) 100 (.inl (g 0, 33, .inl (aI e2)))) 98 (oM ad qq v)) (up_in2 (by decide) (by decide))) ?_
                  refine J_eqF (F2 := va_up (va_up (va_up F 98 (oM ad (va_up (va_up (va_up f 19 ((q5 : Int) + 1)) 7 (if chr ln 0 = 45 then (1 : Int) else 0)) 20 f20) v)) 99 (.inl (g 0, 858, .inl (aI e1)))) 100 (.inl (g 0, 33, .inl (aI e2)))) (up_in2 (by decide) (by decide)) ?_
                  refine J_pick (lv' := [(0, .ref (ad 98)), (2, .int (iI be)), (3, .int (iI (n3 : Int))), (4, .int (iI 0)), (5, .int (iI 0))]) [1, 2, 3, 4, 0] rfl ?_
                  exact lab367 (0 : Int) (q5 + 1) e1 e2 (by omega) (by unfold psq; rw [if_pos (by omega)]) (by omega) hRL319
                · refine J_aload_n 1 d_M_parsed_344 rfl rfl ?_
                  refine J_aload_n 1 d_M_parsed_345 rfl rfl ?_
                  refine gf_M_244 (by omega) (by rw [va_up_ne _ _ (by decide), va_up_ne _ _ (by decide), va_up_self]) rfl d_M_parsed_346 ?_
                  refine J_topi (r := (q5 : Int)) (congrArg iI ((va_up_ne _ _ (by decide)).trans ((va_up_ne _ _ (by decide)).trans (va_up_self ..)))) ?_
                  refine J_callVi cw_M_247 nh_M_here pn_M_here rfl rfl (by omega) (by rw [va_up_ne _ _ (by decide), va_up_ne _ _ (by decide), va_up_self]) (As := [.int (iI (q5 : Int))]) (rest := []) rfl (Nat.le_of_ble_eq_true rfl) ⟨by decide, by decide⟩ rfl ⟨by decide, by decide⟩ d_M_parsed_349 (c_M_here hfl (f := va_up (va_up (va_up f 19 (q5 : Int)) 7 (if chr ln 0 = 45 then (1 : Int) else 0)) 20 f20) (v := v) (lh := lh) (ln := ln) (k := q5) hN (by rw [va_up_ne _ _ (by decide), va_up_ne _ _ (by decide), va_up_self]) (by rw [va_up_ne _ _ (by decide), va_up_ne _ _ (by decide), va_up_ne _ _ (by decide)]; exact h104) hml ((va_up_ne _ _ (by decide)).trans ((va_up_ne _ _ (by decide)).trans ((va_up_ne _ _ (by decide)).trans hf12))) hl40 hch (by omega)) (fun z44 F11 hq => ?_)
                  obtain ⟨hz44, eF11⟩ := hq
                  refine J_eqF eF11 ?_
                  refine J_topi (r := (((chr ln q5 : Nat)) : Int)) (congrArg iI hz44) ?_
                  refine J_bipush d_M_parsed_352 (i8_ok (by decide)) ?_
                  refine J_if_icmpne (tgt := 367) d_M_parsed_354 (by decide) ⟨by omega, by omega⟩ ⟨by omega, by omega⟩ (fun c354 => ?_) (fun c354 => ?_)
                  · refine J_pick (lv' := [(0, .ref (ad 98)), (2, .int (iI be)), (3, .int (iI (n3 : Int))), (4, .int (iI 0)), (5, .int (iI 0))]) [1, 2, 3, 4, 0] rfl ?_
                    exact lab367 (0 : Int) q5 e1 e2 (by omega) (by unfold psq; rw [if_neg (by omega)]) (by omega) hRL319
                  · refine J_aload_n 1 d_M_parsed_357 rfl rfl ?_
                    refine J_dup d_M_parsed_358 rfl ?_
                    refine gf_M_244 (by omega) (by rw [va_up_ne _ _ (by decide), va_up_ne _ _ (by decide), va_up_self]) rfl d_M_parsed_359 ?_
                    refine J_topi (r := (q5 : Int)) (congrArg iI ((va_up_ne _ _ (by decide)).trans ((va_up_ne _ _ (by decide)).trans (va_up_self ..)))) ?_
                    refine J_iconst d_M_parsed_362 ?_
                    refine J_iadd d_M_parsed_363 ?_
                    refine pm_M_244 (by omega) (by rw [va_up_ne _ _ (by decide), va_up_ne _ _ (by decide), va_up_self]) d_M_parsed_364 ?_
                    refine J_eqF (F2 := va_up (va_up (va_up (va_up F 98 (oM ad (va_up (va_up (va_up f 19 (q5 : Int)) 7 (if chr ln 0 = 45 then (1 : Int) else 0)) 20 f20) v)) 99 (.inl (g 0, 858, .inl (aI e1)))) 100 (.inl (g 0, 33, .inl (aI e2)))) 98 (oM ad (va_up (va_up (va_up f 19 ((q5 : Int) + 1)) 7 (if chr ln 0 = 45 then (1 : Int) else 0)) 20 f20) v)) (congrArg (fun qq : Nat → Int => va_up (va_up (va_up (va_up F 98 (oM ad (va_up (va_up (va_up f 19 (q5 : Int)) 7 (if chr ln 0 = 45 then (1 : Int) else 0)) 20 f20) v)) 99 (.inl (g 0, 858, .inl (aI e1)))) 100 (.inl (g 0, 33, .inl (aI e2)))) 98 (oM ad qq v)) (up_in2 (by decide) (by decide))) ?_
                    refine J_eqF (F2 := va_up (va_up (va_up F 98 (oM ad (va_up (va_up (va_up f 19 ((q5 : Int) + 1)) 7 (if chr ln 0 = 45 then (1 : Int) else 0)) 20 f20) v)) 99 (.inl (g 0, 858, .inl (aI e1)))) 100 (.inl (g 0, 33, .inl (aI e2)))) (up_in2 (by decide) (by decide)) ?_
                    refine J_pick (lv' := [(0, .ref (ad 98)), (2, .int (iI be)), (3, .int (iI (n3 : Int))), (4, .int (iI 0)), (5, .int (iI 0))]) [1, 2, 3, 4, 0] rfl ?_
                    exact lab367 (0 : Int) (q5 + 1) e1 e2 (by omega) (by unfold psq; rw [if_pos (by omega)]) (by omega) hRL319
              · refine J_iconst d_M_parsed_332 ?_
                refine J_goto (tgt := 337) d_M_parsed_333 (by decide) ?_
                refine J_istore (lv' := [(5, .int (iI 1)), (0, .ref (ad 98)), (2, .int (iI be)), (3, .int (iI (n3 : Int))), (4, .int (iI 0))]) d_M_parsed_337 (by decide) rfl ?_
                refine J_iload 0 d_M_parsed_339 rfl ?_
                refine J_ifne (tgt := 357) d_M_parsed_341 (by decide) ⟨by omega, by omega⟩ (fun c341 => ?_) (fun c341 => ?_)
                · refine J_aload_n 1 d_M_parsed_357 rfl rfl ?_
                  refine J_dup d_M_parsed_358 rfl ?_
                  refine gf_M_244 (by omega) (by rw [va_up_ne _ _ (by decide), va_up_ne _ _ (by decide), va_up_self]) rfl d_M_parsed_359 ?_
                  refine J_topi (r := (q5 : Int)) (congrArg iI ((va_up_ne _ _ (by decide)).trans ((va_up_ne _ _ (by decide)).trans (va_up_self ..)))) ?_
                  refine J_iconst d_M_parsed_362 ?_
                  refine J_iadd d_M_parsed_363 ?_
                  refine pm_M_244 (by omega) (by rw [va_up_ne _ _ (by decide), va_up_ne _ _ (by decide), va_up_self]) d_M_parsed_364 ?_
                  refine J_eqF (F2 := va_up (va_up (va_up (va_up F 98 (oM ad (va_up (va_up (va_up f 19 (q5 : Int)) 7 (if chr ln 0 = 45 then (1 : Int) else 0)) 20 f20) v)) 99 (.inl (g 0, 858, .inl (aI e1)))) 100 (.inl (g 0, 33, .inl (aI e2)))) 98 (oM ad (va_up (va_up (va_up f 19 ((q5 : Int) + 1)) 7 (if chr ln 0 = 45 then (1 : Int) else 0)) 20 f20) v)) (congrArg (fun qq : Nat → Int => va_up (va_up (va_up (va_up F 98 (oM ad (va_up (va_up (va_up f 19 (q5 : Int)) 7 (if chr ln 0 = 45 then (1 : Int) else 0)) 20 f20) v)) 99 (.inl (g 0, 858, .inl (aI e1)))) 100 (.inl (g 0, 33, .inl (aI e2)))) 98 (oM ad qq v)) (up_in2 (by decide) (by decide))) ?_
                  refine J_eqF (F2 := va_up (va_up (va_up F 98 (oM ad (va_up (va_up (va_up f 19 ((q5 : Int) + 1)) 7 (if chr ln 0 = 45 then (1 : Int) else 0)) 20 f20) v)) 99 (.inl (g 0, 858, .inl (aI e1)))) 100 (.inl (g 0, 33, .inl (aI e2)))) (up_in2 (by decide) (by decide)) ?_
                  refine J_pick (lv' := [(0, .ref (ad 98)), (2, .int (iI be)), (3, .int (iI (n3 : Int))), (4, .int (iI 0)), (5, .int (iI 1))]) [1, 2, 3, 4, 0] rfl ?_
                  exact lab367 (1 : Int) (q5 + 1) e1 e2 (by omega) (by unfold psq; rw [if_pos (by omega)]) (by omega) hRL319
                · refine J_aload_n 1 d_M_parsed_344 rfl rfl ?_
                  refine J_aload_n 1 d_M_parsed_345 rfl rfl ?_
                  refine gf_M_244 (by omega) (by rw [va_up_ne _ _ (by decide), va_up_ne _ _ (by decide), va_up_self]) rfl d_M_parsed_346 ?_
                  refine J_topi (r := (q5 : Int)) (congrArg iI ((va_up_ne _ _ (by decide)).trans ((va_up_ne _ _ (by decide)).trans (va_up_self ..)))) ?_
                  refine J_callVi cw_M_247 nh_M_here pn_M_here rfl rfl (by omega) (by rw [va_up_ne _ _ (by decide), va_up_ne _ _ (by decide), va_up_self]) (As := [.int (iI (q5 : Int))]) (rest := []) rfl (Nat.le_of_ble_eq_true rfl) ⟨by decide, by decide⟩ rfl ⟨by decide, by decide⟩ d_M_parsed_349 (c_M_here hfl (f := va_up (va_up (va_up f 19 (q5 : Int)) 7 (if chr ln 0 = 45 then (1 : Int) else 0)) 20 f20) (v := v) (lh := lh) (ln := ln) (k := q5) hN (by rw [va_up_ne _ _ (by decide), va_up_ne _ _ (by decide), va_up_self]) (by rw [va_up_ne _ _ (by decide), va_up_ne _ _ (by decide), va_up_ne _ _ (by decide)]; exact h104) hml ((va_up_ne _ _ (by decide)).trans ((va_up_ne _ _ (by decide)).trans ((va_up_ne _ _ (by decide)).trans hf12))) hl40 hch (by omega)) (fun z45 F12 hq => ?_)
                  obtain ⟨hz45, eF12⟩ := hq
                  refine J_eqF eF12 ?_
                  refine J_topi (r := (((chr ln q5 : Nat)) : Int)) (congrArg iI hz45) ?_
                  refine J_bipush d_M_parsed_352 (i8_ok (by decide)) ?_
                  refine J_if_icmpne (tgt := 367) d_M_parsed_354 (by decide) ⟨by omega, by omega⟩ ⟨by omega, by omega⟩ (fun c354 => ?_) (fun c354 => ?_)
                  · refine J_pick (lv' := [(0, .ref (ad 98)), (2, .int (iI be)), (3, .int (iI (n3 : Int))), (4, .int (iI 0)), (5, .int (iI 1))]) [1, 2, 3, 4, 0] rfl ?_
                    exact lab367 (1 : Int) q5 e1 e2 (by omega) (by unfold psq; rw [if_neg (by omega)]) (by omega) hRL319
                  · refine J_aload_n 1 d_M_parsed_357 rfl rfl ?_
                    refine J_dup d_M_parsed_358 rfl ?_
                    refine gf_M_244 (by omega) (by rw [va_up_ne _ _ (by decide), va_up_ne _ _ (by decide), va_up_self]) rfl d_M_parsed_359 ?_
                    refine J_topi (r := (q5 : Int)) (congrArg iI ((va_up_ne _ _ (by decide)).trans ((va_up_ne _ _ (by decide)).trans (va_up_self ..)))) ?_
                    refine J_iconst d_M_parsed_362 ?_
                    refine J_iadd d_M_parsed_363 ?_
                    refine pm_M_244 (by omega) (by rw [va_up_ne _ _ (by decide), va_up_ne _ _ (by decide), va_up_self]) d_M_parsed_364 ?_
                    refine J_eqF (F2 := va_up (va_up (va_up (va_up F 98 (oM ad (va_up (va_up (va_up f 19 (q5 : Int)) 7 (if chr ln 0 = 45 then (1 : Int) else 0)) 20 f20) v)) 99 (.inl (g 0, 858, .inl (aI e1)))) 100 (.inl (g 0, 33, .inl (aI e2)))) 98 (oM ad (va_up (va_up (va_up f 19 ((q5 : Int) + 1)) 7 (if chr ln 0 = 45 then (1 : Int) else 0)) 20 f20) v)) (congrArg (fun qq : Nat → Int => va_up (va_up (va_up (va_up F 98 (oM ad (va_up (va_up (va_up f 19 (q5 : Int)) 7 (if chr ln 0 = 45 then (1 : Int) else 0)) 20 f20) v)) 99 (.inl (g 0, 858, .inl (aI e1)))) 100 (.inl (g 0, 33, .inl (aI e2)))) 98 (oM ad qq v)) (up_in2 (by decide) (by decide))) ?_
                    refine J_eqF (F2 := va_up (va_up (va_up F 98 (oM ad (va_up (va_up (va_up f 19 ((q5 : Int) + 1)) 7 (if chr ln 0 = 45 then (1 : Int) else 0)) 20 f20) v)) 99 (.inl (g 0, 858, .inl (aI e1)))) 100 (.inl (g 0, 33, .inl (aI e2)))) (up_in2 (by decide) (by decide)) ?_
                    refine J_pick (lv' := [(0, .ref (ad 98)), (2, .int (iI be)), (3, .int (iI (n3 : Int))), (4, .int (iI 0)), (5, .int (iI 1))]) [1, 2, 3, 4, 0] rfl ?_
                    exact lab367 (1 : Int) (q5 + 1) e1 e2 (by omega) (by unfold psq; rw [if_pos (by omega)]) (by omega) hRL319
            have lab458 : ∀ (t6 : Int) (q7 : Nat) (e1 : Nat → Int) (e2 : Nat → Int) (hpr6 : prs ln = if q7 = ln.length then some (2, v3, 1, t6 - (n3 : Int)) else none) (hq7 : q7 ≤ 45 ∧ q7 ≤ ln.length) (ht6 : -1000 ≤ t6 ∧ t6 ≤ 1000) (hRL458 : reg br e1 e2 (va_up (va_up V 20 v3) 21 1)) , J l rm_M_parsed (0, 0) "NumberTowerModel" b_M_parsed 7 (Option.some Jvm.ClassFile.FieldType.int) D jCl (jTys g) A (fun _ me => me.name = y_M_parsed.name) (ji ad N (fun z F' => ∃ (hh' ll' f' : Nat → Int) (W : Nat → Nat), reg br hh' ll' W ∧ (∀ k, k ≠ 20 → k ≠ 21 → W k = V k) ∧ (∀ j, j ≠ 7 → j ≠ 19 → j ≠ 20 → f' j = f j) ∧ prsOut (prs ln) z (W 20) (W 21) ∧ f' 7 = (if chr ln 0 = 45 then (1 : Int) else 0) ∧ F' = va_up (va_up (va_up F 98 (oM ad f' v)) 99 (aB g hh')) 100 (aL g ll'))) ad N 0 0 458 [(0, .ref (ad 98)), (2, .int (iI be)), (3, .int (iI (n3 : Int))), (4, .int (iI t6))] [] (va_up (va_up (va_up F 98 (oM ad (va_up (va_up (va_up f 19 (q7 : Int)) 7 (if chr ln 0 = 45 then (1 : Int) else 0)) 20 f20) v)) 99 (.inl (g 0, 858, .inl (aI e1)))) 100 (.inl (g 0, 33, .inl (aI e2)))) := by
              intro t6 q7 e1 e2 hpr6 hq7 ht6 hRL458
              refine J_aload_n 0 d_M_parsed_458 rfl rfl ?_
              refine gf_M_244 (by omega) (by rw [va_up_ne _ _ (by decide), va_up_ne _ _ (by decide), va_up_self]) rfl d_M_parsed_459 ?_
              refine J_topi (r := (q7 : Int)) (congrArg iI ((va_up_ne _ _ (by decide)).trans ((va_up_ne _ _ (by decide)).trans (va_up_self ..)))) ?_
              refine J_aload_n 0 d_M_parsed_462 rfl rfl ?_
              refine gf_M_241 (by omega) (by rw [va_up_ne _ _ (by decide), va_up_ne _ _ (by decide), va_up_self]) rfl d_M_parsed_463 ?_
              refine J_topi (r := (ln.length : Int)) (congrArg iI ((va_up_ne _ _ (by decide)).trans ((va_up_ne _ _ (by decide)).trans ((va_up_ne _ _ (by decide)).trans hf12)))) ?_
              refine J_if_icmpge (tgt := 471) d_M_parsed_466 (by decide) ⟨by omega, by omega⟩ ⟨by omega, by omega⟩ (fun c466 => ?_) (fun c466 => ?_)
              · refine J_iload 3 d_M_parsed_471 rfl ?_
                refine J_iload_n 2 d_M_parsed_473 rfl rfl ?_
                refine J_isub d_M_parsed_474 ?_
                refine J_istore (lv' := [(4, .int (iI (t6 - (n3 : Int)))), (0, .ref (ad 98)), (2, .int (iI be)), (3, .int (iI (n3 : Int)))]) d_M_parsed_475 (by decide) rfl ?_
                have lab503 : ∀ (tt : Int) (htt : tt = clm (t6 - (n3 : Int))) (htb : -110 ≤ tt ∧ tt ≤ 70) , J l rm_M_parsed (0, 0) "NumberTowerModel" b_M_parsed 7 (Option.some Jvm.ClassFile.FieldType.int) D jCl (jTys g) A (fun _ me => me.name = y_M_parsed.name) (ji ad N (fun z F' => ∃ (hh' ll' f' : Nat → Int) (W : Nat → Nat), reg br hh' ll' W ∧ (∀ k, k ≠ 20 → k ≠ 21 → W k = V k) ∧ (∀ j, j ≠ 7 → j ≠ 19 → j ≠ 20 → f' j = f j) ∧ prsOut (prs ln) z (W 20) (W 21) ∧ f' 7 = (if chr ln 0 = 45 then (1 : Int) else 0) ∧ F' = va_up (va_up (va_up F 98 (oM ad f' v)) 99 (aB g hh')) 100 (aL g ll'))) ad N 0 0 503 [(0, .ref (ad 98)), (2, .int (iI be)), (3, .int (iI (n3 : Int))), (4, .int (iI (t6 - (n3 : Int))))] [.int (iI tt)] (va_up (va_up (va_up F 98 (oM ad (va_up (va_up (va_up f 19 (q7 : Int)) 7 (if chr ln 0 = 45 then (1 : Int) else 0)) 20 f20) v)) 99 (.inl (g 0, 858, .inl (aI e1)))) 100 (.inl (g 0, 33, .inl (aI e2)))) := by
                  intro tt htt htb
                  refine J_istore (lv' := [(4, .int (iI tt)), (0, .ref (ad 98)), (2, .int (iI be)), (3, .int (iI (n3 : Int)))]) d_M_parsed_503 (by decide) rfl ?_
                  refine J_iload 0 d_M_parsed_505 rfl ?_
                  refine J_ifle (tgt := 521) d_M_parsed_507 (by decide) ⟨by omega, by omega⟩ (fun c507 => ?_) (fun c507 => ?_)
                  · refine J_aload_n 1 d_M_parsed_521 rfl rfl ?_
                    refine J_bipush d_M_parsed_522 (i8_ok (by decide)) ?_
                    refine J_iload 0 d_M_parsed_524 rfl ?_
                    refine J_ineg d_M_parsed_526 ?_
                    refine J_callVv cw_M_208 nh_M_tens pn_M_tens rfl rfl (by omega) (by rw [va_up_ne _ _ (by decide), va_up_ne _ _ (by decide), va_up_self]) (As := [.int (iI 21), .int (iI (-tt))]) (rest := []) rfl (Nat.le_of_ble_eq_true rfl) ⟨by decide, by decide⟩ rfl ⟨by decide, by decide⟩ d_M_parsed_527 (k_M_tens hfl (a := 21) (n := -tt) (hh := e1) (ll := e2) (V := va_up (va_up V 20 v3) 21 1) (br := br) (hN := hN) (hO := (by rw [va_up_ne _ _ (by decide), va_up_ne _ _ (by decide), va_up_self])) (hB := (by rw [va_up_ne _ _ (by decide), va_up_self])) (hL := (by rw [va_up_self])) (hR := hRL458) (ha := by omega) (hxa := (va_up_self ..)) (bra := (hzz.2 21 (by decide) (by decide))) (hn := ⟨by omega, by omega⟩) (hT := t110 (by omega))) (fun  F13 hq => ?_)
                    obtain ⟨bh46, bl47, hR48, eF13⟩ := hq
                    refine J_eqF (F2 := va_up (va_up (va_up F 98 (oM ad (va_up (va_up (va_up f 19 (q7 : Int)) 7 (if chr ln 0 = 45 then (1 : Int) else 0)) 20 f20) v)) 99 (.inl (g 0, 858, .inl (aI bh46)))) 100 (.inl (g 0, 33, .inl (aI bl47)))) (eF13.trans (Eq.trans (congrArg (fun q : Nat → va_E => va_up q 100 (.inl (g 0, 33, .inl (aI bl47)))) (up_in1 (by decide))) (up_in0))) ?_
                    have hR51 := reg_w1 (hzz.1 _) hR48
                    have hR52 := (congrArg (fun qq : Nat → Nat => reg _ _ _ (qq)) (up_in0)).mp hR51
                    refine J_iconst d_M_parsed_530 ?_
                    refine J_iret rfl rfl d_M_parsed_531 ⟨by decide, by decide⟩ ?_
                    refine ⟨_, rfl, rfl, rfl, _, _, _, _, hR52, (fun k h1 h2 => (show (va_up (va_up V 20 v3) 21 (1 * 10 ^ ((-tt).toNat))) k = V k from by rw [va_up_ne _ _ (by omega), va_up_ne _ _ (by omega)])), (fun j h1 h2 h3 => (show (va_up (va_up (va_up f 19 (q7 : Int)) 7 (if chr ln 0 = 45 then (1 : Int) else 0)) 20 f20) j = f j from by rw [va_up_ne _ _ (by omega), va_up_ne _ _ (by omega), va_up_ne _ _ (by omega)])), ?_, ((va_up_ne _ _ (by decide)).trans (va_up_self ..)), rfl⟩
                    rw [show (va_up (va_up V 20 v3) 21 (1 * 10 ^ ((-tt).toNat))) 20 = v3 from ((va_up_ne _ _ (by decide)).trans (va_up_self ..)), show (va_up (va_up V 20 v3) 21 (1 * 10 ^ ((-tt).toNat))) 21 = 1 * 10 ^ ((-tt).toNat) from (va_up_self ..)]
                    refine Or.inr ⟨2, v3, 1, t6 - (n3 : Int), hpr6.trans (if_pos (by omega)), rfl, ⟨by decide, by decide⟩, ?_, ?_, Nat.lt_of_lt_of_le hv3 (Nat.pow_le_pow_right (by decide) hp3), by decide, fun w => absurd rfl w, fun _ => rfl⟩
                    · rw [← htt, show tt.toNat = 0 by omega, Nat.pow_zero, Nat.mul_one]
                    · rw [← htt]
                  · refine J_aload_n 1 d_M_parsed_510 rfl rfl ?_
                    refine J_bipush d_M_parsed_511 (i8_ok (by decide)) ?_
                    refine J_iload 0 d_M_parsed_513 rfl ?_
                    refine J_callVv cw_M_208 nh_M_tens pn_M_tens rfl rfl (by omega) (by rw [va_up_ne _ _ (by decide), va_up_ne _ _ (by decide), va_up_self]) (As := [.int (iI 20), .int (iI tt)]) (rest := []) rfl (Nat.le_of_ble_eq_true rfl) ⟨by decide, by decide⟩ rfl ⟨by decide, by decide⟩ d_M_parsed_515 (k_M_tens hfl (a := 20) (n := tt) (hh := e1) (ll := e2) (V := va_up (va_up V 20 v3) 21 1) (br := br) (hN := hN) (hO := (by rw [va_up_ne _ _ (by decide), va_up_ne _ _ (by decide), va_up_self])) (hB := (by rw [va_up_ne _ _ (by decide), va_up_self])) (hL := (by rw [va_up_self])) (hR := hRL458) (ha := by omega) (hxa := ((va_up_ne _ _ (by decide)).trans (va_up_self ..))) (bra := (hzz.2 20 (by decide) (by decide))) (hn := ⟨by omega, by omega⟩) (hT := t70 hv3 hp3 (by omega))) (fun  F14 hq => ?_)
                    obtain ⟨bh53, bl54, hR55, eF14⟩ := hq
                    refine J_eqF (F2 := va_up (va_up (va_up F 98 (oM ad (va_up (va_up (va_up f 19 (q7 : Int)) 7 (if chr ln 0 = 45 then (1 : Int) else 0)) 20 f20) v)) 99 (.inl (g 0, 858, .inl (aI bh53)))) 100 (.inl (g 0, 33, .inl (aI bl54)))) (eF14.trans (Eq.trans (congrArg (fun q : Nat → va_E => va_up q 100 (.inl (g 0, 33, .inl (aI bl54)))) (up_in1 (by decide))) (up_in0))) ?_
                    have hR58 := reg_w1 (hzz.1 _) hR55
                    have hR59 := (congrArg (fun qq : Nat → Nat => reg _ _ _ (qq)) (up_in1 (by decide))).mp hR58
                    refine J_goto (tgt := 530) d_M_parsed_518 (by decide) ?_
                    refine J_iconst d_M_parsed_530 ?_
                    refine J_iret rfl rfl d_M_parsed_531 ⟨by decide, by decide⟩ ?_
                    refine ⟨_, rfl, rfl, rfl, _, _, _, _, hR59, (fun k h1 h2 => (show (va_up (va_up V 20 (v3 * 10 ^ tt.toNat)) 21 1) k = V k from by rw [va_up_ne _ _ (by omega), va_up_ne _ _ (by omega)])), (fun j h1 h2 h3 => (show (va_up (va_up (va_up f 19 (q7 : Int)) 7 (if chr ln 0 = 45 then (1 : Int) else 0)) 20 f20) j = f j from by rw [va_up_ne _ _ (by omega), va_up_ne _ _ (by omega), va_up_ne _ _ (by omega)])), ?_, ((va_up_ne _ _ (by decide)).trans (va_up_self ..)), rfl⟩
                    rw [show (va_up (va_up V 20 (v3 * 10 ^ tt.toNat)) 21 1) 20 = v3 * 10 ^ tt.toNat from ((va_up_ne _ _ (by decide)).trans (va_up_self ..)), show (va_up (va_up V 20 (v3 * 10 ^ tt.toNat)) 21 1) 21 = 1 from (va_up_self ..)]
                    refine Or.inr ⟨2, v3, 1, t6 - (n3 : Int), hpr6.trans (if_pos (by omega)), rfl, ⟨by decide, by decide⟩, ?_, ?_, Nat.lt_of_lt_of_le hv3 (Nat.pow_le_pow_right (by decide) hp3), by decide, fun w => absurd rfl w, fun _ => rfl⟩
                    · rw [← htt]
                    · rw [← htt, show (-tt).toNat = 0 by omega]
                refine J_iload 0 d_M_parsed_477 rfl ?_
                refine J_bipush d_M_parsed_479 (i8_ok (by decide)) ?_
                refine J_if_icmple (tgt := 489) d_M_parsed_481 (by decide) ⟨by omega, by omega⟩ ⟨by omega, by omega⟩ (fun c481 => ?_) (fun c481 => ?_)
                · refine J_iload 0 d_M_parsed_489 rfl ?_
                  refine J_bipush d_M_parsed_491 (i8_ok (by decide)) ?_
                  refine J_if_icmpge (tgt := 501) d_M_parsed_493 (by decide) ⟨by omega, by omega⟩ ⟨by omega, by omega⟩ (fun c493 => ?_) (fun c493 => ?_)
                  · refine J_iload 0 d_M_parsed_501 rfl ?_
                    refine J_pick (lv' := [(0, .ref (ad 98)), (2, .int (iI be)), (3, .int (iI (n3 : Int))), (4, .int (iI (t6 - (n3 : Int))))]) [1, 2, 3, 0] rfl ?_
                    exact lab503 (t6 - (n3 : Int)) (by unfold clm; rw [if_neg (by omega), if_neg (by omega)]) (by omega)
                  · refine J_bipush d_M_parsed_496 (i8_ok (by decide)) ?_
                    refine J_goto (tgt := 503) d_M_parsed_498 (by decide) ?_
                    refine J_pick (lv' := [(0, .ref (ad 98)), (2, .int (iI be)), (3, .int (iI (n3 : Int))), (4, .int (iI (t6 - (n3 : Int))))]) [1, 2, 3, 0] rfl ?_
                    exact lab503 (-110 : Int) (by unfold clm; rw [if_neg (by omega), if_pos (by omega)]) (by omega)
                · refine J_bipush d_M_parsed_484 (i8_ok (by decide)) ?_
                  refine J_goto (tgt := 503) d_M_parsed_486 (by decide) ?_
                  refine J_pick (lv' := [(0, .ref (ad 98)), (2, .int (iI be)), (3, .int (iI (n3 : Int))), (4, .int (iI (t6 - (n3 : Int))))]) [1, 2, 3, 0] rfl ?_
                  exact lab503 (70 : Int) (by unfold clm; rw [if_pos (by omega)]) (by omega)
              · refine J_iconst d_M_parsed_469 ?_
                refine J_iret rfl rfl d_M_parsed_470 ⟨by decide, by decide⟩ ?_
                refine ⟨_, rfl, rfl, rfl, _, _, _, _, hRL458, (fun k h1 h2 => (show (va_up (va_up V 20 v3) 21 1) k = V k from by rw [va_up_ne _ _ (by omega), va_up_ne _ _ (by omega)])), (fun j h1 h2 h3 => (show (va_up (va_up (va_up f 19 (q7 : Int)) 7 (if chr ln 0 = 45 then (1 : Int) else 0)) 20 f20) j = f j from by rw [va_up_ne _ _ (by omega), va_up_ne _ _ (by omega), va_up_ne _ _ (by omega)])), ?_, ((va_up_ne _ _ (by decide)).trans (va_up_self ..)), rfl⟩
                rw [show (va_up (va_up V 20 v3) 21 1) 20 = v3 from ((va_up_ne _ _ (by decide)).trans (va_up_self ..)), show (va_up (va_up V 20 v3) 21 1) 21 = 1 from (va_up_self ..)]
                exact Or.inl ⟨hpr6.trans (if_neg (by omega)), rfl⟩
            refine J_iload_n 1 d_M_parsed_288 rfl rfl ?_
            refine J_ifne (tgt := 298) d_M_parsed_289 (by decide) ⟨by omega, by omega⟩ (fun c289 => ?_) (fun c289 => ?_)
            · refine J_iconst d_M_parsed_298 ?_
              refine J_istore (lv' := [(4, .int (iI 0)), (0, .ref (ad 98)), (2, .int (iI be)), (3, .int (iI (n3 : Int)))]) d_M_parsed_299 (by decide) rfl ?_
              have hcb3 := chr_b hch p3
              refine J_aload_n 1 d_M_parsed_301 rfl rfl ?_
              refine J_bipush d_M_parsed_302 (i8_ok (by decide)) ?_
              refine J_callVi cw_M_259 nh_M_takes2 pn_M_takes2 rfl rfl (by omega) (by rw [va_up_ne _ _ (by decide), va_up_ne _ _ (by decide), va_up_self]) (As := [.int (iI 101)]) (rest := []) rfl (Nat.le_of_ble_eq_true rfl) ⟨by decide, by decide⟩ rfl ⟨by decide, by decide⟩ d_M_parsed_304 (c_M_takes2 hfl (f := va_up (va_up (va_up f 19 (p3 : Int)) 7 (if chr ln 0 = 45 then (1 : Int) else 0)) 20 f20) (v := v) (lh := lh) (ln := ln) (p := p3) (c := 101) hN (by rw [va_up_ne _ _ (by decide), va_up_ne _ _ (by decide), va_up_self]) (by rw [va_up_ne _ _ (by decide), va_up_ne _ _ (by decide), va_up_ne _ _ (by decide)]; exact h104) hml ((va_up_ne _ _ (by decide)).trans ((va_up_ne _ _ (by decide)).trans ((va_up_ne _ _ (by decide)).trans hf12))) hl40 hch ((va_up_ne _ _ (by decide)).trans ((va_up_ne _ _ (by decide)).trans (va_up_self ..))) (by omega) (by omega)) (fun ze F15 hq => ?_)
              obtain ⟨hze, eF15⟩ := hq
              refine J_eqF (F2 := va_up (va_up (va_up F 98 (oM ad (va_up (va_up (va_up f 19 ((tk ln p3 101 : Nat) : Int)) 7 (if chr ln 0 = 45 then (1 : Int) else 0)) 20 f20) v)) 99 (.inl (g 0, 858, .inl (aI e1)))) 100 (.inl (g 0, 33, .inl (aI e2)))) ((eF15.trans (congrArg (fun qq : Nat → Int => va_up (va_up (va_up (va_up F 98 (oM ad (va_up (va_up (va_up f 19 (p3 : Int)) 7 (if chr ln 0 = 45 then (1 : Int) else 0)) 20 f20) v)) 99 (.inl (g 0, 858, .inl (aI e1)))) 100 (.inl (g 0, 33, .inl (aI e2)))) 98 (oM ad qq v)) (up_in2 (by decide) (by decide)))).trans (up_in2 (by decide) (by decide))) ?_
              refine J_ifne (tgt := 319) d_M_parsed_307 (by decide) ⟨by omega, by omega⟩ (fun c307 => ?_) (fun c307 => ?_)
              · refine J_pick (lv' := [(0, .ref (ad 98)), (2, .int (iI be)), (3, .int (iI (n3 : Int))), (4, .int (iI 0))]) [1, 2, 3, 0] rfl ?_
                refine J_eqF (F2 := va_up (va_up (va_up F 98 (oM ad (va_up (va_up (va_up f 19 ((p3 + 1 : Nat) : Int)) 7 (if chr ln 0 = 45 then (1 : Int) else 0)) 20 f20) v)) 99 (.inl (g 0, 858, .inl (aI e1)))) 100 (.inl (g 0, 33, .inl (aI e2)))) (congrArg (fun qq : Int => va_up (va_up (va_up F 98 (oM ad (va_up (va_up (va_up f 19 qq) 7 (if chr ln 0 = 45 then (1 : Int) else 0)) 20 f20) v)) 99 (.inl (g 0, 858, .inl (aI e1)))) 100 (.inl (g 0, 33, .inl (aI e2)))) (show ((tk ln p3 101 : Nat) : Int) = ((p3 + 1 : Nat) : Int) from by rw [tk_y (by omega)])) ?_
                exact lab319 (p3 + 1) e1 e2 (hpr4.trans (prR_e (by omega) (by omega))) (by omega) hRL288
              · refine J_eqF (F2 := va_up (va_up (va_up F 98 (oM ad (va_up (va_up (va_up f 19 (p3 : Int)) 7 (if chr ln 0 = 45 then (1 : Int) else 0)) 20 f20) v)) 99 (.inl (g 0, 858, .inl (aI e1)))) 100 (.inl (g 0, 33, .inl (aI e2)))) (congrArg (fun qq : Int => va_up (va_up (va_up F 98 (oM ad (va_up (va_up (va_up f 19 qq) 7 (if chr ln 0 = 45 then (1 : Int) else 0)) 20 f20) v)) 99 (.inl (g 0, 858, .inl (aI e1)))) 100 (.inl (g 0, 33, .inl (aI e2)))) (show ((tk ln p3 101 : Nat) : Int) = (p3 : Int) from by rw [tk_n (by omega)])) ?_
                refine J_aload_n 1 d_M_parsed_310 rfl rfl ?_
                refine J_bipush d_M_parsed_311 (i8_ok (by decide)) ?_
                refine J_callVi cw_M_259 nh_M_takes2 pn_M_takes2 rfl rfl (by omega) (by rw [va_up_ne _ _ (by decide), va_up_ne _ _ (by decide), va_up_self]) (As := [.int (iI 69)]) (rest := []) rfl (Nat.le_of_ble_eq_true rfl) ⟨by decide, by decide⟩ rfl ⟨by decide, by decide⟩ d_M_parsed_313 (c_M_takes2 hfl (f := va_up (va_up (va_up f 19 (p3 : Int)) 7 (if chr ln 0 = 45 then (1 : Int) else 0)) 20 f20) (v := v) (lh := lh) (ln := ln) (p := p3) (c := 69) hN (by rw [va_up_ne _ _ (by decide), va_up_ne _ _ (by decide), va_up_self]) (by rw [va_up_ne _ _ (by decide), va_up_ne _ _ (by decide), va_up_ne _ _ (by decide)]; exact h104) hml ((va_up_ne _ _ (by decide)).trans ((va_up_ne _ _ (by decide)).trans ((va_up_ne _ _ (by decide)).trans hf12))) hl40 hch ((va_up_ne _ _ (by decide)).trans ((va_up_ne _ _ (by decide)).trans (va_up_self ..))) (by omega) (by omega)) (fun zE F16 hq => ?_)
                obtain ⟨hzE, eF16⟩ := hq
                refine J_eqF (F2 := va_up (va_up (va_up F 98 (oM ad (va_up (va_up (va_up f 19 ((tk ln p3 69 : Nat) : Int)) 7 (if chr ln 0 = 45 then (1 : Int) else 0)) 20 f20) v)) 99 (.inl (g 0, 858, .inl (aI e1)))) 100 (.inl (g 0, 33, .inl (aI e2)))) ((eF16.trans (congrArg (fun qq : Nat → Int => va_up (va_up (va_up (va_up F 98 (oM ad (va_up (va_up (va_up f 19 (p3 : Int)) 7 (if chr ln 0 = 45 then (1 : Int) else 0)) 20 f20) v)) 99 (.inl (g 0, 858, .inl (aI e1)))) 100 (.inl (g 0, 33, .inl (aI e2)))) 98 (oM ad qq v)) (up_in2 (by decide) (by decide)))).trans (up_in2 (by decide) (by decide))) ?_
                refine J_ifeq (tgt := 458) d_M_parsed_316 (by decide) ⟨by omega, by omega⟩ (fun c316 => ?_) (fun c316 => ?_)
                · refine J_pick (lv' := [(0, .ref (ad 98)), (2, .int (iI be)), (3, .int (iI (n3 : Int))), (4, .int (iI 0))]) [1, 2, 3, 0] rfl ?_
                  refine J_eqF (F2 := va_up (va_up (va_up F 98 (oM ad (va_up (va_up (va_up f 19 (p3 : Int)) 7 (if chr ln 0 = 45 then (1 : Int) else 0)) 20 f20) v)) 99 (.inl (g 0, 858, .inl (aI e1)))) 100 (.inl (g 0, 33, .inl (aI e2)))) (congrArg (fun qq : Int => va_up (va_up (va_up F 98 (oM ad (va_up (va_up (va_up f 19 qq) 7 (if chr ln 0 = 45 then (1 : Int) else 0)) 20 f20) v)) 99 (.inl (g 0, 858, .inl (aI e1)))) 100 (.inl (g 0, 33, .inl (aI e2)))) (show ((tk ln p3 69 : Nat) : Int) = (p3 : Int) from by rw [tk_n (by omega)])) ?_
                  exact lab458 (0 : Int) p3 e1 e2 (hpr4.trans (prR_y (by omega) (by omega))) (by omega) (by omega) hRL288
                · refine J_pick (lv' := [(0, .ref (ad 98)), (2, .int (iI be)), (3, .int (iI (n3 : Int))), (4, .int (iI 0))]) [1, 2, 3, 0] rfl ?_
                  refine J_eqF (F2 := va_up (va_up (va_up F 98 (oM ad (va_up (va_up (va_up f 19 ((p3 + 1 : Nat) : Int)) 7 (if chr ln 0 = 45 then (1 : Int) else 0)) 20 f20) v)) 99 (.inl (g 0, 858, .inl (aI e1)))) 100 (.inl (g 0, 33, .inl (aI e2)))) (congrArg (fun qq : Int => va_up (va_up (va_up F 98 (oM ad (va_up (va_up (va_up f 19 qq) 7 (if chr ln 0 = 45 then (1 : Int) else 0)) 20 f20) v)) 99 (.inl (g 0, 858, .inl (aI e1)))) 100 (.inl (g 0, 33, .inl (aI e2)))) (show ((tk ln p3 69 : Nat) : Int) = ((p3 + 1 : Nat) : Int) from by rw [tk_y (by omega)])) ?_
                  exact lab319 (p3 + 1) e1 e2 (hpr4.trans (prR_e (by omega) (by omega))) (by omega) hRL288
            · refine J_iload_n 2 d_M_parsed_292 rfl rfl ?_
              refine J_ifne (tgt := 298) d_M_parsed_293 (by decide) ⟨by omega, by omega⟩ (fun c293 => ?_) (fun c293 => ?_)
              · refine J_iconst d_M_parsed_298 ?_
                refine J_istore (lv' := [(4, .int (iI 0)), (0, .ref (ad 98)), (2, .int (iI be)), (3, .int (iI (n3 : Int)))]) d_M_parsed_299 (by decide) rfl ?_
                have hcb3 := chr_b hch p3
                refine J_aload_n 1 d_M_parsed_301 rfl rfl ?_
                refine J_bipush d_M_parsed_302 (i8_ok (by decide)) ?_
                refine J_callVi cw_M_259 nh_M_takes2 pn_M_takes2 rfl rfl (by omega) (by rw [va_up_ne _ _ (by decide), va_up_ne _ _ (by decide), va_up_self]) (As := [.int (iI 101)]) (rest := []) rfl (Nat.le_of_ble_eq_true rfl) ⟨by decide, by decide⟩ rfl ⟨by decide, by decide⟩ d_M_parsed_304 (c_M_takes2 hfl (f := va_up (va_up (va_up f 19 (p3 : Int)) 7 (if chr ln 0 = 45 then (1 : Int) else 0)) 20 f20) (v := v) (lh := lh) (ln := ln) (p := p3) (c := 101) hN (by rw [va_up_ne _ _ (by decide), va_up_ne _ _ (by decide), va_up_self]) (by rw [va_up_ne _ _ (by decide), va_up_ne _ _ (by decide), va_up_ne _ _ (by decide)]; exact h104) hml ((va_up_ne _ _ (by decide)).trans ((va_up_ne _ _ (by decide)).trans ((va_up_ne _ _ (by decide)).trans hf12))) hl40 hch ((va_up_ne _ _ (by decide)).trans ((va_up_ne _ _ (by decide)).trans (va_up_self ..))) (by omega) (by omega)) (fun ze F17 hq => ?_)
                obtain ⟨hze, eF17⟩ := hq
                refine J_eqF (F2 := va_up (va_up (va_up F 98 (oM ad (va_up (va_up (va_up f 19 ((tk ln p3 101 : Nat) : Int)) 7 (if chr ln 0 = 45 then (1 : Int) else 0)) 20 f20) v)) 99 (.inl (g 0, 858, .inl (aI e1)))) 100 (.inl (g 0, 33, .inl (aI e2)))) ((eF17.trans (congrArg (fun qq : Nat → Int => va_up (va_up (va_up (va_up F 98 (oM ad (va_up (va_up (va_up f 19 (p3 : Int)) 7 (if chr ln 0 = 45 then (1 : Int) else 0)) 20 f20) v)) 99 (.inl (g 0, 858, .inl (aI e1)))) 100 (.inl (g 0, 33, .inl (aI e2)))) 98 (oM ad qq v)) (up_in2 (by decide) (by decide)))).trans (up_in2 (by decide) (by decide))) ?_
                refine J_ifne (tgt := 319) d_M_parsed_307 (by decide) ⟨by omega, by omega⟩ (fun c307 => ?_) (fun c307 => ?_)
                · refine J_pick (lv' := [(0, .ref (ad 98)), (2, .int (iI be)), (3, .int (iI (n3 : Int))), (4, .int (iI 0))]) [1, 2, 3, 0] rfl ?_
                  refine J_eqF (F2 := va_up (va_up (va_up F 98 (oM ad (va_up (va_up (va_up f 19 ((p3 + 1 : Nat) : Int)) 7 (if chr ln 0 = 45 then (1 : Int) else 0)) 20 f20) v)) 99 (.inl (g 0, 858, .inl (aI e1)))) 100 (.inl (g 0, 33, .inl (aI e2)))) (congrArg (fun qq : Int => va_up (va_up (va_up F 98 (oM ad (va_up (va_up (va_up f 19 qq) 7 (if chr ln 0 = 45 then (1 : Int) else 0)) 20 f20) v)) 99 (.inl (g 0, 858, .inl (aI e1)))) 100 (.inl (g 0, 33, .inl (aI e2)))) (show ((tk ln p3 101 : Nat) : Int) = ((p3 + 1 : Nat) : Int) from by rw [tk_y (by omega)])) ?_
                  exact lab319 (p3 + 1) e1 e2 (hpr4.trans (prR_e (by omega) (by omega))) (by omega) hRL288
                · refine J_eqF (F2 := va_up (va_up (va_up F 98 (oM ad (va_up (va_up (va_up f 19 (p3 : Int)) 7 (if chr ln 0 = 45 then (1 : Int) else 0)) 20 f20) v)) 99 (.inl (g 0, 858, .inl (aI e1)))) 100 (.inl (g 0, 33, .inl (aI e2)))) (congrArg (fun qq : Int => va_up (va_up (va_up F 98 (oM ad (va_up (va_up (va_up f 19 qq) 7 (if chr ln 0 = 45 then (1 : Int) else 0)) 20 f20) v)) 99 (.inl (g 0, 858, .inl (aI e1)))) 100 (.inl (g 0, 33, .inl (aI e2)))) (show ((tk ln p3 101 : Nat) : Int) = (p3 : Int) from by rw [tk_n (by omega)])) ?_
                  refine J_aload_n 1 d_M_parsed_310 rfl rfl ?_
                  refine J_bipush d_M_parsed_311 (i8_ok (by decide)) ?_
                  refine J_callVi cw_M_259 nh_M_takes2 pn_M_takes2 rfl rfl (by omega) (by rw [va_up_ne _ _ (by decide), va_up_ne _ _ (by decide), va_up_self]) (As := [.int (iI 69)]) (rest := []) rfl (Nat.le_of_ble_eq_true rfl) ⟨by decide, by decide⟩ rfl ⟨by decide, by decide⟩ d_M_parsed_313 (c_M_takes2 hfl (f := va_up (va_up (va_up f 19 (p3 : Int)) 7 (if chr ln 0 = 45 then (1 : Int) else 0)) 20 f20) (v := v) (lh := lh) (ln := ln) (p := p3) (c := 69) hN (by rw [va_up_ne _ _ (by decide), va_up_ne _ _ (by decide), va_up_self]) (by rw [va_up_ne _ _ (by decide), va_up_ne _ _ (by decide), va_up_ne _ _ (by decide)]; exact h104) hml ((va_up_ne _ _ (by decide)).trans ((va_up_ne _ _ (by decide)).trans ((va_up_ne _ _ (by decide)).trans hf12))) hl40 hch ((va_up_ne _ _ (by decide)).trans ((va_up_ne _ _ (by decide)).trans (va_up_self ..))) (by omega) (by omega)) (fun zE F18 hq => ?_)
                  obtain ⟨hzE, eF18⟩ := hq
                  refine J_eqF (F2 := va_up (va_up (va_up F 98 (oM ad (va_up (va_up (va_up f 19 ((tk ln p3 69 : Nat) : Int)) 7 (if chr ln 0 = 45 then (1 : Int) else 0)) 20 f20) v)) 99 (.inl (g 0, 858, .inl (aI e1)))) 100 (.inl (g 0, 33, .inl (aI e2)))) ((eF18.trans (congrArg (fun qq : Nat → Int => va_up (va_up (va_up (va_up F 98 (oM ad (va_up (va_up (va_up f 19 (p3 : Int)) 7 (if chr ln 0 = 45 then (1 : Int) else 0)) 20 f20) v)) 99 (.inl (g 0, 858, .inl (aI e1)))) 100 (.inl (g 0, 33, .inl (aI e2)))) 98 (oM ad qq v)) (up_in2 (by decide) (by decide)))).trans (up_in2 (by decide) (by decide))) ?_
                  refine J_ifeq (tgt := 458) d_M_parsed_316 (by decide) ⟨by omega, by omega⟩ (fun c316 => ?_) (fun c316 => ?_)
                  · refine J_pick (lv' := [(0, .ref (ad 98)), (2, .int (iI be)), (3, .int (iI (n3 : Int))), (4, .int (iI 0))]) [1, 2, 3, 0] rfl ?_
                    refine J_eqF (F2 := va_up (va_up (va_up F 98 (oM ad (va_up (va_up (va_up f 19 (p3 : Int)) 7 (if chr ln 0 = 45 then (1 : Int) else 0)) 20 f20) v)) 99 (.inl (g 0, 858, .inl (aI e1)))) 100 (.inl (g 0, 33, .inl (aI e2)))) (congrArg (fun qq : Int => va_up (va_up (va_up F 98 (oM ad (va_up (va_up (va_up f 19 qq) 7 (if chr ln 0 = 45 then (1 : Int) else 0)) 20 f20) v)) 99 (.inl (g 0, 858, .inl (aI e1)))) 100 (.inl (g 0, 33, .inl (aI e2)))) (show ((tk ln p3 69 : Nat) : Int) = (p3 : Int) from by rw [tk_n (by omega)])) ?_
                    exact lab458 (0 : Int) p3 e1 e2 (hpr4.trans (prR_y (by omega) (by omega))) (by omega) (by omega) hRL288
                  · refine J_pick (lv' := [(0, .ref (ad 98)), (2, .int (iI be)), (3, .int (iI (n3 : Int))), (4, .int (iI 0))]) [1, 2, 3, 0] rfl ?_
                    refine J_eqF (F2 := va_up (va_up (va_up F 98 (oM ad (va_up (va_up (va_up f 19 ((p3 + 1 : Nat) : Int)) 7 (if chr ln 0 = 45 then (1 : Int) else 0)) 20 f20) v)) 99 (.inl (g 0, 858, .inl (aI e1)))) 100 (.inl (g 0, 33, .inl (aI e2)))) (congrArg (fun qq : Int => va_up (va_up (va_up F 98 (oM ad (va_up (va_up (va_up f 19 qq) 7 (if chr ln 0 = 45 then (1 : Int) else 0)) 20 f20) v)) 99 (.inl (g 0, 858, .inl (aI e1)))) 100 (.inl (g 0, 33, .inl (aI e2)))) (show ((tk ln p3 69 : Nat) : Int) = ((p3 + 1 : Nat) : Int) from by rw [tk_y (by omega)])) ?_
                    exact lab319 (p3 + 1) e1 e2 (hpr4.trans (prR_e (by omega) (by omega))) (by omega) hRL288
              · refine J_iconst d_M_parsed_296 ?_
                refine J_iret rfl rfl d_M_parsed_297 ⟨by decide, by decide⟩ ?_
                refine ⟨_, rfl, rfl, rfl, _, _, _, _, hRL288, (fun k h1 h2 => (show (va_up (va_up V 20 v3) 21 1) k = V k from by rw [va_up_ne _ _ (by omega), va_up_ne _ _ (by omega)])), (fun j h1 h2 h3 => (show (va_up (va_up (va_up f 19 (p3 : Int)) 7 (if chr ln 0 = 45 then (1 : Int) else 0)) 20 f20) j = f j from by rw [va_up_ne _ _ (by omega), va_up_ne _ _ (by omega), va_up_ne _ _ (by omega)])), ?_, ((va_up_ne _ _ (by decide)).trans (va_up_self ..)), rfl⟩
                rw [show (va_up (va_up V 20 v3) 21 1) 20 = v3 from ((va_up_ne _ _ (by decide)).trans (va_up_self ..)), show (va_up (va_up V 20 v3) 21 1) 21 = 1 from (va_up_self ..)]
                exact Or.inl ⟨hpr4.trans (prR_0 (by omega) (by omega)), rfl⟩
          refine J_iconst d_M_parsed_264 ?_
          refine J_istore_n (lv' := [(3, .int (iI 0)), (0, .ref (ad 98)), (2, .int (iI be))]) d_M_parsed_265 rfl (by decide) rfl ?_
          refine J_aload_n 1 d_M_parsed_266 rfl rfl ?_
          refine J_bipush d_M_parsed_267 (i8_ok (by decide)) ?_
          refine J_callVi cw_M_259 nh_M_takes2 pn_M_takes2 rfl rfl (by omega) (by rw [va_up_ne _ _ (by decide), va_up_ne _ _ (by decide), va_up_self]) (As := [.int (iI 46)]) (rest := []) rfl (Nat.le_of_ble_eq_true rfl) ⟨by decide, by decide⟩ rfl ⟨by decide, by decide⟩ d_M_parsed_269 (c_M_takes2 hfl (f := va_up (va_up (va_up f 19 (pB : Int)) 7 (if chr ln 0 = 45 then (1 : Int) else 0)) 20 (nB : Int)) (v := v) (lh := lh) (ln := ln) (p := pB) (c := 46) hN (by rw [va_up_ne _ _ (by decide), va_up_ne _ _ (by decide), va_up_self]) (by rw [va_up_ne _ _ (by decide), va_up_ne _ _ (by decide), va_up_ne _ _ (by decide)]; exact h104) hml ((va_up_ne _ _ (by decide)).trans ((va_up_ne _ _ (by decide)).trans ((va_up_ne _ _ (by decide)).trans hf12))) hl40 hch ((va_up_ne _ _ (by decide)).trans ((va_up_ne _ _ (by decide)).trans (va_up_self ..))) (by omega) (by omega)) (fun zp F19 hq => ?_)
          obtain ⟨hzp, eF19⟩ := hq
          refine J_eqF (F2 := va_up (va_up (va_up F 98 (oM ad (va_up (va_up (va_up f 19 ((tk ln pB 46 : Nat) : Int)) 7 (if chr ln 0 = 45 then (1 : Int) else 0)) 20 (nB : Int)) v)) 99 (.inl (g 0, 858, .inl (aI e1)))) 100 (.inl (g 0, 33, .inl (aI e2)))) ((eF19.trans (congrArg (fun qq : Nat → Int => va_up (va_up (va_up (va_up F 98 (oM ad (va_up (va_up (va_up f 19 (pB : Int)) 7 (if chr ln 0 = 45 then (1 : Int) else 0)) 20 (nB : Int)) v)) 99 (.inl (g 0, 858, .inl (aI e1)))) 100 (.inl (g 0, 33, .inl (aI e2)))) 98 (oM ad qq v)) (up_in2 (by decide) (by decide)))).trans (up_in2 (by decide) (by decide))) ?_
          refine J_ifeq (tgt := 288) d_M_parsed_272 (by decide) ⟨by omega, by omega⟩ (fun c272 => ?_) (fun c272 => ?_)
          · refine J_pick (lv' := [(0, .ref (ad 98)), (2, .int (iI be)), (3, .int (iI 0))]) [1, 2, 0] rfl ?_
            refine J_eqF (F2 := va_up (va_up (va_up F 98 (oM ad (va_up (va_up (va_up f 19 (pB : Int)) 7 (if chr ln 0 = 45 then (1 : Int) else 0)) 20 (nB : Int)) v)) 99 (.inl (g 0, 858, .inl (aI e1)))) 100 (.inl (g 0, 33, .inl (aI e2)))) (congrArg (fun qq : Int => va_up (va_up (va_up F 98 (oM ad (va_up (va_up (va_up f 19 qq) 7 (if chr ln 0 = 45 then (1 : Int) else 0)) 20 (nB : Int)) v)) 99 (.inl (g 0, 858, .inl (aI e1)))) 100 (.inl (g 0, 33, .inl (aI e2)))) (show ((tk ln pB 46 : Nat) : Int) = (pB : Int) from by rw [tk_n (by omega)])) ?_
            exact lab288 pB 0 vB (nB : Int) e1 e2 (hpr3.trans (prP_n (by omega))) hpbB (by omega) (by omega) hvbB hRL264
          · have hc46 : chr ln pB = 46 := by omega
            have hv_P : vB < 16 ^ (pB + 1) := Nat.lt_of_lt_of_le hvbB (Nat.pow_le_pow_right (by decide) (by omega))
            refine J_eqF (F2 := va_up (va_up (va_up F 98 (oM ad (va_up (va_up (va_up f 19 ((pB + 1 : Nat) : Int)) 7 (if chr ln 0 = 45 then (1 : Int) else 0)) 20 (nB : Int)) v)) 99 (.inl (g 0, 858, .inl (aI e1)))) 100 (.inl (g 0, 33, .inl (aI e2)))) (congrArg (fun qq : Int => va_up (va_up (va_up F 98 (oM ad (va_up (va_up (va_up f 19 qq) 7 (if chr ln 0 = 45 then (1 : Int) else 0)) 20 (nB : Int)) v)) 99 (.inl (g 0, 858, .inl (aI e1)))) 100 (.inl (g 0, 33, .inl (aI e2)))) (show ((tk ln pB 46 : Nat) : Int) = ((pB + 1 : Nat) : Int) from by rw [tk_y (by omega)])) ?_
            refine J_aload_n 1 d_M_parsed_275 rfl rfl ?_
            refine J_bipush d_M_parsed_276 (i8_ok (by decide)) ?_
            refine J_bipush d_M_parsed_278 (i8_ok (by decide)) ?_
            obtain ⟨⟨pP, nP, vP⟩, hmP⟩ : ∃ x, mdg ln 10 41 (pB + 1) 0 vB = x := ⟨_, rfl⟩
            refine J_callVv cw_M_256 nh_M_digits pn_M_digits rfl rfl (by omega) (by rw [va_up_ne _ _ (by decide), va_up_ne _ _ (by decide), va_up_self]) (As := [.int (iI 10), .int (iI 20)]) (rest := []) rfl (Nat.le_of_ble_eq_true rfl) ⟨by decide, by decide⟩ rfl ⟨by decide, by decide⟩ d_M_parsed_280 (c_M_digits hfl (f := va_up (va_up (va_up f 19 ((pB + 1 : Nat) : Int)) 7 (if chr ln 0 = 45 then (1 : Int) else 0)) 20 (nB : Int)) (v := v) (lh := lh) (ln := ln) (hh := e1) (ll := e2) (V := va_up (va_up V 20 vB) 21 1) (br := br) (to := 20) (v0 := vB) (r := 10) (p0 := (pB + 1)) (pe := pP) (ne := nP) (ve := vP) hN (by rw [va_up_ne _ _ (by decide), va_up_ne _ _ (by decide), va_up_self]) (by rw [va_up_ne _ _ (by decide), va_up_ne _ _ (by decide), va_up_ne _ _ (by decide)]; exact h104) hml ((va_up_ne _ _ (by decide)).trans ((va_up_ne _ _ (by decide)).trans ((va_up_ne _ _ (by decide)).trans hf12))) hl40 hch (by rw [va_up_ne _ _ (by decide), va_up_self]) (by rw [va_up_self]) hRL264 hzz (by omega) ((va_up_ne _ _ (by decide)).trans (va_up_self ..)) (by omega) ((va_up_ne _ _ (by decide)).trans ((va_up_ne _ _ (by decide)).trans (va_up_self ..))) (by omega) (hv_P) hmP) (fun  F20 hq => ?_)
            obtain ⟨bh60, bl61, hR62, ⟨hpbP, hvbP⟩, eF20⟩ := hq
            refine J_eqF (F2 := va_up (va_up (va_up F 98 (oM ad (va_up (va_up (va_up f 19 (pP : Int)) 7 (if chr ln 0 = 45 then (1 : Int) else 0)) 20 (nP : Int)) v)) 99 (.inl (g 0, 858, .inl (aI bh60)))) 100 (.inl (g 0, 33, .inl (aI bl61)))) ((eF20.trans (congrArg (fun qq : Nat → Int => va_up (va_up (va_up (va_up (va_up (va_up F 98 (oM ad (va_up (va_up (va_up f 19 ((pB + 1 : Nat) : Int)) 7 (if chr ln 0 = 45 then (1 : Int) else 0)) 20 (nB : Int)) v)) 99 (.inl (g 0, 858, .inl (aI e1)))) 100 (.inl (g 0, 33, .inl (aI e2)))) 98 (oM ad qq v)) 99 (.inl (g 0, 858, .inl (aI bh60)))) 100 (.inl (g 0, 33, .inl (aI bl61)))) (Eq.trans (congrArg (fun qq : Nat → Int => va_up qq 19 (pP : Int)) (up_in0)) (up_in2 (by decide) (by decide))))).trans (Eq.trans (Eq.trans (congrArg (fun q : Nat → va_E => va_up q 100 (.inl (g 0, 33, .inl (aI bl61)))) (congrArg (fun q : Nat → va_E => va_up q 99 (.inl (g 0, 858, .inl (aI bh60)))) (up_in2 (by decide) (by decide)))) (congrArg (fun q : Nat → va_E => va_up q 100 (.inl (g 0, 33, .inl (aI bl61)))) (up_in1 (by decide)))) (up_in0))) ?_
            have hR63 := (congrArg (fun qq : Nat → Nat => reg _ _ _ (qq)) (up_in1 (by decide))).mp hR62
            have hnbP : nP ≤ 41 := by have h9 := mdg_n (w := ln) (r := 10) 41 (pB + 1) 0 vB; rw [hmP] at h9; simp only at h9; omega
            have hplP : pP ≤ ln.length := by have h9 := mdg_le (w := ln) (r := 10) 41 (pB + 1) 0 vB (by omega); rw [hmP] at h9; exact h9
            refine J_aload_n 1 d_M_parsed_283 rfl rfl ?_
            refine gf_M_250 (by omega) (by rw [va_up_ne _ _ (by decide), va_up_ne _ _ (by decide), va_up_self]) rfl d_M_parsed_284 ?_
            refine J_topi (r := (nP : Int)) (congrArg iI (va_up_self ..)) ?_
            refine J_istore_n (lv' := [(3, .int (iI (nP : Int))), (0, .ref (ad 98)), (2, .int (iI be))]) d_M_parsed_287 rfl (by decide) rfl ?_
            refine J_pick (lv' := [(0, .ref (ad 98)), (2, .int (iI be)), (3, .int (iI (nP : Int)))]) [1, 2, 0] rfl ?_
            exact lab288 pP nP vP (nP : Int) bh60 bl61 (hpr3.trans ((prP_y hc46).trans (by rw [hmP]))) hpbP (by omega) (by omega) hvbP hR63
        rw [hmB] at hpr
        have hcbB := chr_b hch pB
        refine J_aload_n 1 d_M_parsed_181 rfl rfl ?_
        refine gf_M_250 (by omega) (by rw [va_up_ne _ _ (by decide), va_up_ne _ _ (by decide), va_up_self]) rfl d_M_parsed_182 ?_
        refine J_topi (r := (nB : Int)) (congrArg iI (va_up_self ..)) ?_
        refine J_ifle (tgt := 192) d_M_parsed_185 (by decide) ⟨by omega, by omega⟩ (fun c185 => ?_) (fun c185 => ?_)
        · refine J_iconst d_M_parsed_192 ?_
          refine J_istore_n (lv' := [(2, .int (iI 0)), (1, .int (iI (bs : Int))), (0, .ref (ad 98))]) d_M_parsed_193 rfl (by decide) rfl ?_
          refine J_iload_n 0 d_M_parsed_194 rfl rfl ?_
          refine J_ifeq (tgt := 211) d_M_parsed_195 (by decide) ⟨by omega, by omega⟩ (fun c195 => ?_) (fun c195 => ?_)
          · refine J_iload_n 0 d_M_parsed_211 rfl rfl ?_
            refine J_ifeq (tgt := 264) d_M_parsed_212 (by decide) ⟨by omega, by omega⟩ (fun c212 => ?_) (fun c212 => ?_)
            · refine J_pick (lv' := [(0, .ref (ad 98)), (2, .int (iI 0))]) [2, 0] rfl ?_
              exact lab264 (0 : Int) bh8 bl9 (by show _ ∨ _; omega) (by omega) (hpr.trans (prD_p (by omega) (by omega))) hR11
            · refine J_aload_n 2 d_M_parsed_215 rfl rfl ?_
              refine J_bipush d_M_parsed_216 (i8_ok (by decide)) ?_
              refine J_callVi cw_M_259 nh_M_takes2 pn_M_takes2 rfl rfl (by omega) (by rw [va_up_ne _ _ (by decide), va_up_ne _ _ (by decide), va_up_self]) (As := [.int (iI 47)]) (rest := []) rfl (Nat.le_of_ble_eq_true rfl) ⟨by decide, by decide⟩ rfl ⟨by decide, by decide⟩ d_M_parsed_218 (c_M_takes2 hfl (f := va_up (va_up (va_up f 19 (pB : Int)) 7 (if chr ln 0 = 45 then (1 : Int) else 0)) 20 (nB : Int)) (v := v) (lh := lh) (ln := ln) (p := pB) (c := 47) hN (by rw [va_up_ne _ _ (by decide), va_up_ne _ _ (by decide), va_up_self]) (by rw [va_up_ne _ _ (by decide), va_up_ne _ _ (by decide), va_up_ne _ _ (by decide)]; exact h104) hml ((va_up_ne _ _ (by decide)).trans ((va_up_ne _ _ (by decide)).trans ((va_up_ne _ _ (by decide)).trans hf12))) hl40 hch ((va_up_ne _ _ (by decide)).trans ((va_up_ne _ _ (by decide)).trans (va_up_self ..))) (by omega) (by omega)) (fun zq F21 hq => ?_)
              obtain ⟨hzq, eF21⟩ := hq
              refine J_eqF (F2 := va_up (va_up (va_up F 98 (oM ad (va_up (va_up (va_up f 19 ((tk ln pB 47 : Nat) : Int)) 7 (if chr ln 0 = 45 then (1 : Int) else 0)) 20 (nB : Int)) v)) 99 (.inl (g 0, 858, .inl (aI bh8)))) 100 (.inl (g 0, 33, .inl (aI bl9)))) ((eF21.trans (congrArg (fun qq : Nat → Int => va_up (va_up (va_up (va_up F 98 (oM ad (va_up (va_up (va_up f 19 (pB : Int)) 7 (if chr ln 0 = 45 then (1 : Int) else 0)) 20 (nB : Int)) v)) 99 (.inl (g 0, 858, .inl (aI bh8)))) 100 (.inl (g 0, 33, .inl (aI bl9)))) 98 (oM ad qq v)) (up_in2 (by decide) (by decide)))).trans (up_in2 (by decide) (by decide))) ?_
              refine J_ifeq (tgt := 264) d_M_parsed_221 (by decide) ⟨by omega, by omega⟩ (fun c221 => ?_) (fun c221 => ?_)
              · refine J_pick (lv' := [(0, .ref (ad 98)), (2, .int (iI 0))]) [2, 0] rfl ?_
                refine J_eqF (F2 := va_up (va_up (va_up F 98 (oM ad (va_up (va_up (va_up f 19 (pB : Int)) 7 (if chr ln 0 = 45 then (1 : Int) else 0)) 20 (nB : Int)) v)) 99 (.inl (g 0, 858, .inl (aI bh8)))) 100 (.inl (g 0, 33, .inl (aI bl9)))) (congrArg (fun qq : Int => va_up (va_up (va_up F 98 (oM ad (va_up (va_up (va_up f 19 qq) 7 (if chr ln 0 = 45 then (1 : Int) else 0)) 20 (nB : Int)) v)) 99 (.inl (g 0, 858, .inl (aI bh8)))) 100 (.inl (g 0, 33, .inl (aI bl9)))) (show ((tk ln pB 47 : Nat) : Int) = (pB : Int) from by rw [tk_n (by omega)])) ?_
                exact lab264 (0 : Int) bh8 bl9 (by show _ ∨ _; omega) (by omega) (hpr.trans (prD_p (by omega) (by omega))) hR11
              · have hc47 : chr ln pB = 47 := by omega
                refine J_eqF (F2 := va_up (va_up (va_up F 98 (oM ad (va_up (va_up (va_up f 19 ((pB + 1 : Nat) : Int)) 7 (if chr ln 0 = 45 then (1 : Int) else 0)) 20 (nB : Int)) v)) 99 (.inl (g 0, 858, .inl (aI bh8)))) 100 (.inl (g 0, 33, .inl (aI bl9)))) (congrArg (fun qq : Int => va_up (va_up (va_up F 98 (oM ad (va_up (va_up (va_up f 19 qq) 7 (if chr ln 0 = 45 then (1 : Int) else 0)) 20 (nB : Int)) v)) 99 (.inl (g 0, 858, .inl (aI bh8)))) 100 (.inl (g 0, 33, .inl (aI bl9)))) (show ((tk ln pB 47 : Nat) : Int) = ((pB + 1 : Nat) : Int) from by rw [tk_y (by omega)])) ?_
                refine J_aload_n 2 d_M_parsed_224 rfl rfl ?_
                refine gf_M_13 (by omega) (by rw [va_up_ne _ _ (by decide), va_up_ne _ _ (by decide), va_up_self]) rfl d_M_parsed_225 ?_
                refine J_bipush d_M_parsed_228 (i8_ok (by decide)) ?_
                refine J_iconst d_M_parsed_230 ?_
                refine J_iastore 0 rfl (by omega) (by rw [va_up_self]) (by omega) d_M_parsed_231 ?_
                refine J_eqF (F2 := va_up (va_up (va_up (va_up F 98 (oM ad (va_up (va_up (va_up f 19 ((pB + 1 : Nat) : Int)) 7 (if chr ln 0 = 45 then (1 : Int) else 0)) 20 (nB : Int)) v)) 99 (.inl (g 0, 858, .inl (aI bh8)))) 100 (.inl (g 0, 33, .inl (aI bl9)))) 100 (.inl (g 0, 33, .inl (aI (va_up bl9 21 0))))) (congrArg (fun q => va_up (va_up (va_up (va_up F 98 (oM ad (va_up (va_up (va_up f 19 ((pB + 1 : Nat) : Int)) 7 (if chr ln 0 = 45 then (1 : Int) else 0)) 20 (nB : Int)) v)) 99 (.inl (g 0, 858, .inl (aI bh8)))) 100 (.inl (g 0, 33, .inl (aI bl9)))) 100 (.inl (g 0, 33, .inl (aI (va_up bl9 q 0))))) (by omega : (21 : Int).toNat = 21)) ?_
                refine J_eqF (F2 := va_up (va_up (va_up F 98 (oM ad (va_up (va_up (va_up f 19 ((pB + 1 : Nat) : Int)) 7 (if chr ln 0 = 45 then (1 : Int) else 0)) 20 (nB : Int)) v)) 99 (.inl (g 0, 858, .inl (aI bh8)))) 100 (.inl (g 0, 33, .inl (aI (va_up bl9 21 0))))) (up_in0) ?_
                have hR64 := reg_w1 (hzz.1 _) (reg_zero hR11 21)
                have hR65 := (congrArg (fun qq : Nat → Nat => reg _ _ _ (qq)) (up_in0)).mp hR64
                have hpr2 : prs ln = prQ ln vB (mdg ln 10 41 (pB + 1) 0 0) := hpr.trans (prD_q (by omega) (by omega) hc47)
                refine J_aload_n 2 d_M_parsed_232 rfl rfl ?_
                refine J_bipush d_M_parsed_233 (i8_ok (by decide)) ?_
                refine J_bipush d_M_parsed_235 (i8_ok (by decide)) ?_
                obtain ⟨⟨pC, nC, vC⟩, hmC⟩ : ∃ x, mdg ln 10 41 (pB + 1) 0 0 = x := ⟨_, rfl⟩
                refine J_callVv cw_M_256 nh_M_digits pn_M_digits rfl rfl (by omega) (by rw [va_up_ne _ _ (by decide), va_up_ne _ _ (by decide), va_up_self]) (As := [.int (iI 10), .int (iI 21)]) (rest := []) rfl (Nat.le_of_ble_eq_true rfl) ⟨by decide, by decide⟩ rfl ⟨by decide, by decide⟩ d_M_parsed_237 (c_M_digits hfl (f := va_up (va_up (va_up f 19 ((pB + 1 : Nat) : Int)) 7 (if chr ln 0 = 45 then (1 : Int) else 0)) 20 (nB : Int)) (v := v) (lh := lh) (ln := ln) (hh := bh8) (ll := va_up bl9 21 0) (V := va_up (va_up V 20 vB) 21 0) (br := br) (to := 21) (v0 := 0) (r := 10) (p0 := (pB + 1)) (pe := pC) (ne := nC) (ve := vC) hN (by rw [va_up_ne _ _ (by decide), va_up_ne _ _ (by decide), va_up_self]) (by rw [va_up_ne _ _ (by decide), va_up_ne _ _ (by decide), va_up_ne _ _ (by decide)]; exact h104) hml ((va_up_ne _ _ (by decide)).trans ((va_up_ne _ _ (by decide)).trans ((va_up_ne _ _ (by decide)).trans hf12))) hl40 hch (by rw [va_up_ne _ _ (by decide), va_up_self]) (by rw [va_up_self]) hR65 hzz (by omega) (va_up_self ..) (by omega) ((va_up_ne _ _ (by decide)).trans ((va_up_ne _ _ (by decide)).trans (va_up_self ..))) (by omega) (Nat.pow_pos (by decide)) hmC) (fun  F22 hq => ?_)
                obtain ⟨bh66, bl67, hR68, ⟨hpbC, hvbC⟩, eF22⟩ := hq
                refine J_eqF (F2 := va_up (va_up (va_up F 98 (oM ad (va_up (va_up (va_up f 19 (pC : Int)) 7 (if chr ln 0 = 45 then (1 : Int) else 0)) 20 (nC : Int)) v)) 99 (.inl (g 0, 858, .inl (aI bh66)))) 100 (.inl (g 0, 33, .inl (aI bl67)))) ((eF22.trans (congrArg (fun qq : Nat → Int => va_up (va_up (va_up (va_up (va_up (va_up F 98 (oM ad (va_up (va_up (va_up f 19 ((pB + 1 : Nat) : Int)) 7 (if chr ln 0 = 45 then (1 : Int) else 0)) 20 (nB : Int)) v)) 99 (.inl (g 0, 858, .inl (aI bh8)))) 100 (.inl (g 0, 33, .inl (aI (va_up bl9 21 0))))) 98 (oM ad qq v)) 99 (.inl (g 0, 858, .inl (aI bh66)))) 100 (.inl (g 0, 33, .inl (aI bl67)))) (Eq.trans (congrArg (fun qq : Nat → Int => va_up qq 19 (pC : Int)) (up_in0)) (up_in2 (by decide) (by decide))))).trans (Eq.trans (Eq.trans (congrArg (fun q : Nat → va_E => va_up q 100 (.inl (g 0, 33, .inl (aI bl67)))) (congrArg (fun q : Nat → va_E => va_up q 99 (.inl (g 0, 858, .inl (aI bh66)))) (up_in2 (by decide) (by decide)))) (congrArg (fun q : Nat → va_E => va_up q 100 (.inl (g 0, 33, .inl (aI bl67)))) (up_in1 (by decide)))) (up_in0))) ?_
                have hR69 := (congrArg (fun qq : Nat → Nat => reg _ _ _ (qq)) (up_in0)).mp hR68
                have hnbC : nC ≤ 41 := by have h9 := mdg_n (w := ln) (r := 10) 41 (pB + 1) 0 0; rw [hmC] at h9; simp only at h9; omega
                have hplC : pC ≤ ln.length := by have h9 := mdg_le (w := ln) (r := 10) 41 (pB + 1) 0 0 (by omega); rw [hmC] at h9; exact h9
                refine J_aload_n 2 d_M_parsed_240 rfl rfl ?_
                refine gf_M_250 (by omega) (by rw [va_up_ne _ _ (by decide), va_up_ne _ _ (by decide), va_up_self]) rfl d_M_parsed_241 ?_
                refine J_topi (r := (nC : Int)) (congrArg iI (va_up_self ..)) ?_
                refine J_ifle (tgt := 262) d_M_parsed_244 (by decide) ⟨by omega, by omega⟩ (fun c244 => ?_) (fun c244 => ?_)
                · refine J_iconst d_M_parsed_262 ?_
                  refine J_iret rfl rfl d_M_parsed_263 ⟨by decide, by decide⟩ ?_
                  refine ⟨_, rfl, rfl, rfl, _, _, _, _, hR69, (fun k h1 h2 => (show (va_up (va_up V 20 vB) 21 vC) k = V k from by rw [va_up_ne _ _ (by omega), va_up_ne _ _ (by omega)])), (fun j h1 h2 h3 => (show (va_up (va_up (va_up f 19 (pC : Int)) 7 (if chr ln 0 = 45 then (1 : Int) else 0)) 20 (nC : Int)) j = f j from by rw [va_up_ne _ _ (by omega), va_up_ne _ _ (by omega), va_up_ne _ _ (by omega)])), ?_, ((va_up_ne _ _ (by decide)).trans (va_up_self ..)), rfl⟩
                  rw [show (va_up (va_up V 20 vB) 21 vC) 20 = vB from ((va_up_ne _ _ (by decide)).trans (va_up_self ..)), show (va_up (va_up V 20 vB) 21 vC) 21 = vC from (va_up_self ..)]
                  exact Or.inl ⟨hpr2.trans (by rw [hmC]; exact prQ_n (by omega)), rfl⟩
                · refine J_aload_n 2 d_M_parsed_247 rfl rfl ?_
                  refine gf_M_244 (by omega) (by rw [va_up_ne _ _ (by decide), va_up_ne _ _ (by decide), va_up_self]) rfl d_M_parsed_248 ?_
                  refine J_topi (r := (pC : Int)) (congrArg iI ((va_up_ne _ _ (by decide)).trans ((va_up_ne _ _ (by decide)).trans (va_up_self ..)))) ?_
                  refine J_aload_n 2 d_M_parsed_251 rfl rfl ?_
                  refine gf_M_241 (by omega) (by rw [va_up_ne _ _ (by decide), va_up_ne _ _ (by decide), va_up_self]) rfl d_M_parsed_252 ?_
                  refine J_topi (r := (ln.length : Int)) (congrArg iI ((va_up_ne _ _ (by decide)).trans ((va_up_ne _ _ (by decide)).trans ((va_up_ne _ _ (by decide)).trans hf12)))) ?_
                  refine J_if_icmpne (tgt := 262) d_M_parsed_255 (by decide) ⟨by omega, by omega⟩ ⟨by omega, by omega⟩ (fun c255 => ?_) (fun c255 => ?_)
                  · refine J_iconst d_M_parsed_262 ?_
                    refine J_iret rfl rfl d_M_parsed_263 ⟨by decide, by decide⟩ ?_
                    refine ⟨_, rfl, rfl, rfl, _, _, _, _, hR69, (fun k h1 h2 => (show (va_up (va_up V 20 vB) 21 vC) k = V k from by rw [va_up_ne _ _ (by omega), va_up_ne _ _ (by omega)])), (fun j h1 h2 h3 => (show (va_up (va_up (va_up f 19 (pC : Int)) 7 (if chr ln 0 = 45 then (1 : Int) else 0)) 20 (nC : Int)) j = f j from by rw [va_up_ne _ _ (by omega), va_up_ne _ _ (by omega), va_up_ne _ _ (by omega)])), ?_, ((va_up_ne _ _ (by decide)).trans (va_up_self ..)), rfl⟩
                    rw [show (va_up (va_up V 20 vB) 21 vC) 20 = vB from ((va_up_ne _ _ (by decide)).trans (va_up_self ..)), show (va_up (va_up V 20 vB) 21 vC) 21 = vC from (va_up_self ..)]
                    exact Or.inl ⟨hpr2.trans (by rw [hmC]; exact prQ_n (by omega)), rfl⟩
                  · refine J_iconst d_M_parsed_258 ?_
                    refine J_goto (tgt := 263) d_M_parsed_259 (by decide) ?_
                    refine J_iret rfl rfl d_M_parsed_263 ⟨by decide, by decide⟩ ?_
                    refine ⟨_, rfl, rfl, rfl, _, _, _, _, hR69, (fun k h1 h2 => (show (va_up (va_up V 20 vB) 21 vC) k = V k from by rw [va_up_ne _ _ (by omega), va_up_ne _ _ (by omega)])), (fun j h1 h2 h3 => (show (va_up (va_up (va_up f 19 (pC : Int)) 7 (if chr ln 0 = 45 then (1 : Int) else 0)) 20 (nC : Int)) j = f j from by rw [va_up_ne _ _ (by omega), va_up_ne _ _ (by omega), va_up_ne _ _ (by omega)])), ?_, ((va_up_ne _ _ (by decide)).trans (va_up_self ..)), rfl⟩
                    rw [show (va_up (va_up V 20 vB) 21 vC) 20 = vB from ((va_up_ne _ _ (by decide)).trans (va_up_self ..)), show (va_up (va_up V 20 vB) 21 vC) 21 = vC from (va_up_self ..)]
                    exact prsOut_1 (hpr2.trans (by rw [hmC]; exact prQ_y (by omega) (by omega))) ⟨by decide, by decide⟩ hvbB hvbC hpbB hpbC (fun w => absurd rfl w)
          · refine J_aload_n 2 d_M_parsed_198 rfl rfl ?_
            refine gf_M_244 (by omega) (by rw [va_up_ne _ _ (by decide), va_up_ne _ _ (by decide), va_up_self]) rfl d_M_parsed_199 ?_
            refine J_topi (r := (pB : Int)) (congrArg iI ((va_up_ne _ _ (by decide)).trans ((va_up_ne _ _ (by decide)).trans (va_up_self ..)))) ?_
            refine J_aload_n 2 d_M_parsed_202 rfl rfl ?_
            refine gf_M_241 (by omega) (by rw [va_up_ne _ _ (by decide), va_up_ne _ _ (by decide), va_up_self]) rfl d_M_parsed_203 ?_
            refine J_topi (r := (ln.length : Int)) (congrArg iI ((va_up_ne _ _ (by decide)).trans ((va_up_ne _ _ (by decide)).trans ((va_up_ne _ _ (by decide)).trans hf12)))) ?_
            refine J_if_icmpne (tgt := 211) d_M_parsed_206 (by decide) ⟨by omega, by omega⟩ ⟨by omega, by omega⟩ (fun c206 => ?_) (fun c206 => ?_)
            · refine J_iload_n 0 d_M_parsed_211 rfl rfl ?_
              refine J_ifeq (tgt := 264) d_M_parsed_212 (by decide) ⟨by omega, by omega⟩ (fun c212 => ?_) (fun c212 => ?_)
              · refine J_pick (lv' := [(0, .ref (ad 98)), (2, .int (iI 0))]) [2, 0] rfl ?_
                exact lab264 (0 : Int) bh8 bl9 (by show _ ∨ _; omega) (by omega) (hpr.trans (prD_p (by omega) (by omega))) hR11
              · refine J_aload_n 2 d_M_parsed_215 rfl rfl ?_
                refine J_bipush d_M_parsed_216 (i8_ok (by decide)) ?_
                refine J_callVi cw_M_259 nh_M_takes2 pn_M_takes2 rfl rfl (by omega) (by rw [va_up_ne _ _ (by decide), va_up_ne _ _ (by decide), va_up_self]) (As := [.int (iI 47)]) (rest := []) rfl (Nat.le_of_ble_eq_true rfl) ⟨by decide, by decide⟩ rfl ⟨by decide, by decide⟩ d_M_parsed_218 (c_M_takes2 hfl (f := va_up (va_up (va_up f 19 (pB : Int)) 7 (if chr ln 0 = 45 then (1 : Int) else 0)) 20 (nB : Int)) (v := v) (lh := lh) (ln := ln) (p := pB) (c := 47) hN (by rw [va_up_ne _ _ (by decide), va_up_ne _ _ (by decide), va_up_self]) (by rw [va_up_ne _ _ (by decide), va_up_ne _ _ (by decide), va_up_ne _ _ (by decide)]; exact h104) hml ((va_up_ne _ _ (by decide)).trans ((va_up_ne _ _ (by decide)).trans ((va_up_ne _ _ (by decide)).trans hf12))) hl40 hch ((va_up_ne _ _ (by decide)).trans ((va_up_ne _ _ (by decide)).trans (va_up_self ..))) (by omega) (by omega)) (fun zq F23 hq => ?_)
                obtain ⟨hzq, eF23⟩ := hq
                refine J_eqF (F2 := va_up (va_up (va_up F 98 (oM ad (va_up (va_up (va_up f 19 ((tk ln pB 47 : Nat) : Int)) 7 (if chr ln 0 = 45 then (1 : Int) else 0)) 20 (nB : Int)) v)) 99 (.inl (g 0, 858, .inl (aI bh8)))) 100 (.inl (g 0, 33, .inl (aI bl9)))) ((eF23.trans (congrArg (fun qq : Nat → Int => va_up (va_up (va_up (va_up F 98 (oM ad (va_up (va_up (va_up f 19 (pB : Int)) 7 (if chr ln 0 = 45 then (1 : Int) else 0)) 20 (nB : Int)) v)) 99 (.inl (g 0, 858, .inl (aI bh8)))) 100 (.inl (g 0, 33, .inl (aI bl9)))) 98 (oM ad qq v)) (up_in2 (by decide) (by decide)))).trans (up_in2 (by decide) (by decide))) ?_
                refine J_ifeq (tgt := 264) d_M_parsed_221 (by decide) ⟨by omega, by omega⟩ (fun c221 => ?_) (fun c221 => ?_)
                · refine J_pick (lv' := [(0, .ref (ad 98)), (2, .int (iI 0))]) [2, 0] rfl ?_
                  refine J_eqF (F2 := va_up (va_up (va_up F 98 (oM ad (va_up (va_up (va_up f 19 (pB : Int)) 7 (if chr ln 0 = 45 then (1 : Int) else 0)) 20 (nB : Int)) v)) 99 (.inl (g 0, 858, .inl (aI bh8)))) 100 (.inl (g 0, 33, .inl (aI bl9)))) (congrArg (fun qq : Int => va_up (va_up (va_up F 98 (oM ad (va_up (va_up (va_up f 19 qq) 7 (if chr ln 0 = 45 then (1 : Int) else 0)) 20 (nB : Int)) v)) 99 (.inl (g 0, 858, .inl (aI bh8)))) 100 (.inl (g 0, 33, .inl (aI bl9)))) (show ((tk ln pB 47 : Nat) : Int) = (pB : Int) from by rw [tk_n (by omega)])) ?_
                  exact lab264 (0 : Int) bh8 bl9 (by show _ ∨ _; omega) (by omega) (hpr.trans (prD_p (by omega) (by omega))) hR11
                · have hc47 : chr ln pB = 47 := by omega
                  refine J_eqF (F2 := va_up (va_up (va_up F 98 (oM ad (va_up (va_up (va_up f 19 ((pB + 1 : Nat) : Int)) 7 (if chr ln 0 = 45 then (1 : Int) else 0)) 20 (nB : Int)) v)) 99 (.inl (g 0, 858, .inl (aI bh8)))) 100 (.inl (g 0, 33, .inl (aI bl9)))) (congrArg (fun qq : Int => va_up (va_up (va_up F 98 (oM ad (va_up (va_up (va_up f 19 qq) 7 (if chr ln 0 = 45 then (1 : Int) else 0)) 20 (nB : Int)) v)) 99 (.inl (g 0, 858, .inl (aI bh8)))) 100 (.inl (g 0, 33, .inl (aI bl9)))) (show ((tk ln pB 47 : Nat) : Int) = ((pB + 1 : Nat) : Int) from by rw [tk_y (by omega)])) ?_
                  refine J_aload_n 2 d_M_parsed_224 rfl rfl ?_
                  refine gf_M_13 (by omega) (by rw [va_up_ne _ _ (by decide), va_up_ne _ _ (by decide), va_up_self]) rfl d_M_parsed_225 ?_
                  refine J_bipush d_M_parsed_228 (i8_ok (by decide)) ?_
                  refine J_iconst d_M_parsed_230 ?_
                  refine J_iastore 0 rfl (by omega) (by rw [va_up_self]) (by omega) d_M_parsed_231 ?_
                  refine J_eqF (F2 := va_up (va_up (va_up (va_up F 98 (oM ad (va_up (va_up (va_up f 19 ((pB + 1 : Nat) : Int)) 7 (if chr ln 0 = 45 then (1 : Int) else 0)) 20 (nB : Int)) v)) 99 (.inl (g 0, 858, .inl (aI bh8)))) 100 (.inl (g 0, 33, .inl (aI bl9)))) 100 (.inl (g 0, 33, .inl (aI (va_up bl9 21 0))))) (congrArg (fun q => va_up (va_up (va_up (va_up F 98 (oM ad (va_up (va_up (va_up f 19 ((pB + 1 : Nat) : Int)) 7 (if chr ln 0 = 45 then (1 : Int) else 0)) 20 (nB : Int)) v)) 99 (.inl (g 0, 858, .inl (aI bh8)))) 100 (.inl (g 0, 33, .inl (aI bl9)))) 100 (.inl (g 0, 33, .inl (aI (va_up bl9 q 0))))) (by omega : (21 : Int).toNat = 21)) ?_
                  refine J_eqF (F2 := va_up (va_up (va_up F 98 (oM ad (va_up (va_up (va_up f 19 ((pB + 1 : Nat) : Int)) 7 (if chr ln 0 = 45 then (1 : Int) else 0)) 20 (nB : Int)) v)) 99 (.inl (g 0, 858, .inl (aI bh8)))) 100 (.inl (g 0, 33, .inl (aI (va_up bl9 21 0))))) (up_in0) ?_
                  have hR70 := reg_w1 (hzz.1 _) (reg_zero hR11 21)
                  have hR71 := (congrArg (fun qq : Nat → Nat => reg _ _ _ (qq)) (up_in0)).mp hR70
                  have hpr2 : prs ln = prQ ln vB (mdg ln 10 41 (pB + 1) 0 0) := hpr.trans (prD_q (by omega) (by omega) hc47)
                  refine J_aload_n 2 d_M_parsed_232 rfl rfl ?_
                  refine J_bipush d_M_parsed_233 (i8_ok (by decide)) ?_
                  refine J_bipush d_M_parsed_235 (i8_ok (by decide)) ?_
                  obtain ⟨⟨pC, nC, vC⟩, hmC⟩ : ∃ x, mdg ln 10 41 (pB + 1) 0 0 = x := ⟨_, rfl⟩
                  refine J_callVv cw_M_256 nh_M_digits pn_M_digits rfl rfl (by omega) (by rw [va_up_ne _ _ (by decide), va_up_ne _ _ (by decide), va_up_self]) (As := [.int (iI 10), .int (iI 21)]) (rest := []) rfl (Nat.le_of_ble_eq_true rfl) ⟨by decide, by decide⟩ rfl ⟨by decide, by decide⟩ d_M_parsed_237 (c_M_digits hfl (f := va_up (va_up (va_up f 19 ((pB + 1 : Nat) : Int)) 7 (if chr ln 0 = 45 then (1 : Int) else 0)) 20 (nB : Int)) (v := v) (lh := lh) (ln := ln) (hh := bh8) (ll := va_up bl9 21 0) (V := va_up (va_up V 20 vB) 21 0) (br := br) (to := 21) (v0 := 0) (r := 10) (p0 := (pB + 1)) (pe := pC) (ne := nC) (ve := vC) hN (by rw [va_up_ne _ _ (by decide), va_up_ne _ _ (by decide), va_up_self]) (by rw [va_up_ne _ _ (by decide), va_up_ne _ _ (by decide), va_up_ne _ _ (by decide)]; exact h104) hml ((va_up_ne _ _ (by decide)).trans ((va_up_ne _ _ (by decide)).trans ((va_up_ne _ _ (by decide)).trans hf12))) hl40 hch (by rw [va_up_ne _ _ (by decide), va_up_self]) (by rw [va_up_self]) hR71 hzz (by omega) (va_up_self ..) (by omega) ((va_up_ne _ _ (by decide)).trans ((va_up_ne _ _ (by decide)).trans (va_up_self ..))) (by omega) (Nat.pow_pos (by decide)) hmC) (fun  F24 hq => ?_)
                  obtain ⟨bh72, bl73, hR74, ⟨hpbC, hvbC⟩, eF24⟩ := hq
                  refine J_eqF (F2 := va_up (va_up (va_up F 98 (oM ad (va_up (va_up (va_up f 19 (pC : Int)) 7 (if chr ln 0 = 45 then (1 : Int) else 0)) 20 (nC : Int)) v)) 99 (.inl (g 0, 858, .inl (aI bh72)))) 100 (.inl (g 0, 33, .inl (aI bl73)))) ((eF24.trans (congrArg (fun qq : Nat → Int => va_up (va_up (va_up (va_up (va_up (va_up F 98 (oM ad (va_up (va_up (va_up f 19 ((pB + 1 : Nat) : Int)) 7 (if chr ln 0 = 45 then (1 : Int) else 0)) 20 (nB : Int)) v)) 99 (.inl (g 0, 858, .inl (aI bh8)))) 100 (.inl (g 0, 33, .inl (aI (va_up bl9 21 0))))) 98 (oM ad qq v)) 99 (.inl (g 0, 858, .inl (aI bh72)))) 100 (.inl (g 0, 33, .inl (aI bl73)))) (Eq.trans (congrArg (fun qq : Nat → Int => va_up qq 19 (pC : Int)) (up_in0)) (up_in2 (by decide) (by decide))))).trans (Eq.trans (Eq.trans (congrArg (fun q : Nat → va_E => va_up q 100 (.inl (g 0, 33, .inl (aI bl73)))) (congrArg (fun q : Nat → va_E => va_up q 99 (.inl (g 0, 858, .inl (aI bh72)))) (up_in2 (by decide) (by decide)))) (congrArg (fun q : Nat → va_E => va_up q 100 (.inl (g 0, 33, .inl (aI bl73)))) (up_in1 (by decide)))) (up_in0))) ?_
                  have hR75 := (congrArg (fun qq : Nat → Nat => reg _ _ _ (qq)) (up_in0)).mp hR74
                  have hnbC : nC ≤ 41 := by have h9 := mdg_n (w := ln) (r := 10) 41 (pB + 1) 0 0; rw [hmC] at h9; simp only at h9; omega
                  have hplC : pC ≤ ln.length := by have h9 := mdg_le (w := ln) (r := 10) 41 (pB + 1) 0 0 (by omega); rw [hmC] at h9; exact h9
                  refine J_aload_n 2 d_M_parsed_240 rfl rfl ?_
                  refine gf_M_250 (by omega) (by rw [va_up_ne _ _ (by decide), va_up_ne _ _ (by decide), va_up_self]) rfl d_M_parsed_241 ?_
                  refine J_topi (r := (nC : Int)) (congrArg iI (va_up_self ..)) ?_
                  refine J_ifle (tgt := 262) d_M_parsed_244 (by decide) ⟨by omega, by omega⟩ (fun c244 => ?_) (fun c244 => ?_)
                  · refine J_iconst d_M_parsed_262 ?_
                    refine J_iret rfl rfl d_M_parsed_263 ⟨by decide, by decide⟩ ?_
                    refine ⟨_, rfl, rfl, rfl, _, _, _, _, hR75, (fun k h1 h2 => (show (va_up (va_up V 20 vB) 21 vC) k = V k from by rw [va_up_ne _ _ (by omega), va_up_ne _ _ (by omega)])), (fun j h1 h2 h3 => (show (va_up (va_up (va_up f 19 (pC : Int)) 7 (if chr ln 0 = 45 then (1 : Int) else 0)) 20 (nC : Int)) j = f j from by rw [va_up_ne _ _ (by omega), va_up_ne _ _ (by omega), va_up_ne _ _ (by omega)])), ?_, ((va_up_ne _ _ (by decide)).trans (va_up_self ..)), rfl⟩
                    rw [show (va_up (va_up V 20 vB) 21 vC) 20 = vB from ((va_up_ne _ _ (by decide)).trans (va_up_self ..)), show (va_up (va_up V 20 vB) 21 vC) 21 = vC from (va_up_self ..)]
                    exact Or.inl ⟨hpr2.trans (by rw [hmC]; exact prQ_n (by omega)), rfl⟩
                  · refine J_aload_n 2 d_M_parsed_247 rfl rfl ?_
                    refine gf_M_244 (by omega) (by rw [va_up_ne _ _ (by decide), va_up_ne _ _ (by decide), va_up_self]) rfl d_M_parsed_248 ?_
                    refine J_topi (r := (pC : Int)) (congrArg iI ((va_up_ne _ _ (by decide)).trans ((va_up_ne _ _ (by decide)).trans (va_up_self ..)))) ?_
                    refine J_aload_n 2 d_M_parsed_251 rfl rfl ?_
                    refine gf_M_241 (by omega) (by rw [va_up_ne _ _ (by decide), va_up_ne _ _ (by decide), va_up_self]) rfl d_M_parsed_252 ?_
                    refine J_topi (r := (ln.length : Int)) (congrArg iI ((va_up_ne _ _ (by decide)).trans ((va_up_ne _ _ (by decide)).trans ((va_up_ne _ _ (by decide)).trans hf12)))) ?_
                    refine J_if_icmpne (tgt := 262) d_M_parsed_255 (by decide) ⟨by omega, by omega⟩ ⟨by omega, by omega⟩ (fun c255 => ?_) (fun c255 => ?_)
                    · refine J_iconst d_M_parsed_262 ?_
                      refine J_iret rfl rfl d_M_parsed_263 ⟨by decide, by decide⟩ ?_
                      refine ⟨_, rfl, rfl, rfl, _, _, _, _, hR75, (fun k h1 h2 => (show (va_up (va_up V 20 vB) 21 vC) k = V k from by rw [va_up_ne _ _ (by omega), va_up_ne _ _ (by omega)])), (fun j h1 h2 h3 => (show (va_up (va_up (va_up f 19 (pC : Int)) 7 (if chr ln 0 = 45 then (1 : Int) else 0)) 20 (nC : Int)) j = f j from by rw [va_up_ne _ _ (by omega), va_up_ne _ _ (by omega), va_up_ne _ _ (by omega)])), ?_, ((va_up_ne _ _ (by decide)).trans (va_up_self ..)), rfl⟩
                      rw [show (va_up (va_up V 20 vB) 21 vC) 20 = vB from ((va_up_ne _ _ (by decide)).trans (va_up_self ..)), show (va_up (va_up V 20 vB) 21 vC) 21 = vC from (va_up_self ..)]
                      exact Or.inl ⟨hpr2.trans (by rw [hmC]; exact prQ_n (by omega)), rfl⟩
                    · refine J_iconst d_M_parsed_258 ?_
                      refine J_goto (tgt := 263) d_M_parsed_259 (by decide) ?_
                      refine J_iret rfl rfl d_M_parsed_263 ⟨by decide, by decide⟩ ?_
                      refine ⟨_, rfl, rfl, rfl, _, _, _, _, hR75, (fun k h1 h2 => (show (va_up (va_up V 20 vB) 21 vC) k = V k from by rw [va_up_ne _ _ (by omega), va_up_ne _ _ (by omega)])), (fun j h1 h2 h3 => (show (va_up (va_up (va_up f 19 (pC : Int)) 7 (if chr ln 0 = 45 then (1 : Int) else 0)) 20 (nC : Int)) j = f j from by rw [va_up_ne _ _ (by omega), va_up_ne _ _ (by omega), va_up_ne _ _ (by omega)])), ?_, ((va_up_ne _ _ (by decide)).trans (va_up_self ..)), rfl⟩
                      rw [show (va_up (va_up V 20 vB) 21 vC) 20 = vB from ((va_up_ne _ _ (by decide)).trans (va_up_self ..)), show (va_up (va_up V 20 vB) 21 vC) 21 = vC from (va_up_self ..)]
                      exact prsOut_1 (hpr2.trans (by rw [hmC]; exact prQ_y (by omega) (by omega))) ⟨by decide, by decide⟩ hvbB hvbC hpbB hpbC (fun w => absurd rfl w)
            · refine J_iconst d_M_parsed_209 ?_
              refine J_iret rfl rfl d_M_parsed_210 ⟨by decide, by decide⟩ ?_
              refine ⟨_, rfl, rfl, rfl, _, _, _, _, hR11, (fun k h1 h2 => (show (va_up (va_up V 20 vB) 21 1) k = V k from by rw [va_up_ne _ _ (by omega), va_up_ne _ _ (by omega)])), (fun j h1 h2 h3 => (show (va_up (va_up (va_up f 19 (pB : Int)) 7 (if chr ln 0 = 45 then (1 : Int) else 0)) 20 (nB : Int)) j = f j from by rw [va_up_ne _ _ (by omega), va_up_ne _ _ (by omega), va_up_ne _ _ (by omega)])), ?_, ((va_up_ne _ _ (by decide)).trans (va_up_self ..)), rfl⟩
              rw [show (va_up (va_up V 20 vB) 21 1) 20 = vB from ((va_up_ne _ _ (by decide)).trans (va_up_self ..)), show (va_up (va_up V 20 vB) 21 1) 21 = 1 from (va_up_self ..)]
              exact prsOut_1 (hpr.trans (prD_w (by omega) (by omega))) ⟨by decide, by decide⟩ hvbB (show 1 < 16 ^ 1 by decide) hpbB (by decide) (fun _ => rfl)
        · refine J_iconst d_M_parsed_188 ?_
          refine J_goto (tgt := 193) d_M_parsed_189 (by decide) ?_
          refine J_istore_n (lv' := [(2, .int (iI 1)), (1, .int (iI (bs : Int))), (0, .ref (ad 98))]) d_M_parsed_193 rfl (by decide) rfl ?_
          refine J_iload_n 0 d_M_parsed_194 rfl rfl ?_
          refine J_ifeq (tgt := 211) d_M_parsed_195 (by decide) ⟨by omega, by omega⟩ (fun c195 => ?_) (fun c195 => ?_)
          · refine J_iload_n 0 d_M_parsed_211 rfl rfl ?_
            refine J_ifeq (tgt := 264) d_M_parsed_212 (by decide) ⟨by omega, by omega⟩ (fun c212 => ?_) (fun c212 => ?_)
            · refine J_pick (lv' := [(0, .ref (ad 98)), (2, .int (iI 1))]) [2, 0] rfl ?_
              exact lab264 (1 : Int) bh8 bl9 (by show _ ∨ _; omega) (by omega) (hpr.trans (prD_p (by omega) (by omega))) hR11
            · refine J_aload_n 2 d_M_parsed_215 rfl rfl ?_
              refine J_bipush d_M_parsed_216 (i8_ok (by decide)) ?_
              refine J_callVi cw_M_259 nh_M_takes2 pn_M_takes2 rfl rfl (by omega) (by rw [va_up_ne _ _ (by decide), va_up_ne _ _ (by decide), va_up_self]) (As := [.int (iI 47)]) (rest := []) rfl (Nat.le_of_ble_eq_true rfl) ⟨by decide, by decide⟩ rfl ⟨by decide, by decide⟩ d_M_parsed_218 (c_M_takes2 hfl (f := va_up (va_up (va_up f 19 (pB : Int)) 7 (if chr ln 0 = 45 then (1 : Int) else 0)) 20 (nB : Int)) (v := v) (lh := lh) (ln := ln) (p := pB) (c := 47) hN (by rw [va_up_ne _ _ (by decide), va_up_ne _ _ (by decide), va_up_self]) (by rw [va_up_ne _ _ (by decide), va_up_ne _ _ (by decide), va_up_ne _ _ (by decide)]; exact h104) hml ((va_up_ne _ _ (by decide)).trans ((va_up_ne _ _ (by decide)).trans ((va_up_ne _ _ (by decide)).trans hf12))) hl40 hch ((va_up_ne _ _ (by decide)).trans ((va_up_ne _ _ (by decide)).trans (va_up_self ..))) (by omega) (by omega)) (fun zq F25 hq => ?_)
              obtain ⟨hzq, eF25⟩ := hq
              refine J_eqF (F2 := va_up (va_up (va_up F 98 (oM ad (va_up (va_up (va_up f 19 ((tk ln pB 47 : Nat) : Int)) 7 (if chr ln 0 = 45 then (1 : Int) else 0)) 20 (nB : Int)) v)) 99 (.inl (g 0, 858, .inl (aI bh8)))) 100 (.inl (g 0, 33, .inl (aI bl9)))) ((eF25.trans (congrArg (fun qq : Nat → Int => va_up (va_up (va_up (va_up F 98 (oM ad (va_up (va_up (va_up f 19 (pB : Int)) 7 (if chr ln 0 = 45 then (1 : Int) else 0)) 20 (nB : Int)) v)) 99 (.inl (g 0, 858, .inl (aI bh8)))) 100 (.inl (g 0, 33, .inl (aI bl9)))) 98 (oM ad qq v)) (up_in2 (by decide) (by decide)))).trans (up_in2 (by decide) (by decide))) ?_
              refine J_ifeq (tgt := 264) d_M_parsed_221 (by decide) ⟨by omega, by omega⟩ (fun c221 => ?_) (fun c221 => ?_)
              · refine J_pick (lv' := [(0, .ref (ad 98)), (2, .int (iI 1))]) [2, 0] rfl ?_
                refine J_eqF (F2 := va_up (va_up (va_up F 98 (oM ad (va_up (va_up (va_up f 19 (pB : Int)) 7 (if chr ln 0 = 45 then (1 : Int) else 0)) 20 (nB : Int)) v)) 99 (.inl (g 0, 858, .inl (aI bh8)))) 100 (.inl (g 0, 33, .inl (aI bl9)))) (congrArg (fun qq : Int => va_up (va_up (va_up F 98 (oM ad (va_up (va_up (va_up f 19 qq) 7 (if chr ln 0 = 45 then (1 : Int) else 0)) 20 (nB : Int)) v)) 99 (.inl (g 0, 858, .inl (aI bh8)))) 100 (.inl (g 0, 33, .inl (aI bl9)))) (show ((tk ln pB 47 : Nat) : Int) = (pB : Int) from by rw [tk_n (by omega)])) ?_
                exact lab264 (1 : Int) bh8 bl9 (by show _ ∨ _; omega) (by omega) (hpr.trans (prD_p (by omega) (by omega))) hR11
              · have hc47 : chr ln pB = 47 := by omega
                refine J_eqF (F2 := va_up (va_up (va_up F 98 (oM ad (va_up (va_up (va_up f 19 ((pB + 1 : Nat) : Int)) 7 (if chr ln 0 = 45 then (1 : Int) else 0)) 20 (nB : Int)) v)) 99 (.inl (g 0, 858, .inl (aI bh8)))) 100 (.inl (g 0, 33, .inl (aI bl9)))) (congrArg (fun qq : Int => va_up (va_up (va_up F 98 (oM ad (va_up (va_up (va_up f 19 qq) 7 (if chr ln 0 = 45 then (1 : Int) else 0)) 20 (nB : Int)) v)) 99 (.inl (g 0, 858, .inl (aI bh8)))) 100 (.inl (g 0, 33, .inl (aI bl9)))) (show ((tk ln pB 47 : Nat) : Int) = ((pB + 1 : Nat) : Int) from by rw [tk_y (by omega)])) ?_
                refine J_aload_n 2 d_M_parsed_224 rfl rfl ?_
                refine gf_M_13 (by omega) (by rw [va_up_ne _ _ (by decide), va_up_ne _ _ (by decide), va_up_self]) rfl d_M_parsed_225 ?_
                refine J_bipush d_M_parsed_228 (i8_ok (by decide)) ?_
                refine J_iconst d_M_parsed_230 ?_
                refine J_iastore 0 rfl (by omega) (by rw [va_up_self]) (by omega) d_M_parsed_231 ?_
                refine J_eqF (F2 := va_up (va_up (va_up (va_up F 98 (oM ad (va_up (va_up (va_up f 19 ((pB + 1 : Nat) : Int)) 7 (if chr ln 0 = 45 then (1 : Int) else 0)) 20 (nB : Int)) v)) 99 (.inl (g 0, 858, .inl (aI bh8)))) 100 (.inl (g 0, 33, .inl (aI bl9)))) 100 (.inl (g 0, 33, .inl (aI (va_up bl9 21 0))))) (congrArg (fun q => va_up (va_up (va_up (va_up F 98 (oM ad (va_up (va_up (va_up f 19 ((pB + 1 : Nat) : Int)) 7 (if chr ln 0 = 45 then (1 : Int) else 0)) 20 (nB : Int)) v)) 99 (.inl (g 0, 858, .inl (aI bh8)))) 100 (.inl (g 0, 33, .inl (aI bl9)))) 100 (.inl (g 0, 33, .inl (aI (va_up bl9 q 0))))) (by omega : (21 : Int).toNat = 21)) ?_
                refine J_eqF (F2 := va_up (va_up (va_up F 98 (oM ad (va_up (va_up (va_up f 19 ((pB + 1 : Nat) : Int)) 7 (if chr ln 0 = 45 then (1 : Int) else 0)) 20 (nB : Int)) v)) 99 (.inl (g 0, 858, .inl (aI bh8)))) 100 (.inl (g 0, 33, .inl (aI (va_up bl9 21 0))))) (up_in0) ?_
                have hR76 := reg_w1 (hzz.1 _) (reg_zero hR11 21)
                have hR77 := (congrArg (fun qq : Nat → Nat => reg _ _ _ (qq)) (up_in0)).mp hR76
                have hpr2 : prs ln = prQ ln vB (mdg ln 10 41 (pB + 1) 0 0) := hpr.trans (prD_q (by omega) (by omega) hc47)
                refine J_aload_n 2 d_M_parsed_232 rfl rfl ?_
                refine J_bipush d_M_parsed_233 (i8_ok (by decide)) ?_
                refine J_bipush d_M_parsed_235 (i8_ok (by decide)) ?_
                obtain ⟨⟨pC, nC, vC⟩, hmC⟩ : ∃ x, mdg ln 10 41 (pB + 1) 0 0 = x := ⟨_, rfl⟩
                refine J_callVv cw_M_256 nh_M_digits pn_M_digits rfl rfl (by omega) (by rw [va_up_ne _ _ (by decide), va_up_ne _ _ (by decide), va_up_self]) (As := [.int (iI 10), .int (iI 21)]) (rest := []) rfl (Nat.le_of_ble_eq_true rfl) ⟨by decide, by decide⟩ rfl ⟨by decide, by decide⟩ d_M_parsed_237 (c_M_digits hfl (f := va_up (va_up (va_up f 19 ((pB + 1 : Nat) : Int)) 7 (if chr ln 0 = 45 then (1 : Int) else 0)) 20 (nB : Int)) (v := v) (lh := lh) (ln := ln) (hh := bh8) (ll := va_up bl9 21 0) (V := va_up (va_up V 20 vB) 21 0) (br := br) (to := 21) (v0 := 0) (r := 10) (p0 := (pB + 1)) (pe := pC) (ne := nC) (ve := vC) hN (by rw [va_up_ne _ _ (by decide), va_up_ne _ _ (by decide), va_up_self]) (by rw [va_up_ne _ _ (by decide), va_up_ne _ _ (by decide), va_up_ne _ _ (by decide)]; exact h104) hml ((va_up_ne _ _ (by decide)).trans ((va_up_ne _ _ (by decide)).trans ((va_up_ne _ _ (by decide)).trans hf12))) hl40 hch (by rw [va_up_ne _ _ (by decide), va_up_self]) (by rw [va_up_self]) hR77 hzz (by omega) (va_up_self ..) (by omega) ((va_up_ne _ _ (by decide)).trans ((va_up_ne _ _ (by decide)).trans (va_up_self ..))) (by omega) (Nat.pow_pos (by decide)) hmC) (fun  F26 hq => ?_)
                obtain ⟨bh78, bl79, hR80, ⟨hpbC, hvbC⟩, eF26⟩ := hq
                refine J_eqF (F2 := va_up (va_up (va_up F 98 (oM ad (va_up (va_up (va_up f 19 (pC : Int)) 7 (if chr ln 0 = 45 then (1 : Int) else 0)) 20 (nC : Int)) v)) 99 (.inl (g 0, 858, .inl (aI bh78)))) 100 (.inl (g 0, 33, .inl (aI bl79)))) ((eF26.trans (congrArg (fun qq : Nat → Int => va_up (va_up (va_up (va_up (va_up (va_up F 98 (oM ad (va_up (va_up (va_up f 19 ((pB + 1 : Nat) : Int)) 7 (if chr ln 0 = 45 then (1 : Int) else 0)) 20 (nB : Int)) v)) 99 (.inl (g 0, 858, .inl (aI bh8)))) 100 (.inl (g 0, 33, .inl (aI (va_up bl9 21 0))))) 98 (oM ad qq v)) 99 (.inl (g 0, 858, .inl (aI bh78)))) 100 (.inl (g 0, 33, .inl (aI bl79)))) (Eq.trans (congrArg (fun qq : Nat → Int => va_up qq 19 (pC : Int)) (up_in0)) (up_in2 (by decide) (by decide))))).trans (Eq.trans (Eq.trans (congrArg (fun q : Nat → va_E => va_up q 100 (.inl (g 0, 33, .inl (aI bl79)))) (congrArg (fun q : Nat → va_E => va_up q 99 (.inl (g 0, 858, .inl (aI bh78)))) (up_in2 (by decide) (by decide)))) (congrArg (fun q : Nat → va_E => va_up q 100 (.inl (g 0, 33, .inl (aI bl79)))) (up_in1 (by decide)))) (up_in0))) ?_
                have hR81 := (congrArg (fun qq : Nat → Nat => reg _ _ _ (qq)) (up_in0)).mp hR80
                have hnbC : nC ≤ 41 := by have h9 := mdg_n (w := ln) (r := 10) 41 (pB + 1) 0 0; rw [hmC] at h9; simp only at h9; omega
                have hplC : pC ≤ ln.length := by have h9 := mdg_le (w := ln) (r := 10) 41 (pB + 1) 0 0 (by omega); rw [hmC] at h9; exact h9
                refine J_aload_n 2 d_M_parsed_240 rfl rfl ?_
                refine gf_M_250 (by omega) (by rw [va_up_ne _ _ (by decide), va_up_ne _ _ (by decide), va_up_self]) rfl d_M_parsed_241 ?_
                refine J_topi (r := (nC : Int)) (congrArg iI (va_up_self ..)) ?_
                refine J_ifle (tgt := 262) d_M_parsed_244 (by decide) ⟨by omega, by omega⟩ (fun c244 => ?_) (fun c244 => ?_)
                · refine J_iconst d_M_parsed_262 ?_
                  refine J_iret rfl rfl d_M_parsed_263 ⟨by decide, by decide⟩ ?_
                  refine ⟨_, rfl, rfl, rfl, _, _, _, _, hR81, (fun k h1 h2 => (show (va_up (va_up V 20 vB) 21 vC) k = V k from by rw [va_up_ne _ _ (by omega), va_up_ne _ _ (by omega)])), (fun j h1 h2 h3 => (show (va_up (va_up (va_up f 19 (pC : Int)) 7 (if chr ln 0 = 45 then (1 : Int) else 0)) 20 (nC : Int)) j = f j from by rw [va_up_ne _ _ (by omega), va_up_ne _ _ (by omega), va_up_ne _ _ (by omega)])), ?_, ((va_up_ne _ _ (by decide)).trans (va_up_self ..)), rfl⟩
                  rw [show (va_up (va_up V 20 vB) 21 vC) 20 = vB from ((va_up_ne _ _ (by decide)).trans (va_up_self ..)), show (va_up (va_up V 20 vB) 21 vC) 21 = vC from (va_up_self ..)]
                  exact Or.inl ⟨hpr2.trans (by rw [hmC]; exact prQ_n (by omega)), rfl⟩
                · refine J_aload_n 2 d_M_parsed_247 rfl rfl ?_
                  refine gf_M_244 (by omega) (by rw [va_up_ne _ _ (by decide), va_up_ne _ _ (by decide), va_up_self]) rfl d_M_parsed_248 ?_
                  refine J_topi (r := (pC : Int)) (congrArg iI ((va_up_ne _ _ (by decide)).trans ((va_up_ne _ _ (by decide)).trans (va_up_self ..)))) ?_
                  refine J_aload_n 2 d_M_parsed_251 rfl rfl ?_
                  refine gf_M_241 (by omega) (by rw [va_up_ne _ _ (by decide), va_up_ne _ _ (by decide), va_up_self]) rfl d_M_parsed_252 ?_
                  refine J_topi (r := (ln.length : Int)) (congrArg iI ((va_up_ne _ _ (by decide)).trans ((va_up_ne _ _ (by decide)).trans ((va_up_ne _ _ (by decide)).trans hf12)))) ?_
                  refine J_if_icmpne (tgt := 262) d_M_parsed_255 (by decide) ⟨by omega, by omega⟩ ⟨by omega, by omega⟩ (fun c255 => ?_) (fun c255 => ?_)
                  · refine J_iconst d_M_parsed_262 ?_
                    refine J_iret rfl rfl d_M_parsed_263 ⟨by decide, by decide⟩ ?_
                    refine ⟨_, rfl, rfl, rfl, _, _, _, _, hR81, (fun k h1 h2 => (show (va_up (va_up V 20 vB) 21 vC) k = V k from by rw [va_up_ne _ _ (by omega), va_up_ne _ _ (by omega)])), (fun j h1 h2 h3 => (show (va_up (va_up (va_up f 19 (pC : Int)) 7 (if chr ln 0 = 45 then (1 : Int) else 0)) 20 (nC : Int)) j = f j from by rw [va_up_ne _ _ (by omega), va_up_ne _ _ (by omega), va_up_ne _ _ (by omega)])), ?_, ((va_up_ne _ _ (by decide)).trans (va_up_self ..)), rfl⟩
                    rw [show (va_up (va_up V 20 vB) 21 vC) 20 = vB from ((va_up_ne _ _ (by decide)).trans (va_up_self ..)), show (va_up (va_up V 20 vB) 21 vC) 21 = vC from (va_up_self ..)]
                    exact Or.inl ⟨hpr2.trans (by rw [hmC]; exact prQ_n (by omega)), rfl⟩
                  · refine J_iconst d_M_parsed_258 ?_
                    refine J_goto (tgt := 263) d_M_parsed_259 (by decide) ?_
                    refine J_iret rfl rfl d_M_parsed_263 ⟨by decide, by decide⟩ ?_
                    refine ⟨_, rfl, rfl, rfl, _, _, _, _, hR81, (fun k h1 h2 => (show (va_up (va_up V 20 vB) 21 vC) k = V k from by rw [va_up_ne _ _ (by omega), va_up_ne _ _ (by omega)])), (fun j h1 h2 h3 => (show (va_up (va_up (va_up f 19 (pC : Int)) 7 (if chr ln 0 = 45 then (1 : Int) else 0)) 20 (nC : Int)) j = f j from by rw [va_up_ne _ _ (by omega), va_up_ne _ _ (by omega), va_up_ne _ _ (by omega)])), ?_, ((va_up_ne _ _ (by decide)).trans (va_up_self ..)), rfl⟩
                    rw [show (va_up (va_up V 20 vB) 21 vC) 20 = vB from ((va_up_ne _ _ (by decide)).trans (va_up_self ..)), show (va_up (va_up V 20 vB) 21 vC) 21 = vC from (va_up_self ..)]
                    exact prsOut_1 (hpr2.trans (by rw [hmC]; exact prQ_y (by omega) (by omega))) ⟨by decide, by decide⟩ hvbB hvbC hpbB hpbC (fun w => absurd rfl w)
          · refine J_aload_n 2 d_M_parsed_198 rfl rfl ?_
            refine gf_M_244 (by omega) (by rw [va_up_ne _ _ (by decide), va_up_ne _ _ (by decide), va_up_self]) rfl d_M_parsed_199 ?_
            refine J_topi (r := (pB : Int)) (congrArg iI ((va_up_ne _ _ (by decide)).trans ((va_up_ne _ _ (by decide)).trans (va_up_self ..)))) ?_
            refine J_aload_n 2 d_M_parsed_202 rfl rfl ?_
            refine gf_M_241 (by omega) (by rw [va_up_ne _ _ (by decide), va_up_ne _ _ (by decide), va_up_self]) rfl d_M_parsed_203 ?_
            refine J_topi (r := (ln.length : Int)) (congrArg iI ((va_up_ne _ _ (by decide)).trans ((va_up_ne _ _ (by decide)).trans ((va_up_ne _ _ (by decide)).trans hf12)))) ?_
            refine J_if_icmpne (tgt := 211) d_M_parsed_206 (by decide) ⟨by omega, by omega⟩ ⟨by omega, by omega⟩ (fun c206 => ?_) (fun c206 => ?_)
            · refine J_iload_n 0 d_M_parsed_211 rfl rfl ?_
              refine J_ifeq (tgt := 264) d_M_parsed_212 (by decide) ⟨by omega, by omega⟩ (fun c212 => ?_) (fun c212 => ?_)
              · refine J_pick (lv' := [(0, .ref (ad 98)), (2, .int (iI 1))]) [2, 0] rfl ?_
                exact lab264 (1 : Int) bh8 bl9 (by show _ ∨ _; omega) (by omega) (hpr.trans (prD_p (by omega) (by omega))) hR11
              · refine J_aload_n 2 d_M_parsed_215 rfl rfl ?_
                refine J_bipush d_M_parsed_216 (i8_ok (by decide)) ?_
                refine J_callVi cw_M_259 nh_M_takes2 pn_M_takes2 rfl rfl (by omega) (by rw [va_up_ne _ _ (by decide), va_up_ne _ _ (by decide), va_up_self]) (As := [.int (iI 47)]) (rest := []) rfl (Nat.le_of_ble_eq_true rfl) ⟨by decide, by decide⟩ rfl ⟨by decide, by decide⟩ d_M_parsed_218 (c_M_takes2 hfl (f := va_up (va_up (va_up f 19 (pB : Int)) 7 (if chr ln 0 = 45 then (1 : Int) else 0)) 20 (nB : Int)) (v := v) (lh := lh) (ln := ln) (p := pB) (c := 47) hN (by rw [va_up_ne _ _ (by decide), va_up_ne _ _ (by decide), va_up_self]) (by rw [va_up_ne _ _ (by decide), va_up_ne _ _ (by decide), va_up_ne _ _ (by decide)]; exact h104) hml ((va_up_ne _ _ (by decide)).trans ((va_up_ne _ _ (by decide)).trans ((va_up_ne _ _ (by decide)).trans hf12))) hl40 hch ((va_up_ne _ _ (by decide)).trans ((va_up_ne _ _ (by decide)).trans (va_up_self ..))) (by omega) (by omega)) (fun zq F27 hq => ?_)
                obtain ⟨hzq, eF27⟩ := hq
                refine J_eqF (F2 := va_up (va_up (va_up F 98 (oM ad (va_up (va_up (va_up f 19 ((tk ln pB 47 : Nat) : Int)) 7 (if chr ln 0 = 45 then (1 : Int) else 0)) 20 (nB : Int)) v)) 99 (.inl (g 0, 858, .inl (aI bh8)))) 100 (.inl (g 0, 33, .inl (aI bl9)))) ((eF27.trans (congrArg (fun qq : Nat → Int => va_up (va_up (va_up (va_up F 98 (oM ad (va_up (va_up (va_up f 19 (pB : Int)) 7 (if chr ln 0 = 45 then (1 : Int) else 0)) 20 (nB : Int)) v)) 99 (.inl (g 0, 858, .inl (aI bh8)))) 100 (.inl (g 0, 33, .inl (aI bl9)))) 98 (oM ad qq v)) (up_in2 (by decide) (by decide)))).trans (up_in2 (by decide) (by decide))) ?_
                refine J_ifeq (tgt := 264) d_M_parsed_221 (by decide) ⟨by omega, by omega⟩ (fun c221 => ?_) (fun c221 => ?_)
                · refine J_pick (lv' := [(0, .ref (ad 98)), (2, .int (iI 1))]) [2, 0] rfl ?_
                  refine J_eqF (F2 := va_up (va_up (va_up F 98 (oM ad (va_up (va_up (va_up f 19 (pB : Int)) 7 (if chr ln 0 = 45 then (1 : Int) else 0)) 20 (nB : Int)) v)) 99 (.inl (g 0, 858, .inl (aI bh8)))) 100 (.inl (g 0, 33, .inl (aI bl9)))) (congrArg (fun qq : Int => va_up (va_up (va_up F 98 (oM ad (va_up (va_up (va_up f 19 qq) 7 (if chr ln 0 = 45 then (1 : Int) else 0)) 20 (nB : Int)) v)) 99 (.inl (g 0, 858, .inl (aI bh8)))) 100 (.inl (g 0, 33, .inl (aI bl9)))) (show ((tk ln pB 47 : Nat) : Int) = (pB : Int) from by rw [tk_n (by omega)])) ?_
                  exact lab264 (1 : Int) bh8 bl9 (by show _ ∨ _; omega) (by omega) (hpr.trans (prD_p (by omega) (by omega))) hR11
                · have hc47 : chr ln pB = 47 := by omega
                  refine J_eqF (F2 := va_up (va_up (va_up F 98 (oM ad (va_up (va_up (va_up f 19 ((pB + 1 : Nat) : Int)) 7 (if chr ln 0 = 45 then (1 : Int) else 0)) 20 (nB : Int)) v)) 99 (.inl (g 0, 858, .inl (aI bh8)))) 100 (.inl (g 0, 33, .inl (aI bl9)))) (congrArg (fun qq : Int => va_up (va_up (va_up F 98 (oM ad (va_up (va_up (va_up f 19 qq) 7 (if chr ln 0 = 45 then (1 : Int) else 0)) 20 (nB : Int)) v)) 99 (.inl (g 0, 858, .inl (aI bh8)))) 100 (.inl (g 0, 33, .inl (aI bl9)))) (show ((tk ln pB 47 : Nat) : Int) = ((pB + 1 : Nat) : Int) from by rw [tk_y (by omega)])) ?_
                  refine J_aload_n 2 d_M_parsed_224 rfl rfl ?_
                  refine gf_M_13 (by omega) (by rw [va_up_ne _ _ (by decide), va_up_ne _ _ (by decide), va_up_self]) rfl d_M_parsed_225 ?_
                  refine J_bipush d_M_parsed_228 (i8_ok (by decide)) ?_
                  refine J_iconst d_M_parsed_230 ?_
                  refine J_iastore 0 rfl (by omega) (by rw [va_up_self]) (by omega) d_M_parsed_231 ?_
                  refine J_eqF (F2 := va_up (va_up (va_up (va_up F 98 (oM ad (va_up (va_up (va_up f 19 ((pB + 1 : Nat) : Int)) 7 (if chr ln 0 = 45 then (1 : Int) else 0)) 20 (nB : Int)) v)) 99 (.inl (g 0, 858, .inl (aI bh8)))) 100 (.inl (g 0, 33, .inl (aI bl9)))) 100 (.inl (g 0, 33, .inl (aI (va_up bl9 21 0))))) (congrArg (fun q => va_up (va_up (va_up (va_up F 98 (oM ad (va_up (va_up (va_up f 19 ((pB + 1 : Nat) : Int)) 7 (if chr ln 0 = 45 then (1 : Int) else 0)) 20 (nB : Int)) v)) 99 (.inl (g 0, 858, .inl (aI bh8)))) 100 (.inl (g 0, 33, .inl (aI bl9)))) 100 (.inl (g 0, 33, .inl (aI (va_up bl9 q 0))))) (by omega : (21 : Int).toNat = 21)) ?_
                  refine J_eqF (F2 := va_up (va_up (va_up F 98 (oM ad (va_up (va_up (va_up f 19 ((pB + 1 : Nat) : Int)) 7 (if chr ln 0 = 45 then (1 : Int) else 0)) 20 (nB : Int)) v)) 99 (.inl (g 0, 858, .inl (aI bh8)))) 100 (.inl (g 0, 33, .inl (aI (va_up bl9 21 0))))) (up_in0) ?_
                  have hR82 := reg_w1 (hzz.1 _) (reg_zero hR11 21)
                  have hR83 := (congrArg (fun qq : Nat → Nat => reg _ _ _ (qq)) (up_in0)).mp hR82
                  have hpr2 : prs ln = prQ ln vB (mdg ln 10 41 (pB + 1) 0 0) := hpr.trans (prD_q (by omega) (by omega) hc47)
                  refine J_aload_n 2 d_M_parsed_232 rfl rfl ?_
                  refine J_bipush d_M_parsed_233 (i8_ok (by decide)) ?_
                  refine J_bipush d_M_parsed_235 (i8_ok (by decide)) ?_
                  obtain ⟨⟨pC, nC, vC⟩, hmC⟩ : ∃ x, mdg ln 10 41 (pB + 1) 0 0 = x := ⟨_, rfl⟩
                  refine J_callVv cw_M_256 nh_M_digits pn_M_digits rfl rfl (by omega) (by rw [va_up_ne _ _ (by decide), va_up_ne _ _ (by decide), va_up_self]) (As := [.int (iI 10), .int (iI 21)]) (rest := []) rfl (Nat.le_of_ble_eq_true rfl) ⟨by decide, by decide⟩ rfl ⟨by decide, by decide⟩ d_M_parsed_237 (c_M_digits hfl (f := va_up (va_up (va_up f 19 ((pB + 1 : Nat) : Int)) 7 (if chr ln 0 = 45 then (1 : Int) else 0)) 20 (nB : Int)) (v := v) (lh := lh) (ln := ln) (hh := bh8) (ll := va_up bl9 21 0) (V := va_up (va_up V 20 vB) 21 0) (br := br) (to := 21) (v0 := 0) (r := 10) (p0 := (pB + 1)) (pe := pC) (ne := nC) (ve := vC) hN (by rw [va_up_ne _ _ (by decide), va_up_ne _ _ (by decide), va_up_self]) (by rw [va_up_ne _ _ (by decide), va_up_ne _ _ (by decide), va_up_ne _ _ (by decide)]; exact h104) hml ((va_up_ne _ _ (by decide)).trans ((va_up_ne _ _ (by decide)).trans ((va_up_ne _ _ (by decide)).trans hf12))) hl40 hch (by rw [va_up_ne _ _ (by decide), va_up_self]) (by rw [va_up_self]) hR83 hzz (by omega) (va_up_self ..) (by omega) ((va_up_ne _ _ (by decide)).trans ((va_up_ne _ _ (by decide)).trans (va_up_self ..))) (by omega) (Nat.pow_pos (by decide)) hmC) (fun  F28 hq => ?_)
                  obtain ⟨bh84, bl85, hR86, ⟨hpbC, hvbC⟩, eF28⟩ := hq
                  refine J_eqF (F2 := va_up (va_up (va_up F 98 (oM ad (va_up (va_up (va_up f 19 (pC : Int)) 7 (if chr ln 0 = 45 then (1 : Int) else 0)) 20 (nC : Int)) v)) 99 (.inl (g 0, 858, .inl (aI bh84)))) 100 (.inl (g 0, 33, .inl (aI bl85)))) ((eF28.trans (congrArg (fun qq : Nat → Int => va_up (va_up (va_up (va_up (va_up (va_up F 98 (oM ad (va_up (va_up (va_up f 19 ((pB + 1 : Nat) : Int)) 7 (if chr ln 0 = 45 then (1 : Int) else 0)) 20 (nB : Int)) v)) 99 (.inl (g 0, 858, .inl (aI bh8)))) 100 (.inl (g 0, 33, .inl (aI (va_up bl9 21 0))))) 98 (oM ad qq v)) 99 (.inl (g 0, 858, .inl (aI bh84)))) 100 (.inl (g 0, 33, .inl (aI bl85)))) (Eq.trans (congrArg (fun qq : Nat → Int => va_up qq 19 (pC : Int)) (up_in0)) (up_in2 (by decide) (by decide))))).trans (Eq.trans (Eq.trans (congrArg (fun q : Nat → va_E => va_up q 100 (.inl (g 0, 33, .inl (aI bl85)))) (congrArg (fun q : Nat → va_E => va_up q 99 (.inl (g 0, 858, .inl (aI bh84)))) (up_in2 (by decide) (by decide)))) (congrArg (fun q : Nat → va_E => va_up q 100 (.inl (g 0, 33, .inl (aI bl85)))) (up_in1 (by decide)))) (up_in0))) ?_
                  have hR87 := (congrArg (fun qq : Nat → Nat => reg _ _ _ (qq)) (up_in0)).mp hR86
                  have hnbC : nC ≤ 41 := by have h9 := mdg_n (w := ln) (r := 10) 41 (pB + 1) 0 0; rw [hmC] at h9; simp only at h9; omega
                  have hplC : pC ≤ ln.length := by have h9 := mdg_le (w := ln) (r := 10) 41 (pB + 1) 0 0 (by omega); rw [hmC] at h9; exact h9
                  refine J_aload_n 2 d_M_parsed_240 rfl rfl ?_
                  refine gf_M_250 (by omega) (by rw [va_up_ne _ _ (by decide), va_up_ne _ _ (by decide), va_up_self]) rfl d_M_parsed_241 ?_
                  refine J_topi (r := (nC : Int)) (congrArg iI (va_up_self ..)) ?_
                  refine J_ifle (tgt := 262) d_M_parsed_244 (by decide) ⟨by omega, by omega⟩ (fun c244 => ?_) (fun c244 => ?_)
                  · refine J_iconst d_M_parsed_262 ?_
                    refine J_iret rfl rfl d_M_parsed_263 ⟨by decide, by decide⟩ ?_
                    refine ⟨_, rfl, rfl, rfl, _, _, _, _, hR87, (fun k h1 h2 => (show (va_up (va_up V 20 vB) 21 vC) k = V k from by rw [va_up_ne _ _ (by omega), va_up_ne _ _ (by omega)])), (fun j h1 h2 h3 => (show (va_up (va_up (va_up f 19 (pC : Int)) 7 (if chr ln 0 = 45 then (1 : Int) else 0)) 20 (nC : Int)) j = f j from by rw [va_up_ne _ _ (by omega), va_up_ne _ _ (by omega), va_up_ne _ _ (by omega)])), ?_, ((va_up_ne _ _ (by decide)).trans (va_up_self ..)), rfl⟩
                    rw [show (va_up (va_up V 20 vB) 21 vC) 20 = vB from ((va_up_ne _ _ (by decide)).trans (va_up_self ..)), show (va_up (va_up V 20 vB) 21 vC) 21 = vC from (va_up_self ..)]
                    exact Or.inl ⟨hpr2.trans (by rw [hmC]; exact prQ_n (by omega)), rfl⟩
                  · refine J_aload_n 2 d_M_parsed_247 rfl rfl ?_
                    refine gf_M_244 (by omega) (by rw [va_up_ne _ _ (by decide), va_up_ne _ _ (by decide), va_up_self]) rfl d_M_parsed_248 ?_
                    refine J_topi (r := (pC : Int)) (congrArg iI ((va_up_ne _ _ (by decide)).trans ((va_up_ne _ _ (by decide)).trans (va_up_self ..)))) ?_
                    refine J_aload_n 2 d_M_parsed_251 rfl rfl ?_
                    refine gf_M_241 (by omega) (by rw [va_up_ne _ _ (by decide), va_up_ne _ _ (by decide), va_up_self]) rfl d_M_parsed_252 ?_
                    refine J_topi (r := (ln.length : Int)) (congrArg iI ((va_up_ne _ _ (by decide)).trans ((va_up_ne _ _ (by decide)).trans ((va_up_ne _ _ (by decide)).trans hf12)))) ?_
                    refine J_if_icmpne (tgt := 262) d_M_parsed_255 (by decide) ⟨by omega, by omega⟩ ⟨by omega, by omega⟩ (fun c255 => ?_) (fun c255 => ?_)
                    · refine J_iconst d_M_parsed_262 ?_
                      refine J_iret rfl rfl d_M_parsed_263 ⟨by decide, by decide⟩ ?_
                      refine ⟨_, rfl, rfl, rfl, _, _, _, _, hR87, (fun k h1 h2 => (show (va_up (va_up V 20 vB) 21 vC) k = V k from by rw [va_up_ne _ _ (by omega), va_up_ne _ _ (by omega)])), (fun j h1 h2 h3 => (show (va_up (va_up (va_up f 19 (pC : Int)) 7 (if chr ln 0 = 45 then (1 : Int) else 0)) 20 (nC : Int)) j = f j from by rw [va_up_ne _ _ (by omega), va_up_ne _ _ (by omega), va_up_ne _ _ (by omega)])), ?_, ((va_up_ne _ _ (by decide)).trans (va_up_self ..)), rfl⟩
                      rw [show (va_up (va_up V 20 vB) 21 vC) 20 = vB from ((va_up_ne _ _ (by decide)).trans (va_up_self ..)), show (va_up (va_up V 20 vB) 21 vC) 21 = vC from (va_up_self ..)]
                      exact Or.inl ⟨hpr2.trans (by rw [hmC]; exact prQ_n (by omega)), rfl⟩
                    · refine J_iconst d_M_parsed_258 ?_
                      refine J_goto (tgt := 263) d_M_parsed_259 (by decide) ?_
                      refine J_iret rfl rfl d_M_parsed_263 ⟨by decide, by decide⟩ ?_
                      refine ⟨_, rfl, rfl, rfl, _, _, _, _, hR87, (fun k h1 h2 => (show (va_up (va_up V 20 vB) 21 vC) k = V k from by rw [va_up_ne _ _ (by omega), va_up_ne _ _ (by omega)])), (fun j h1 h2 h3 => (show (va_up (va_up (va_up f 19 (pC : Int)) 7 (if chr ln 0 = 45 then (1 : Int) else 0)) 20 (nC : Int)) j = f j from by rw [va_up_ne _ _ (by omega), va_up_ne _ _ (by omega), va_up_ne _ _ (by omega)])), ?_, ((va_up_ne _ _ (by decide)).trans (va_up_self ..)), rfl⟩
                      rw [show (va_up (va_up V 20 vB) 21 vC) 20 = vB from ((va_up_ne _ _ (by decide)).trans (va_up_self ..)), show (va_up (va_up V 20 vB) 21 vC) 21 = vC from (va_up_self ..)]
                      exact prsOut_1 (hpr2.trans (by rw [hmC]; exact prQ_y (by omega) (by omega))) ⟨by decide, by decide⟩ hvbB hvbC hpbB hpbC (fun w => absurd rfl w)
            · refine J_iconst d_M_parsed_209 ?_
              refine J_iret rfl rfl d_M_parsed_210 ⟨by decide, by decide⟩ ?_
              refine ⟨_, rfl, rfl, rfl, _, _, _, _, hR11, (fun k h1 h2 => (show (va_up (va_up V 20 vB) 21 1) k = V k from by rw [va_up_ne _ _ (by omega), va_up_ne _ _ (by omega)])), (fun j h1 h2 h3 => (show (va_up (va_up (va_up f 19 (pB : Int)) 7 (if chr ln 0 = 45 then (1 : Int) else 0)) 20 (nB : Int)) j = f j from by rw [va_up_ne _ _ (by omega), va_up_ne _ _ (by omega), va_up_ne _ _ (by omega)])), ?_, ((va_up_ne _ _ (by decide)).trans (va_up_self ..)), rfl⟩
              rw [show (va_up (va_up V 20 vB) 21 1) 20 = vB from ((va_up_ne _ _ (by decide)).trans (va_up_self ..)), show (va_up (va_up V 20 vB) 21 1) 21 = 1 from (va_up_self ..)]
              exact prsOut_1 (hpr.trans (prD_w (by omega) (by omega))) ⟨by decide, by decide⟩ hvbB (show 1 < 16 ^ 1 by decide) hpbB (by decide) (fun _ => rfl)
      · refine J_aload_n 1 d_M_parsed_132 rfl rfl ?_
        refine J_dup d_M_parsed_133 rfl ?_
        refine gf_M_244 (by omega) (by rw [va_up_ne _ _ (by decide), va_up_ne _ _ (by decide), va_up_self]) rfl d_M_parsed_134 ?_
        refine J_topi (r := (a : Int)) (congrArg iI ((va_up_ne _ _ (by decide)).trans (va_up_self ..))) ?_
        refine J_iconst d_M_parsed_137 ?_
        refine J_iadd d_M_parsed_138 ?_
        refine pm_M_244 (by omega) (by rw [va_up_ne _ _ (by decide), va_up_ne _ _ (by decide), va_up_self]) d_M_parsed_139 ?_
        refine J_eqF (F2 := va_up (va_up (va_up (va_up F 98 (oM ad (va_up (va_up f 19 (a : Int)) 7 (if chr ln 0 = 45 then (1 : Int) else 0)) v)) 99 (.inl (g 0, 858, .inl (aI e1)))) 100 (.inl (g 0, 33, .inl (aI e2)))) 98 (oM ad (va_up (va_up f 19 ((a : Int) + 2)) 7 (if chr ln 0 = 45 then (1 : Int) else 0)) v)) (congrArg (fun qq : Nat → Int => va_up (va_up (va_up (va_up F 98 (oM ad (va_up (va_up f 19 (a : Int)) 7 (if chr ln 0 = 45 then (1 : Int) else 0)) v)) 99 (.inl (g 0, 858, .inl (aI e1)))) 100 (.inl (g 0, 33, .inl (aI e2)))) 98 (oM ad qq v)) (up_in1 (by decide))) ?_
        refine J_eqF (F2 := va_up (va_up (va_up F 98 (oM ad (va_up (va_up f 19 ((a : Int) + 2)) 7 (if chr ln 0 = 45 then (1 : Int) else 0)) v)) 99 (.inl (g 0, 858, .inl (aI e1)))) 100 (.inl (g 0, 33, .inl (aI e2)))) (up_in2 (by decide) (by decide)) ?_
        refine J_eqF (F2 := va_up (va_up (va_up F 98 (oM ad (va_up (va_up f 19 ((a + 2 : Nat) : Int)) 7 (if chr ln 0 = 45 then (1 : Int) else 0)) v)) 99 (.inl (g 0, 858, .inl (aI e1)))) 100 (.inl (g 0, 33, .inl (aI e2)))) (congrArg (fun qq : Int => va_up (va_up (va_up F 98 (oM ad (va_up (va_up f 19 qq) 7 (if chr ln 0 = 45 then (1 : Int) else 0)) v)) 99 (.inl (g 0, 858, .inl (aI e1)))) 100 (.inl (g 0, 33, .inl (aI e2)))) (show (a : Int) + 2 = ((a + 2 : Nat) : Int) from by omega)) ?_
        refine J_aload_n 1 d_M_parsed_142 rfl rfl ?_
        refine J_iload_n 0 d_M_parsed_143 rfl rfl ?_
        refine J_bipush d_M_parsed_144 (i8_ok (by decide)) ?_
        obtain ⟨⟨pA, nA, vA⟩, hmA⟩ : ∃ x, mdg ln bs 41 (a + 2) 0 0 = x := ⟨_, rfl⟩
        refine J_callVv cw_M_256 nh_M_digits pn_M_digits rfl rfl (by omega) (by rw [va_up_ne _ _ (by decide), va_up_ne _ _ (by decide), va_up_self]) (As := [.int (iI (bs : Int)), .int (iI 20)]) (rest := []) rfl (Nat.le_of_ble_eq_true rfl) ⟨by decide, by decide⟩ rfl ⟨by decide, by decide⟩ d_M_parsed_146 (c_M_digits hfl (f := va_up (va_up f 19 ((a + 2 : Nat) : Int)) 7 (if chr ln 0 = 45 then (1 : Int) else 0)) (v := v) (lh := lh) (ln := ln) (hh := e1) (ll := e2) (V := va_up (va_up V 20 0) 21 1) (br := br) (to := 20) (v0 := 0) (r := bs) (p0 := (a + 2)) (pe := pA) (ne := nA) (ve := vA) hN (by rw [va_up_ne _ _ (by decide), va_up_ne _ _ (by decide), va_up_self]) (by rw [va_up_ne _ _ (by decide), va_up_ne _ _ (by decide), va_up_ne _ _ (by decide)]; exact h104) hml ((va_up_ne _ _ (by decide)).trans ((va_up_ne _ _ (by decide)).trans hf12)) hl40 hch (by rw [va_up_ne _ _ (by decide), va_up_self]) (by rw [va_up_self]) hRL66 hzz (by omega) ((va_up_ne _ _ (by decide)).trans (va_up_self ..)) (by omega) ((va_up_ne _ _ (by decide)).trans (va_up_self ..)) (by omega) (Nat.pow_pos (by decide)) hmA) (fun  F29 hq => ?_)
        obtain ⟨bh88, bl89, hR90, ⟨hpbA, hvbA⟩, eF29⟩ := hq
        refine J_eqF (F2 := va_up (va_up (va_up F 98 (oM ad (va_up (va_up (va_up f 19 (pA : Int)) 7 (if chr ln 0 = 45 then (1 : Int) else 0)) 20 (nA : Int)) v)) 99 (.inl (g 0, 858, .inl (aI bh88)))) 100 (.inl (g 0, 33, .inl (aI bl89)))) ((eF29.trans (congrArg (fun qq : Nat → Int => va_up (va_up (va_up (va_up (va_up (va_up F 98 (oM ad (va_up (va_up f 19 ((a + 2 : Nat) : Int)) 7 (if chr ln 0 = 45 then (1 : Int) else 0)) v)) 99 (.inl (g 0, 858, .inl (aI e1)))) 100 (.inl (g 0, 33, .inl (aI e2)))) 98 (oM ad qq v)) 99 (.inl (g 0, 858, .inl (aI bh88)))) 100 (.inl (g 0, 33, .inl (aI bl89)))) (up_in2 (by decide) (by decide)))).trans (Eq.trans (Eq.trans (congrArg (fun q : Nat → va_E => va_up q 100 (.inl (g 0, 33, .inl (aI bl89)))) (congrArg (fun q : Nat → va_E => va_up q 99 (.inl (g 0, 858, .inl (aI bh88)))) (up_in2 (by decide) (by decide)))) (congrArg (fun q : Nat → va_E => va_up q 100 (.inl (g 0, 33, .inl (aI bl89)))) (up_in1 (by decide)))) (up_in0))) ?_
        have hR91 := (congrArg (fun qq : Nat → Nat => reg _ _ _ (qq)) (up_in1 (by decide))).mp hR90
        have hnbA : nA ≤ 41 := by have h9 := mdg_n (w := ln) (r := bs) 41 (a + 2) 0 0; rw [hmA] at h9; simp only at h9; omega
        have hplA : pA ≤ ln.length := by have h9 := mdg_le (w := ln) (r := bs) 41 (a + 2) 0 0 (by omega); rw [hmA] at h9; exact h9
        refine J_aload_n 1 d_M_parsed_149 rfl rfl ?_
        refine gf_M_250 (by omega) (by rw [va_up_ne _ _ (by decide), va_up_ne _ _ (by decide), va_up_self]) rfl d_M_parsed_150 ?_
        refine J_topi (r := (nA : Int)) (congrArg iI (va_up_self ..)) ?_
        refine J_ifle (tgt := 171) d_M_parsed_153 (by decide) ⟨by omega, by omega⟩ (fun c153 => ?_) (fun c153 => ?_)
        · refine J_iconst d_M_parsed_171 ?_
          refine J_iret rfl rfl d_M_parsed_172 ⟨by decide, by decide⟩ ?_
          refine ⟨_, rfl, rfl, rfl, _, _, _, _, hR91, (fun k h1 h2 => (show (va_up (va_up V 20 vA) 21 1) k = V k from by rw [va_up_ne _ _ (by omega), va_up_ne _ _ (by omega)])), (fun j h1 h2 h3 => (show (va_up (va_up (va_up f 19 (pA : Int)) 7 (if chr ln 0 = 45 then (1 : Int) else 0)) 20 (nA : Int)) j = f j from by rw [va_up_ne _ _ (by omega), va_up_ne _ _ (by omega), va_up_ne _ _ (by omega)])), ?_, ((va_up_ne _ _ (by decide)).trans (va_up_self ..)), rfl⟩
          rw [show (va_up (va_up V 20 vA) 21 1) 20 = vA from ((va_up_ne _ _ (by decide)).trans (va_up_self ..)), show (va_up (va_up V 20 vA) 21 1) 21 = 1 from (va_up_self ..)]
          exact Or.inl ⟨(hpr.trans (if_neg (by omega))).trans (by rw [hmA]; exact prB_n (by omega)), rfl⟩
        · refine J_aload_n 1 d_M_parsed_156 rfl rfl ?_
          refine gf_M_244 (by omega) (by rw [va_up_ne _ _ (by decide), va_up_ne _ _ (by decide), va_up_self]) rfl d_M_parsed_157 ?_
          refine J_topi (r := (pA : Int)) (congrArg iI ((va_up_ne _ _ (by decide)).trans ((va_up_ne _ _ (by decide)).trans (va_up_self ..)))) ?_
          refine J_aload_n 1 d_M_parsed_160 rfl rfl ?_
          refine gf_M_241 (by omega) (by rw [va_up_ne _ _ (by decide), va_up_ne _ _ (by decide), va_up_self]) rfl d_M_parsed_161 ?_
          refine J_topi (r := (ln.length : Int)) (congrArg iI ((va_up_ne _ _ (by decide)).trans ((va_up_ne _ _ (by decide)).trans ((va_up_ne _ _ (by decide)).trans hf12)))) ?_
          refine J_if_icmpne (tgt := 171) d_M_parsed_164 (by decide) ⟨by omega, by omega⟩ ⟨by omega, by omega⟩ (fun c164 => ?_) (fun c164 => ?_)
          · refine J_iconst d_M_parsed_171 ?_
            refine J_iret rfl rfl d_M_parsed_172 ⟨by decide, by decide⟩ ?_
            refine ⟨_, rfl, rfl, rfl, _, _, _, _, hR91, (fun k h1 h2 => (show (va_up (va_up V 20 vA) 21 1) k = V k from by rw [va_up_ne _ _ (by omega), va_up_ne _ _ (by omega)])), (fun j h1 h2 h3 => (show (va_up (va_up (va_up f 19 (pA : Int)) 7 (if chr ln 0 = 45 then (1 : Int) else 0)) 20 (nA : Int)) j = f j from by rw [va_up_ne _ _ (by omega), va_up_ne _ _ (by omega), va_up_ne _ _ (by omega)])), ?_, ((va_up_ne _ _ (by decide)).trans (va_up_self ..)), rfl⟩
            rw [show (va_up (va_up V 20 vA) 21 1) 20 = vA from ((va_up_ne _ _ (by decide)).trans (va_up_self ..)), show (va_up (va_up V 20 vA) 21 1) 21 = 1 from (va_up_self ..)]
            exact Or.inl ⟨(hpr.trans (if_neg (by omega))).trans (by rw [hmA]; exact prB_n (by omega)), rfl⟩
          · refine J_iconst d_M_parsed_167 ?_
            refine J_goto (tgt := 172) d_M_parsed_168 (by decide) ?_
            refine J_iret rfl rfl d_M_parsed_172 ⟨by decide, by decide⟩ ?_
            refine ⟨_, rfl, rfl, rfl, _, _, _, _, hR91, (fun k h1 h2 => (show (va_up (va_up V 20 vA) 21 1) k = V k from by rw [va_up_ne _ _ (by omega), va_up_ne _ _ (by omega)])), (fun j h1 h2 h3 => (show (va_up (va_up (va_up f 19 (pA : Int)) 7 (if chr ln 0 = 45 then (1 : Int) else 0)) 20 (nA : Int)) j = f j from by rw [va_up_ne _ _ (by omega), va_up_ne _ _ (by omega), va_up_ne _ _ (by omega)])), ?_, ((va_up_ne _ _ (by decide)).trans (va_up_self ..)), rfl⟩
            rw [show (va_up (va_up V 20 vA) 21 1) 20 = vA from ((va_up_ne _ _ (by decide)).trans (va_up_self ..)), show (va_up (va_up V 20 vA) 21 1) 21 = 1 from (va_up_self ..)]
            exact prsOut_1 ((hpr.trans (if_neg (by omega))).trans (by rw [hmA]; exact prB_y (by omega) (by omega))) ⟨by decide, by decide⟩ hvbA (show 1 < 16 ^ 1 by decide) hpbA (by decide) (fun _ => rfl)
    refine J_aload_n 0 d_M_parsed_66 rfl rfl ?_
    refine J_aload_n 0 d_M_parsed_67 rfl rfl ?_
    refine gf_M_244 (by omega) (by rw [va_up_ne _ _ (by decide), va_up_ne _ _ (by decide), va_up_self]) rfl d_M_parsed_68 ?_
    refine J_topi (r := (a : Int)) (congrArg iI ((va_up_ne _ _ (by decide)).trans (va_up_self ..))) ?_
    refine J_callVi cw_M_247 nh_M_here pn_M_here rfl rfl (by omega) (by rw [va_up_ne _ _ (by decide), va_up_ne _ _ (by decide), va_up_self]) (As := [.int (iI (a : Int))]) (rest := []) rfl (Nat.le_of_ble_eq_true rfl) ⟨by decide, by decide⟩ rfl ⟨by decide, by decide⟩ d_M_parsed_71 (c_M_here hfl (f := va_up (va_up f 19 (a : Int)) 7 (if chr ln 0 = 45 then (1 : Int) else 0)) (v := v) (lh := lh) (ln := ln) (k := a) hN (by rw [va_up_ne _ _ (by decide), va_up_ne _ _ (by decide), va_up_self]) (by rw [va_up_ne _ _ (by decide), va_up_ne _ _ (by decide), va_up_ne _ _ (by decide)]; exact h104) hml ((va_up_ne _ _ (by decide)).trans ((va_up_ne _ _ (by decide)).trans hf12)) hl40 hch (by omega)) (fun z92 F30 hq => ?_)
    obtain ⟨hz92, eF30⟩ := hq
    refine J_eqF eF30 ?_
    refine J_topi (r := (((chr ln a : Nat)) : Int)) (congrArg iI hz92) ?_
    refine J_bipush d_M_parsed_74 (i8_ok (by decide)) ?_
    refine J_if_icmpeq (tgt := 84) d_M_parsed_76 (by decide) ⟨by omega, by omega⟩ ⟨by omega, by omega⟩ (fun c76 => ?_) (fun c76 => ?_)
    · refine J_aload_n 0 d_M_parsed_84 rfl rfl ?_
      refine J_aload_n 0 d_M_parsed_85 rfl rfl ?_
      refine gf_M_244 (by omega) (by rw [va_up_ne _ _ (by decide), va_up_ne _ _ (by decide), va_up_self]) rfl d_M_parsed_86 ?_
      refine J_topi (r := (a : Int)) (congrArg iI ((va_up_ne _ _ (by decide)).trans (va_up_self ..))) ?_
      refine J_iconst d_M_parsed_89 ?_
      refine J_iadd d_M_parsed_90 ?_
      refine J_callVi cw_M_247 nh_M_here pn_M_here rfl rfl (by omega) (by rw [va_up_ne _ _ (by decide), va_up_ne _ _ (by decide), va_up_self]) (As := [.int (iI ((a : Int) + 1))]) (rest := []) rfl (Nat.le_of_ble_eq_true rfl) ⟨by decide, by decide⟩ rfl ⟨by decide, by decide⟩ d_M_parsed_91 (c_M_here hfl (f := va_up (va_up f 19 (a : Int)) 7 (if chr ln 0 = 45 then (1 : Int) else 0)) (v := v) (lh := lh) (ln := ln) (k := a + 1) hN (by rw [va_up_ne _ _ (by decide), va_up_ne _ _ (by decide), va_up_self]) (by rw [va_up_ne _ _ (by decide), va_up_ne _ _ (by decide), va_up_ne _ _ (by decide)]; exact h104) hml ((va_up_ne _ _ (by decide)).trans ((va_up_ne _ _ (by decide)).trans hf12)) hl40 hch (by omega)) (fun z93 F31 hq => ?_)
      obtain ⟨hz93, eF31⟩ := hq
      refine J_eqF eF31 ?_
      refine J_topi (r := (((chr ln (a + 1) : Nat)) : Int)) (congrArg iI hz93) ?_
      refine J_bipush d_M_parsed_94 (i8_ok (by decide)) ?_
      refine J_if_icmpne (tgt := 104) d_M_parsed_96 (by decide) ⟨by omega, by omega⟩ ⟨by omega, by omega⟩ (fun c96 => ?_) (fun c96 => ?_)
      · refine J_aload_n 0 d_M_parsed_104 rfl rfl ?_
        refine J_aload_n 0 d_M_parsed_105 rfl rfl ?_
        refine gf_M_244 (by omega) (by rw [va_up_ne _ _ (by decide), va_up_ne _ _ (by decide), va_up_self]) rfl d_M_parsed_106 ?_
        refine J_topi (r := (a : Int)) (congrArg iI ((va_up_ne _ _ (by decide)).trans (va_up_self ..))) ?_
        refine J_iconst d_M_parsed_109 ?_
        refine J_iadd d_M_parsed_110 ?_
        refine J_callVi cw_M_247 nh_M_here pn_M_here rfl rfl (by omega) (by rw [va_up_ne _ _ (by decide), va_up_ne _ _ (by decide), va_up_self]) (As := [.int (iI ((a : Int) + 1))]) (rest := []) rfl (Nat.le_of_ble_eq_true rfl) ⟨by decide, by decide⟩ rfl ⟨by decide, by decide⟩ d_M_parsed_111 (c_M_here hfl (f := va_up (va_up f 19 (a : Int)) 7 (if chr ln 0 = 45 then (1 : Int) else 0)) (v := v) (lh := lh) (ln := ln) (k := a + 1) hN (by rw [va_up_ne _ _ (by decide), va_up_ne _ _ (by decide), va_up_self]) (by rw [va_up_ne _ _ (by decide), va_up_ne _ _ (by decide), va_up_ne _ _ (by decide)]; exact h104) hml ((va_up_ne _ _ (by decide)).trans ((va_up_ne _ _ (by decide)).trans hf12)) hl40 hch (by omega)) (fun z94 F32 hq => ?_)
        obtain ⟨hz94, eF32⟩ := hq
        refine J_eqF eF32 ?_
        refine J_topi (r := (((chr ln (a + 1) : Nat)) : Int)) (congrArg iI hz94) ?_
        refine J_bipush d_M_parsed_114 (i8_ok (by decide)) ?_
        refine J_if_icmpne (tgt := 123) d_M_parsed_116 (by decide) ⟨by omega, by omega⟩ ⟨by omega, by omega⟩ (fun c116 => ?_) (fun c116 => ?_)
        · refine J_bipush d_M_parsed_123 (i8_ok (by decide)) ?_
          exact lab125 10 (by unfold pbs; rw [if_pos (by omega), if_neg (by omega), if_neg (by omega)]) (by omega)
        · refine J_iconst d_M_parsed_119 ?_
          refine J_goto (tgt := 125) d_M_parsed_120 (by decide) ?_
          exact lab125 2 (by unfold pbs; rw [if_pos (by omega), if_neg (by omega), if_pos (by omega)]) (by omega)
      · refine J_bipush d_M_parsed_99 (i8_ok (by decide)) ?_
        refine J_goto (tgt := 125) d_M_parsed_101 (by decide) ?_
        exact lab125 16 (by unfold pbs; rw [if_pos (by omega), if_pos (by omega)]) (by omega)
    · refine J_bipush d_M_parsed_79 (i8_ok (by decide)) ?_
      refine J_goto (tgt := 125) d_M_parsed_81 (by decide) ?_
      exact lab125 10 (by unfold pbs; rw [if_neg (by omega)]) (by omega)
  refine J_aload_n 0 d_M_parsed_20 rfl rfl ?_
  refine J_aload_n 0 d_M_parsed_21 rfl rfl ?_
  refine J_iconst d_M_parsed_22 ?_
  refine J_callVi cw_M_247 nh_M_here pn_M_here rfl rfl (by omega) (by rw [va_up_ne _ _ (by decide), va_up_ne _ _ (by decide), va_up_self]) (As := [.int (iI 0)]) (rest := [.ref (ad 98)]) rfl (Nat.le_of_ble_eq_true rfl) ⟨by decide, by decide⟩ rfl ⟨by decide, by decide⟩ d_M_parsed_23 (c_M_here hfl (f := va_up f 19 0) (v := v) (lh := lh) (ln := ln) (k := 0) hN (by rw [va_up_ne _ _ (by decide), va_up_ne _ _ (by decide), va_up_self]) (by rw [va_up_ne _ _ (by decide), va_up_ne _ _ (by decide), va_up_ne _ _ (by decide)]; exact h104) hml ((va_up_ne _ _ (by decide)).trans hf12) hl40 hch (by omega)) (fun z95 F33 hq => ?_)
  obtain ⟨hz95, eF33⟩ := hq
  refine J_eqF eF33 ?_
  refine J_topi (r := (((chr ln 0 : Nat)) : Int)) (congrArg iI hz95) ?_
  have hcb0 := chr_b hch 0
  refine J_bipush d_M_parsed_26 (i8_ok (by decide)) ?_
  refine J_if_icmpne (tgt := 35) d_M_parsed_28 (by decide) ⟨by omega, by omega⟩ ⟨by omega, by omega⟩ (fun c28 => ?_) (fun c28 => ?_)
  · refine J_iconst d_M_parsed_35 ?_
    refine pm_M_129 (by omega) (by rw [va_up_ne _ _ (by decide), va_up_ne _ _ (by decide), va_up_self]) (nb01 (by omega)) d_M_parsed_36 ?_
    refine J_eqF (F2 := va_up (va_up (va_up F 98 (oM ad (va_up (va_up f 19 0) 7 0) v)) 100 (.inl (g 0, 33, .inl (aI bl3)))) 99 (.inl (g 0, 858, .inl (aI bh2)))) (up_in2 (by decide) (by decide)) ?_
    refine J_eqF (F2 := va_up (va_up (va_up F 98 (oM ad (va_up (va_up f 19 0) 7 (if chr ln 0 = 45 then (1 : Int) else 0)) v)) 100 (.inl (g 0, 33, .inl (aI bl3)))) 99 (.inl (g 0, 858, .inl (aI bh2)))) (congrArg (fun qq : Int => va_up (va_up (va_up F 98 (oM ad (va_up (va_up f 19 0) 7 qq) v)) 100 (.inl (g 0, 33, .inl (aI bl3)))) 99 (.inl (g 0, 858, .inl (aI bh2)))) (show 0 = (if chr ln 0 = 45 then (1 : Int) else 0) from by rw [if_neg (by omega)])) ?_
    refine J_aload_n 0 d_M_parsed_39 rfl rfl ?_
    refine gf_M_129 (by omega) (by rw [va_up_ne _ _ (by decide), va_up_ne _ _ (by decide), va_up_self]) rfl d_M_parsed_40 ?_
    refine J_topi (r := (if chr ln 0 = 45 then (1 : Int) else 0)) (congrArg iI (va_up_self ..)) ?_
    refine J_ifne (tgt := 56) d_M_parsed_43 (by decide) ⟨by omega, by omega⟩ (fun c43 => ?_) (fun c43 => ?_)
    · refine J_aload_n 0 d_M_parsed_56 rfl rfl ?_
      refine J_dup d_M_parsed_57 rfl ?_
      refine gf_M_244 (by omega) (by rw [va_up_ne _ _ (by decide), va_up_ne _ _ (by decide), va_up_self]) rfl d_M_parsed_58 ?_
      refine J_topi (r := 0) (congrArg iI ((va_up_ne _ _ (by decide)).trans (va_up_self ..))) ?_
      refine J_iconst d_M_parsed_61 ?_
      refine J_iadd d_M_parsed_62 ?_
      refine J_topi (r := 1) (congrArg iI (by omega)) ?_
      refine pm_M_244 (by omega) (by rw [va_up_ne _ _ (by decide), va_up_ne _ _ (by decide), va_up_self]) d_M_parsed_63 ?_
      refine J_eqF (F2 := va_up (va_up (va_up (va_up F 98 (oM ad (va_up (va_up f 19 0) 7 (if chr ln 0 = 45 then (1 : Int) else 0)) v)) 100 (.inl (g 0, 33, .inl (aI bl3)))) 99 (.inl (g 0, 858, .inl (aI bh2)))) 98 (oM ad (va_up (va_up f 19 1) 7 (if chr ln 0 = 45 then (1 : Int) else 0)) v)) (congrArg (fun qq : Nat → Int => va_up (va_up (va_up (va_up F 98 (oM ad (va_up (va_up f 19 0) 7 (if chr ln 0 = 45 then (1 : Int) else 0)) v)) 100 (.inl (g 0, 33, .inl (aI bl3)))) 99 (.inl (g 0, 858, .inl (aI bh2)))) 98 (oM ad qq v)) (up_in1 (by decide))) ?_
      refine J_eqF (F2 := va_up (va_up (va_up F 98 (oM ad (va_up (va_up f 19 1) 7 (if chr ln 0 = 45 then (1 : Int) else 0)) v)) 100 (.inl (g 0, 33, .inl (aI bl3)))) 99 (.inl (g 0, 858, .inl (aI bh2)))) (up_in2 (by decide) (by decide)) ?_
      refine J_eqF (F2 := va_up (va_up (va_up F 98 (oM ad (va_up (va_up f 19 1) 7 (if chr ln 0 = 45 then (1 : Int) else 0)) v)) 99 (.inl (g 0, 858, .inl (aI bh2)))) 100 (.inl (g 0, 33, .inl (aI bl3)))) (up_cm (by decide)) ?_
      exact lab66 1 bh2 bl3 (by unfold psg; rw [if_pos (by omega)]) (by omega) hR7
    · refine J_aload_n 0 d_M_parsed_46 rfl rfl ?_
      refine J_iconst d_M_parsed_47 ?_
      refine J_callVi cw_M_247 nh_M_here pn_M_here rfl rfl (by omega) (by rw [va_up_ne _ _ (by decide), va_up_ne _ _ (by decide), va_up_self]) (As := [.int (iI 0)]) (rest := []) rfl (Nat.le_of_ble_eq_true rfl) ⟨by decide, by decide⟩ rfl ⟨by decide, by decide⟩ d_M_parsed_48 (c_M_here hfl (f := va_up (va_up f 19 0) 7 (if chr ln 0 = 45 then (1 : Int) else 0)) (v := v) (lh := lh) (ln := ln) (k := 0) hN (by rw [va_up_ne _ _ (by decide), va_up_ne _ _ (by decide), va_up_self]) (by rw [va_up_ne _ _ (by decide), va_up_ne _ _ (by decide), va_up_ne _ _ (by decide)]; exact h104) hml ((va_up_ne _ _ (by decide)).trans ((va_up_ne _ _ (by decide)).trans hf12)) hl40 hch (by omega)) (fun z96 F34 hq => ?_)
      obtain ⟨hz96, eF34⟩ := hq
      refine J_eqF eF34 ?_
      refine J_topi (r := (((chr ln 0 : Nat)) : Int)) (congrArg iI hz96) ?_
      refine J_bipush d_M_parsed_51 (i8_ok (by decide)) ?_
      refine J_if_icmpne (tgt := 66) d_M_parsed_53 (by decide) ⟨by omega, by omega⟩ ⟨by omega, by omega⟩ (fun c53 => ?_) (fun c53 => ?_)
      · refine J_eqF (F2 := va_up (va_up (va_up F 98 (oM ad (va_up (va_up f 19 0) 7 (if chr ln 0 = 45 then (1 : Int) else 0)) v)) 99 (.inl (g 0, 858, .inl (aI bh2)))) 100 (.inl (g 0, 33, .inl (aI bl3)))) (up_cm (by decide)) ?_
        exact lab66 0 bh2 bl3 (by unfold psg; rw [if_neg (by omega)]) (by omega) hR7
      · refine J_aload_n 0 d_M_parsed_56 rfl rfl ?_
        refine J_dup d_M_parsed_57 rfl ?_
        refine gf_M_244 (by omega) (by rw [va_up_ne _ _ (by decide), va_up_ne _ _ (by decide), va_up_self]) rfl d_M_parsed_58 ?_
        refine J_topi (r := 0) (congrArg iI ((va_up_ne _ _ (by decide)).trans (va_up_self ..))) ?_
        refine J_iconst d_M_parsed_61 ?_
        refine J_iadd d_M_parsed_62 ?_
        refine J_topi (r := 1) (congrArg iI (by omega)) ?_
        refine pm_M_244 (by omega) (by rw [va_up_ne _ _ (by decide), va_up_ne _ _ (by decide), va_up_self]) d_M_parsed_63 ?_
        refine J_eqF (F2 := va_up (va_up (va_up (va_up F 98 (oM ad (va_up (va_up f 19 0) 7 (if chr ln 0 = 45 then (1 : Int) else 0)) v)) 100 (.inl (g 0, 33, .inl (aI bl3)))) 99 (.inl (g 0, 858, .inl (aI bh2)))) 98 (oM ad (va_up (va_up f 19 1) 7 (if chr ln 0 = 45 then (1 : Int) else 0)) v)) (congrArg (fun qq : Nat → Int => va_up (va_up (va_up (va_up F 98 (oM ad (va_up (va_up f 19 0) 7 (if chr ln 0 = 45 then (1 : Int) else 0)) v)) 100 (.inl (g 0, 33, .inl (aI bl3)))) 99 (.inl (g 0, 858, .inl (aI bh2)))) 98 (oM ad qq v)) (up_in1 (by decide))) ?_
        refine J_eqF (F2 := va_up (va_up (va_up F 98 (oM ad (va_up (va_up f 19 1) 7 (if chr ln 0 = 45 then (1 : Int) else 0)) v)) 100 (.inl (g 0, 33, .inl (aI bl3)))) 99 (.inl (g 0, 858, .inl (aI bh2)))) (up_in2 (by decide) (by decide)) ?_
        refine J_eqF (F2 := va_up (va_up (va_up F 98 (oM ad (va_up (va_up f 19 1) 7 (if chr ln 0 = 45 then (1 : Int) else 0)) v)) 99 (.inl (g 0, 858, .inl (aI bh2)))) 100 (.inl (g 0, 33, .inl (aI bl3)))) (up_cm (by decide)) ?_
        exact lab66 1 bh2 bl3 (by unfold psg; rw [if_pos (by omega)]) (by omega) hR7
  · refine J_iconst d_M_parsed_31 ?_
    refine J_goto (tgt := 36) d_M_parsed_32 (by decide) ?_
    refine pm_M_129 (by omega) (by rw [va_up_ne _ _ (by decide), va_up_ne _ _ (by decide), va_up_self]) (nb01 (by omega)) d_M_parsed_36 ?_
    refine J_eqF (F2 := va_up (va_up (va_up F 98 (oM ad (va_up (va_up f 19 0) 7 1) v)) 100 (.inl (g 0, 33, .inl (aI bl3)))) 99 (.inl (g 0, 858, .inl (aI bh2)))) (up_in2 (by decide) (by decide)) ?_
    refine J_eqF (F2 := va_up (va_up (va_up F 98 (oM ad (va_up (va_up f 19 0) 7 (if chr ln 0 = 45 then (1 : Int) else 0)) v)) 100 (.inl (g 0, 33, .inl (aI bl3)))) 99 (.inl (g 0, 858, .inl (aI bh2)))) (congrArg (fun qq : Int => va_up (va_up (va_up F 98 (oM ad (va_up (va_up f 19 0) 7 qq) v)) 100 (.inl (g 0, 33, .inl (aI bl3)))) 99 (.inl (g 0, 858, .inl (aI bh2)))) (show 1 = (if chr ln 0 = 45 then (1 : Int) else 0) from by rw [if_pos (by omega)])) ?_
    refine J_aload_n 0 d_M_parsed_39 rfl rfl ?_
    refine gf_M_129 (by omega) (by rw [va_up_ne _ _ (by decide), va_up_ne _ _ (by decide), va_up_self]) rfl d_M_parsed_40 ?_
    refine J_topi (r := (if chr ln 0 = 45 then (1 : Int) else 0)) (congrArg iI (va_up_self ..)) ?_
    refine J_ifne (tgt := 56) d_M_parsed_43 (by decide) ⟨by omega, by omega⟩ (fun c43 => ?_) (fun c43 => ?_)
    · refine J_aload_n 0 d_M_parsed_56 rfl rfl ?_
      refine J_dup d_M_parsed_57 rfl ?_
      refine gf_M_244 (by omega) (by rw [va_up_ne _ _ (by decide), va_up_ne _ _ (by decide), va_up_self]) rfl d_M_parsed_58 ?_
      refine J_topi (r := 0) (congrArg iI ((va_up_ne _ _ (by decide)).trans (va_up_self ..))) ?_
      refine J_iconst d_M_parsed_61 ?_
      refine J_iadd d_M_parsed_62 ?_
      refine J_topi (r := 1) (congrArg iI (by omega)) ?_
      refine pm_M_244 (by omega) (by rw [va_up_ne _ _ (by decide), va_up_ne _ _ (by decide), va_up_self]) d_M_parsed_63 ?_
      refine J_eqF (F2 := va_up (va_up (va_up (va_up F 98 (oM ad (va_up (va_up f 19 0) 7 (if chr ln 0 = 45 then (1 : Int) else 0)) v)) 100 (.inl (g 0, 33, .inl (aI bl3)))) 99 (.inl (g 0, 858, .inl (aI bh2)))) 98 (oM ad (va_up (va_up f 19 1) 7 (if chr ln 0 = 45 then (1 : Int) else 0)) v)) (congrArg (fun qq : Nat → Int => va_up (va_up (va_up (va_up F 98 (oM ad (va_up (va_up f 19 0) 7 (if chr ln 0 = 45 then (1 : Int) else 0)) v)) 100 (.inl (g 0, 33, .inl (aI bl3)))) 99 (.inl (g 0, 858, .inl (aI bh2)))) 98 (oM ad qq v)) (up_in1 (by decide))) ?_
      refine J_eqF (F2 := va_up (va_up (va_up F 98 (oM ad (va_up (va_up f 19 1) 7 (if chr ln 0 = 45 then (1 : Int) else 0)) v)) 100 (.inl (g 0, 33, .inl (aI bl3)))) 99 (.inl (g 0, 858, .inl (aI bh2)))) (up_in2 (by decide) (by decide)) ?_
      refine J_eqF (F2 := va_up (va_up (va_up F 98 (oM ad (va_up (va_up f 19 1) 7 (if chr ln 0 = 45 then (1 : Int) else 0)) v)) 99 (.inl (g 0, 858, .inl (aI bh2)))) 100 (.inl (g 0, 33, .inl (aI bl3)))) (up_cm (by decide)) ?_
      exact lab66 1 bh2 bl3 (by unfold psg; rw [if_pos (by omega)]) (by omega) hR7
    · refine J_aload_n 0 d_M_parsed_46 rfl rfl ?_
      refine J_iconst d_M_parsed_47 ?_
      refine J_callVi cw_M_247 nh_M_here pn_M_here rfl rfl (by omega) (by rw [va_up_ne _ _ (by decide), va_up_ne _ _ (by decide), va_up_self]) (As := [.int (iI 0)]) (rest := []) rfl (Nat.le_of_ble_eq_true rfl) ⟨by decide, by decide⟩ rfl ⟨by decide, by decide⟩ d_M_parsed_48 (c_M_here hfl (f := va_up (va_up f 19 0) 7 (if chr ln 0 = 45 then (1 : Int) else 0)) (v := v) (lh := lh) (ln := ln) (k := 0) hN (by rw [va_up_ne _ _ (by decide), va_up_ne _ _ (by decide), va_up_self]) (by rw [va_up_ne _ _ (by decide), va_up_ne _ _ (by decide), va_up_ne _ _ (by decide)]; exact h104) hml ((va_up_ne _ _ (by decide)).trans ((va_up_ne _ _ (by decide)).trans hf12)) hl40 hch (by omega)) (fun z97 F35 hq => ?_)
      obtain ⟨hz97, eF35⟩ := hq
      refine J_eqF eF35 ?_
      refine J_topi (r := (((chr ln 0 : Nat)) : Int)) (congrArg iI hz97) ?_
      refine J_bipush d_M_parsed_51 (i8_ok (by decide)) ?_
      refine J_if_icmpne (tgt := 66) d_M_parsed_53 (by decide) ⟨by omega, by omega⟩ ⟨by omega, by omega⟩ (fun c53 => ?_) (fun c53 => ?_)
      · refine J_eqF (F2 := va_up (va_up (va_up F 98 (oM ad (va_up (va_up f 19 0) 7 (if chr ln 0 = 45 then (1 : Int) else 0)) v)) 99 (.inl (g 0, 858, .inl (aI bh2)))) 100 (.inl (g 0, 33, .inl (aI bl3)))) (up_cm (by decide)) ?_
        exact lab66 0 bh2 bl3 (by unfold psg; rw [if_neg (by omega)]) (by omega) hR7
      · refine J_aload_n 0 d_M_parsed_56 rfl rfl ?_
        refine J_dup d_M_parsed_57 rfl ?_
        refine gf_M_244 (by omega) (by rw [va_up_ne _ _ (by decide), va_up_ne _ _ (by decide), va_up_self]) rfl d_M_parsed_58 ?_
        refine J_topi (r := 0) (congrArg iI ((va_up_ne _ _ (by decide)).trans (va_up_self ..))) ?_
        refine J_iconst d_M_parsed_61 ?_
        refine J_iadd d_M_parsed_62 ?_
        refine J_topi (r := 1) (congrArg iI (by omega)) ?_
        refine pm_M_244 (by omega) (by rw [va_up_ne _ _ (by decide), va_up_ne _ _ (by decide), va_up_self]) d_M_parsed_63 ?_
        refine J_eqF (F2 := va_up (va_up (va_up (va_up F 98 (oM ad (va_up (va_up f 19 0) 7 (if chr ln 0 = 45 then (1 : Int) else 0)) v)) 100 (.inl (g 0, 33, .inl (aI bl3)))) 99 (.inl (g 0, 858, .inl (aI bh2)))) 98 (oM ad (va_up (va_up f 19 1) 7 (if chr ln 0 = 45 then (1 : Int) else 0)) v)) (congrArg (fun qq : Nat → Int => va_up (va_up (va_up (va_up F 98 (oM ad (va_up (va_up f 19 0) 7 (if chr ln 0 = 45 then (1 : Int) else 0)) v)) 100 (.inl (g 0, 33, .inl (aI bl3)))) 99 (.inl (g 0, 858, .inl (aI bh2)))) 98 (oM ad qq v)) (up_in1 (by decide))) ?_
        refine J_eqF (F2 := va_up (va_up (va_up F 98 (oM ad (va_up (va_up f 19 1) 7 (if chr ln 0 = 45 then (1 : Int) else 0)) v)) 100 (.inl (g 0, 33, .inl (aI bl3)))) 99 (.inl (g 0, 858, .inl (aI bh2)))) (up_in2 (by decide) (by decide)) ?_
        refine J_eqF (F2 := va_up (va_up (va_up F 98 (oM ad (va_up (va_up f 19 1) 7 (if chr ln 0 = 45 then (1 : Int) else 0)) v)) 99 (.inl (g 0, 858, .inl (aI bh2)))) 100 (.inl (g 0, 33, .inl (aI bl3)))) (up_cm (by decide)) ?_
        exact lab66 1 bh2 bl3 (by unfold psg; rw [if_pos (by omega)]) (by omega) hR7
