/-! the Model: body -/

theorem okT_sgrG {dv : Nat → Nat} {cap : Int} {grp pt to : Nat} (hd : ∀ k, dv k < 16) (hp : pt < 128) (hg : 0 < grp) : ∀ n, (sgr dv cap grp pt to n).length ≤ n + (n - 1) / grp := by
  intro n
  induction n with
  | zero => exact Nat.zero_le _
  | succ n ih =>
    by_cases h : 0 < pt ∧ 0 < n ∧ n % grp = 0
    · rw [sgr_y h, List.length_cons, List.length_cons]
      have h1 : (n - 1) / grp + 1 ≤ n / grp := by
        obtain ⟨c, hc⟩ := Nat.dvd_of_mod_eq_zero h.2.2
        have hc0 : 0 < c := by
          apply Nat.pos_of_ne_zero
          intro w
          subst w
          omega
        have h2 : n / grp = c := by rw [hc, Nat.mul_div_cancel_left _ hg]
        have h3 : (n - 1) / grp < c := by
          rw [Nat.div_lt_iff_lt_mul hg, Nat.mul_comm, ← hc]; omega
        omega
      show _ ≤ n + 1 + n / grp
      omega
    · rw [sgr_n h, List.length_cons]
      have h1 : (n - 1) / grp ≤ n / grp := Nat.div_le_div_right (by omega)
      show _ ≤ n + 1 + n / grp
      omega
theorem bsT_b (ty : Nat) : 2 ≤ bsT ty ∧ bsT ty ≤ 16 := by unfold bsT; split; decide; (split <;> decide)
theorem ndm_120b {b x : Nat} (hb : 2 ≤ b) (h : x < 2 ^ 120) : ndm b 1 x ≤ 120 := ndm_b hb (Nat.lt_of_lt_of_le h (Nat.pow_le_pow_left hb 120)) (by decide)
theorem okT_int {ty pa u : Nat} (hp : pa < 128) (h : u < 2 ^ 120) : okT 160 (intT ty pa u) := by
  have h1 := ndm_120b (bsT_b ty).1 h
  have hd : ∀ k, dgv (bsT ty) u k < 16 := fun k => dgv_b (bsT_b ty)
  unfold intT
  refine ⟨?_, (okT_sgr hd hp _).2⟩
  have hg : 3 ≤ (if bsT ty = 10 then 3 else 4) := by split <;> decide
  have h2 := okT_sgrG (cap := if ty = 88 then 1 else 0) (to := 0) hd hp (grp := if bsT ty = 10 then 3 else 4) (by omega) (ndm (bsT ty) 1 u)
  have h3 : (ndm (bsT ty) 1 u - 1) / (if bsT ty = 10 then 3 else 4) ≤ (ndm (bsT ty) 1 u - 1) / 3 := Nat.div_le_div_left hg (by decide)
  omega
theorem okT_fix {u d p pa : Nat} {sh : Int} (hd : 0 < d) (h : u < 2 ^ 130 * d) (hp : p ≤ 40) (hpa : pa < 128) : okT 121 (fixT (rdq u d p) p pa sh) := by
  have h1 := rdq_40 (p := p) hd h
  unfold fixT fixA fixB
  exact okT_le (okT_app (okT_app (okT_le (okT_sgr (dgv_16 _) hpa _) (by omega : _ ≤ 80)) (dotT_l p sh)) (okT_le (okT_sgr0 (dgv_16 _) p) hp)) (by decide)
theorem okT_flo {q m lt : Nat} {sh c e : Int} (hm : m ≤ 24) (he : -100 < e ∧ e < 100) (hl : lt < 128) : okT 40 (floT q m sh c e lt) := by
  have hd := dgv_10 q (m - 1)
  have h2 : okT 25 (if c ≠ 0 then cutP q (m - 1) else dotT (m - 1) sh ++ fixB q (m - 1)) := by
    split
    · exact okT_le (cutP_l q (m - 1)) (by omega)
    · exact okT_le (okT_app (dotT_l (m - 1) sh) (okT_sgr0 (dgv_16 q) (m - 1))) (by omega)
  unfold floT
  exact okT_le (okT_app (okT_app (okT_one (by omega)) h2) (okT_exp he hl)) (by decide)
theorem flE_r {u d m : Nat} (hd : 0 < d) (hu2 : u < 2 ^ 168) (hd2 : d < 2 ^ 168) : -100 < flE u d m ∧ flE u d m < 100 := by
  by_cases h : u = 0
  · rw [h, fl_0.1]; decide
  · obtain ⟨e, h1, h2, h3⟩ := isX_b (by omega) hd hu2 hd2
    have := flE_b (m := m) (by omega) h3
    omega
theorem okT_gen {u d p pa lt : Nat} {sh : Int} (hd : 0 < d) (h : u < 2 ^ 130 * d) (hu2 : u < 2 ^ 168) (hd2 : d < 2 ^ 168) (hp : p ≤ 20) (hpa : pa < 128) (hl : lt < 128) : okT 121 (genT u d p pa sh lt) := by
  unfold genT
  split
  · rename_i hc
    obtain ⟨n, hn⟩ : ∃ n, n = ((p : Int) - 1 - flE u d p).toNat := ⟨_, rfl⟩
    have hn2 : (p : Int) - 1 - flE u d p = (n : Int) := by omega
    rw [hn2, show ((n : Nat) : Int).toNat = n from rfl]
    have h1 := rdq_40 (p := n) hd h
    have hA : okT 80 (fixA (rdq u d (n : Int)) n pa) := by
      unfold fixA
      exact okT_le (okT_sgr (dgv_16 _) hpa _) (by omega)
    have hB : okT 41 (if sh ≠ 0 then dotT n sh ++ fixB (rdq u d (n : Int)) n else cutP (rdq u d (n : Int)) n) := by
      split
      · exact okT_le (okT_app (dotT_l n sh) (okT_sgr0 (dgv_16 _) n)) (by omega)
      · exact okT_le (cutP_l _ n) (by omega)
    exact okT_app hA hB
  · exact okT_le (okT_flo (by omega) (flE_r hd hu2 hd2) hl) (by decide)
theorem okT_bod {ty pa u d : Nat} {pr sh : Int} (hd : 0 < d) (h : u < 2 ^ 120 * d) (hu2 : u < 2 ^ 168) (hd2 : d < 2 ^ 168) (hpr : pr ≤ 20) (hpa : pa < 128) (hty : ty < 128) (hI : (ty = 100 ∨ ty = 98 ∨ ty = 120 ∨ ty = 88) → u < 2 ^ 120) : okT 160 (bodT ty pr pa sh u d) := by
  have h130 : u < 2 ^ 130 * d := Nat.lt_of_lt_of_le h (Nat.mul_le_mul_right _ (by decide))
  have hP : (if pr < 0 then 6 else pr.toNat) ≤ 20 := by split <;> omega
  unfold bodT
  generalize (if pr < 0 then 6 else pr.toNat) = P at hP
  by_cases c1 : ty = 100 ∨ ty = 98 ∨ ty = 120 ∨ ty = 88
  · rw [if_pos c1]; exact okT_int hpa (hI c1)
  · rw [if_neg c1]
    split
    · exact okT_le (okT_fix hd h130 (by omega) hpa) (by decide)
    · split
      · refine okT_le (okT_app (okT_fix hd ?_ (by omega) hpa) (okT_one (by decide))) (by decide)
        have : u * 100 < 2 ^ 120 * d * 100 := Nat.mul_lt_mul_of_pos_right h (by decide)
        have h9 : 2 ^ 120 * d * 100 ≤ 2 ^ 130 * d := by
          rw [Nat.mul_right_comm]; exact Nat.mul_le_mul_right _ (by decide)
        omega
      · split
        · exact okT_le (okT_flo (by omega) (flE_r hd hu2 hd2) hty) (by decide)
        · refine okT_le (okT_gen hd h130 hu2 hd2 ?_ hpa (by split <;> decide)) (by decide)
          split
          · decide
          · split
            · decide
            · omega
set_option maxRecDepth 100000 in
set_option maxHeartbeats 4000000 in
theorem c_M_body {l : Launch} (hfl : l.flags = flags0) {D : va_G} {g : Nat → ClassId} {ad : Nat → Nat} {N : Nat} {F : Nat → va_E} {hh ll f : Nat → Int} {v : UInt64} {V : Nat → Nat} {br : Nat → Nat} {dh tt : Nat → Int} {w : List Nat} {x y u d pa ty : Nat} {sh pr : Int}
    (hN : 109 ≤ N) (hO : F 98 = oM ad f v) (hB : F 99 = aB g hh) (hL : F 100 = aL g ll) (hR : reg br hh ll V) (hzz : okB br) (h106 : F 106 = .inl (g 0, 200, .inl (aI dh))) (h107 : F 107 = .inl (g 0, 260, .inl (aI tt))) (hmt : mtx tt w) (hf18 : f 18 = (w.length : Int)) (hx : V 31 = x) (hy : V 28 = y) (hxb : x < 2 ^ 168) (hyb : y < 2 ^ 168) (hy0 : 0 < y) (hd0 : 0 < d) (hxd : x * d = u * y) (hxy : x < 2 ^ 120 * y) (hI : (ty = 100 ∨ ty = 98 ∨ ty = 120 ∨ ty = 88) → x = u ∧ u < 2 ^ 120) (hpr : f 28 = pr) (hprb : -1 ≤ pr ∧ pr ≤ 20) (hty : f 29 = (ty : Int)) (htyb : ty < 128) (htB : tyB ty) (hpa : f 27 = (pa : Int)) (hpab : pa < 128) (hpa46 : pa ≠ 46) (hsh : f 24 = sh) (hshb : sh = 0 ∨ sh = 1) (hwl : w.length ≤ 10) :
    JC l y_M_body b_M_body 3 (Option.none : Option Jvm.ClassFile.FieldType) rm_M_body (0, 0) D jCl (jTys g) ad N F [.ref (ad 98)] (jv ad N (fun F' => ∃ (hh' ll' f' dh' tt' : Nat → Int) (W : Nat → Nat), reg br hh' ll' W ∧ (∀ k, k < 16 → W k = V k) ∧ (∀ j, j ≠ 16 → j ≠ 18 → f' j = f j) ∧ f' 18 = ((w ++ bodT ty pr pa sh u d).length : Int) ∧ mtx tt' (w ++ bodT ty pr pa sh u d) ∧ F' = va_up (va_up (va_up (va_up (va_up F 98 (oM ad f' v)) 99 (aB g hh')) 100 (aL g ll')) 106 (.inl (g 0, 200, .inl (aI dh')))) 107 (.inl (g 0, 260, .inl (aI tt'))))) := by
  have hgr : lnw 28 (x * 100 + 0) ≤ 26 := (lnw_le (by decide)).mpr (Nat.lt_trans (show x * 100 + 0 < 2 ^ 168 * 100 by omega) (by decide))
  refine JC.go hfl (own := "NumberTowerModel") (lv := [(0, .ref (ad 98))]) rfl (by decide +kernel) (Nat.le_of_ble_eq_true rfl) rfl (fun A => ?_)
  have lab16 : ∀ (p : Nat) (hp : p = (if pr < 0 then 6 else pr.toNat)) , J l rm_M_body (0, 0) "NumberTowerModel" b_M_body 3 (Option.none : Option Jvm.ClassFile.FieldType) D jCl (jTys g) A (fun _ me => me.name = y_M_body.name) (jv ad N (fun F' => ∃ (hh' ll' f' dh' tt' : Nat → Int) (W : Nat → Nat), reg br hh' ll' W ∧ (∀ k, k < 16 → W k = V k) ∧ (∀ j, j ≠ 16 → j ≠ 18 → f' j = f j) ∧ f' 18 = ((w ++ bodT ty pr pa sh u d).length : Int) ∧ mtx tt' (w ++ bodT ty pr pa sh u d) ∧ F' = va_up (va_up (va_up (va_up (va_up F 98 (oM ad f' v)) 99 (aB g hh')) 100 (aL g ll')) 106 (.inl (g 0, 200, .inl (aI dh')))) 107 (.inl (g 0, 260, .inl (aI tt'))))) ad N 0 0 16 [(0, .ref (ad 98))] [.int (iI (p : Int))] F := by
    intro p hp
    have hp20 : p ≤ 20 := by rw [hp]; split <;> omega
    refine J_istore_n (lv' := [(1, .int (iI (p : Int))), (0, .ref (ad 98))]) d_M_body_16 rfl (by decide) rfl ?_
    have lab96 : ∀  (hty4 : ty = 100 ∨ ty = 98 ∨ ty = 120 ∨ ty = 88) , J l rm_M_body (0, 0) "NumberTowerModel" b_M_body 3 (Option.none : Option Jvm.ClassFile.FieldType) D jCl (jTys g) A (fun _ me => me.name = y_M_body.name) (jv ad N (fun F' => ∃ (hh' ll' f' dh' tt' : Nat → Int) (W : Nat → Nat), reg br hh' ll' W ∧ (∀ k, k < 16 → W k = V k) ∧ (∀ j, j ≠ 16 → j ≠ 18 → f' j = f j) ∧ f' 18 = ((w ++ bodT ty pr pa sh u d).length : Int) ∧ mtx tt' (w ++ bodT ty pr pa sh u d) ∧ F' = va_up (va_up (va_up (va_up (va_up F 98 (oM ad f' v)) 99 (aB g hh')) 100 (aL g ll')) 106 (.inl (g 0, 200, .inl (aI dh')))) 107 (.inl (g 0, 260, .inl (aI tt'))))) ad N 0 0 96 [(0, .ref (ad 98)), (1, .int (iI (p : Int)))] [] F := by
      intro  hty4
      have lab125 : ∀ (bs : Nat) (hbs : bs = bsT ty) , J l rm_M_body (0, 0) "NumberTowerModel" b_M_body 3 (Option.none : Option Jvm.ClassFile.FieldType) D jCl (jTys g) A (fun _ me => me.name = y_M_body.name) (jv ad N (fun F' => ∃ (hh' ll' f' dh' tt' : Nat → Int) (W : Nat → Nat), reg br hh' ll' W ∧ (∀ k, k < 16 → W k = V k) ∧ (∀ j, j ≠ 16 → j ≠ 18 → f' j = f j) ∧ f' 18 = ((w ++ bodT ty pr pa sh u d).length : Int) ∧ mtx tt' (w ++ bodT ty pr pa sh u d) ∧ F' = va_up (va_up (va_up (va_up (va_up F 98 (oM ad f' v)) 99 (aB g hh')) 100 (aL g ll')) 106 (.inl (g 0, 200, .inl (aI dh')))) 107 (.inl (g 0, 260, .inl (aI tt'))))) ad N 0 0 125 [(0, .ref (ad 98)), (1, .int (iI (p : Int)))] [.int (iI (bs : Int))] F := by
        intro bs hbs
        have hbsb := bsT_b ty
        rw [← hbs] at hbsb
        refine J_istore_n (lv' := [(2, .int (iI (bs : Int))), (0, .ref (ad 98)), (1, .int (iI (p : Int)))]) d_M_body_125 rfl (by decide) rfl ?_
        refine J_aload_n 1 d_M_body_126 rfl rfl ?_
        refine J_bipush d_M_body_127 (i8_ok (by decide)) ?_
        refine J_iload_n 0 d_M_body_129 rfl rfl ?_
        refine J_iconst d_M_body_130 ?_
        obtain ⟨hxu, hu120⟩ := hI hty4
        have hnd := ndm_120b (b := bs) (by omega) hu120
        rw [← hxu] at hnd hu120
        refine J_callVv cw_M_294 nh_M_spell pn_M_spell rfl rfl (by omega) hO (As := [.int (iI 31), .int (iI (bs : Int)), .int (iI 1)]) (rest := []) rfl (Nat.le_of_ble_eq_true rfl) ⟨by decide, by decide⟩ rfl ⟨by decide, by decide⟩ d_M_body_131 (c_M_spell hfl (dh := dh) (a := 31) (b := bs) (lst := 1) (x := x) (hh := hh) (ll := ll) (f := f) (v := v) (V := V) (br := br) hN hO hB hL hR hzz h106 (by omega) (by omega) (hzz.2 31 (by decide) (by decide)) (hx) ⟨by omega, by omega⟩ (by omega)) (fun  F1 hq => ?_)
        obtain ⟨bh2, bl3, dh1, hR4, hdddh1, eF1⟩ := hq
        refine J_eqF (F2 := va_up (va_up (va_up (va_up F 98 (oM ad (va_up f 16 ((ndm bs 1 x : Nat) : Int)) v)) 99 (.inl (g 0, 858, .inl (aI bh2)))) 100 (.inl (g 0, 33, .inl (aI bl3)))) 106 (.inl (g 0, 200, .inl (aI dh1)))) eF1 ?_
        obtain ⟨nn, hnn⟩ : ∃ n, n = ndm bs 1 x := ⟨_, rfl⟩
        rw [← hnn] at hdddh1 hnd
        refine J_eqF (F2 := va_up (va_up (va_up (va_up F 98 (oM ad (va_up f 16 (nn : Int)) v)) 99 (.inl (g 0, 858, .inl (aI bh2)))) 100 (.inl (g 0, 33, .inl (aI bl3)))) 106 (.inl (g 0, 200, .inl (aI dh1)))) (congrArg (fun qq : Int => va_up (va_up (va_up (va_up F 98 (oM ad (va_up f 16 qq) v)) 99 (.inl (g 0, 858, .inl (aI bh2)))) 100 (.inl (g 0, 33, .inl (aI bl3)))) 106 (.inl (g 0, 200, .inl (aI dh1)))) (show ((ndm bs 1 x : Nat) : Int) = (nn : Int) from by rw [hnn])) ?_
        refine J_aload_n 1 d_M_body_134 rfl rfl ?_
        refine J_aload_n 1 d_M_body_135 rfl rfl ?_
        refine gf_M_268 (by omega) (by rw [va_up_ne _ _ (by decide), va_up_ne _ _ (by decide), va_up_ne _ _ (by decide), va_up_self]) rfl d_M_body_136 ?_
        refine J_topi (r := (nn : Int)) (congrArg iI (va_up_self ..)) ?_
        refine J_iconst d_M_body_139 ?_
        refine J_isub d_M_body_140 ?_
        have lab153 : ∀ (gp : Nat) (hgp : gp = (if bs = 10 then 3 else 4)) , J l rm_M_body (0, 0) "NumberTowerModel" b_M_body 3 (Option.none : Option Jvm.ClassFile.FieldType) D jCl (jTys g) A (fun _ me => me.name = y_M_body.name) (jv ad N (fun F' => ∃ (hh' ll' f' dh' tt' : Nat → Int) (W : Nat → Nat), reg br hh' ll' W ∧ (∀ k, k < 16 → W k = V k) ∧ (∀ j, j ≠ 16 → j ≠ 18 → f' j = f j) ∧ f' 18 = ((w ++ bodT ty pr pa sh u d).length : Int) ∧ mtx tt' (w ++ bodT ty pr pa sh u d) ∧ F' = va_up (va_up (va_up (va_up (va_up F 98 (oM ad f' v)) 99 (aB g hh')) 100 (aL g ll')) 106 (.inl (g 0, 200, .inl (aI dh')))) 107 (.inl (g 0, 260, .inl (aI tt'))))) ad N 0 0 153 [(0, .ref (ad 98)), (1, .int (iI (p : Int))), (2, .int (iI (bs : Int)))] [.int (iI (gp : Int)), .int (iI 0), .int (iI ((nn : Int) - 1)), .ref (ad 98)] (va_up (va_up (va_up (va_up F 98 (oM ad (va_up f 16 (nn : Int)) v)) 99 (.inl (g 0, 858, .inl (aI bh2)))) 100 (.inl (g 0, 33, .inl (aI bl3)))) 106 (.inl (g 0, 200, .inl (aI dh1)))) := by
          intro gp hgp
          have hgpb : 3 ≤ gp ∧ gp ≤ 4 := by rw [hgp]; split <;> decide
          have lab171 : ∀ (cp : Int) (hcp : cp = (if ty = 88 then 1 else 0)) , J l rm_M_body (0, 0) "NumberTowerModel" b_M_body 3 (Option.none : Option Jvm.ClassFile.FieldType) D jCl (jTys g) A (fun _ me => me.name = y_M_body.name) (jv ad N (fun F' => ∃ (hh' ll' f' dh' tt' : Nat → Int) (W : Nat → Nat), reg br hh' ll' W ∧ (∀ k, k < 16 → W k = V k) ∧ (∀ j, j ≠ 16 → j ≠ 18 → f' j = f j) ∧ f' 18 = ((w ++ bodT ty pr pa sh u d).length : Int) ∧ mtx tt' (w ++ bodT ty pr pa sh u d) ∧ F' = va_up (va_up (va_up (va_up (va_up F 98 (oM ad f' v)) 99 (aB g hh')) 100 (aL g ll')) 106 (.inl (g 0, 200, .inl (aI dh')))) 107 (.inl (g 0, 260, .inl (aI tt'))))) ad N 0 0 171 [(0, .ref (ad 98)), (1, .int (iI (p : Int))), (2, .int (iI (bs : Int)))] [.int (iI cp), .int (iI (pa : Int)), .int (iI (gp : Int)), .int (iI 0), .int (iI ((nn : Int) - 1)), .ref (ad 98)] (va_up (va_up (va_up (va_up F 98 (oM ad (va_up f 16 (nn : Int)) v)) 99 (.inl (g 0, 858, .inl (aI bh2)))) 100 (.inl (g 0, 33, .inl (aI bl3)))) 106 (.inl (g 0, 200, .inl (aI dh1)))) := by
            intro cp hcp
            have hcpb : cp = 0 ∨ cp = 1 := by rw [hcp]; split; exact Or.inr rfl; exact Or.inl rfl
            have hbb : ∀ k, dgv bs x k < 16 := fun k => dgv_b ⟨by omega, by omega⟩
            refine J_callVv cw_M_300 nh_M_sayDigits pn_M_sayDigits rfl rfl (by omega) (by rw [va_up_ne _ _ (by decide), va_up_ne _ _ (by decide), va_up_ne _ _ (by decide), va_up_self]) (As := [.int (iI ((nn : Int) - 1)), .int (iI 0), .int (iI (gp : Int)), .int (iI (pa : Int)), .int (iI cp)]) (rest := []) rfl (Nat.le_of_ble_eq_true rfl) ⟨by decide, by decide⟩ rfl ⟨by decide, by decide⟩ d_M_body_171 (c_M_sayDigits hfl (f := va_up f 16 (nn : Int)) (v := v) (tt := tt) (w := w) (dh := dh1) (dv := dgv bs x) (cap := cp) (fro := (nn : Int) - 1) (grp := gp) (pt := pa) (to := 0) (n := nn) hN (by rw [va_up_ne _ _ (by decide), va_up_ne _ _ (by decide), va_up_ne _ _ (by decide), va_up_self]) (by rw [va_up_ne _ _ (by decide), va_up_ne _ _ (by decide), va_up_ne _ _ (by decide), va_up_ne _ _ (by decide)]; exact h107) hmt ((va_up_ne _ _ (by decide)).trans hf18) (by rw [va_up_self]) (fun k hk => ⟨hdddh1 k (by omega), hbb k⟩) (by omega) (by omega) (by omega) (by omega) hcpb (by omega)) (fun  F2 hq => ?_)
            obtain ⟨tx5, hmt6, eF2⟩ := hq
            refine J_eqF (F2 := va_up (va_up (va_up (va_up (va_up F 98 (oM ad (va_up (va_up f 16 (nn : Int)) 18 (((w ++ sgr (dgv bs x) cp gp pa 0 nn).length : Nat) : Int)) v)) 99 (.inl (g 0, 858, .inl (aI bh2)))) 100 (.inl (g 0, 33, .inl (aI bl3)))) 106 (.inl (g 0, 200, .inl (aI dh1)))) 107 (.inl (g 0, 260, .inl (aI tx5)))) (eF2.trans (up_in4 (by decide) (by decide) (by decide) (by decide))) ?_
            refine J_goto (tgt := 243) d_M_body_174 (by decide) ?_
            have ehmt7 : (w ++ sgr (dgv bs x) cp gp pa 0 nn) = w ++ bodT ty pr pa sh u d := by unfold bodT intT; rw [if_pos hty4, ← hbs, ← hgp, ← hcp, ← hxu, ← hnn]
            have hmt7 : mtx tx5 (w ++ bodT ty pr pa sh u d) := ehmt7 ▸ hmt6
            refine J_eqF (F2 := va_up (va_up (va_up (va_up (va_up F 98 (oM ad (va_up (va_up f 16 (nn : Int)) 18 ((w ++ bodT ty pr pa sh u d).length : Int)) v)) 99 (.inl (g 0, 858, .inl (aI bh2)))) 100 (.inl (g 0, 33, .inl (aI bl3)))) 106 (.inl (g 0, 200, .inl (aI dh1)))) 107 (.inl (g 0, 260, .inl (aI tx5)))) (congrArg (fun qq : Int => va_up (va_up (va_up (va_up (va_up F 98 (oM ad (va_up (va_up f 16 (nn : Int)) 18 qq) v)) 99 (.inl (g 0, 858, .inl (aI bh2)))) 100 (.inl (g 0, 33, .inl (aI bl3)))) 106 (.inl (g 0, 200, .inl (aI dh1)))) 107 (.inl (g 0, 260, .inl (aI tx5)))) (show (((w ++ sgr (dgv bs x) cp gp pa 0 nn).length : Nat) : Int) = ((w ++ bodT ty pr pa sh u d).length : Int) from by rw [ehmt7])) ?_
            refine J_vret rfl d_M_body_243 ⟨by decide, by decide⟩ ?_
            refine ⟨rfl, rfl, rfl, bh2, bl3, (va_up (va_up f 16 (nn : Int)) 18 ((w ++ bodT ty pr pa sh u d).length : Int)), dh1, tx5, (va_up V 29 0), hR4, ?_, ?_, (va_up_self ..), hmt7, rfl⟩
            · exact (fun k hk => (show (va_up V 29 0) k = V k from by rw [va_up_ne _ _ (by omega)]))
            · exact (fun j h1 h2 => (show (va_up (va_up f 16 (nn : Int)) 18 ((w ++ bodT ty pr pa sh u d).length : Int)) j = f j from by rw [va_up_ne _ _ h2, va_up_ne _ _ h1]))
          refine J_aload_n 0 d_M_body_153 rfl rfl ?_
          refine gf_M_339 (by omega) (by rw [va_up_ne _ _ (by decide), va_up_ne _ _ (by decide), va_up_ne _ _ (by decide), va_up_self]) rfl d_M_body_154 ?_
          refine J_topi (r := (pa : Int)) (congrArg iI ((va_up_ne _ _ (by decide)).trans hpa)) ?_
          refine J_aload_n 0 d_M_body_157 rfl rfl ?_
          refine gf_M_345 (by omega) (by rw [va_up_ne _ _ (by decide), va_up_ne _ _ (by decide), va_up_ne _ _ (by decide), va_up_self]) rfl d_M_body_158 ?_
          refine J_topi (r := (ty : Int)) (congrArg iI ((va_up_ne _ _ (by decide)).trans hty)) ?_
          refine J_bipush d_M_body_161 (i8_ok (by decide)) ?_
          refine J_if_icmpne (tgt := 170) d_M_body_163 (by decide) ⟨by omega, by omega⟩ ⟨by omega, by omega⟩ (fun c163 => ?_) (fun c163 => ?_)
          · refine J_iconst d_M_body_170 ?_
            exact lab171 (0 : Int) (by rw [if_neg (by omega)])
          · refine J_iconst d_M_body_166 ?_
            refine J_goto (tgt := 171) d_M_body_167 (by decide) ?_
            exact lab171 (1 : Int) (by rw [if_pos (by omega)])
        refine J_iconst d_M_body_141 ?_
        refine J_iload_n 0 d_M_body_142 rfl rfl ?_
        refine J_bipush d_M_body_143 (i8_ok (by decide)) ?_
        refine J_if_icmpne (tgt := 152) d_M_body_145 (by decide) ⟨by omega, by omega⟩ ⟨by omega, by omega⟩ (fun c145 => ?_) (fun c145 => ?_)
        · refine J_iconst d_M_body_152 ?_
          refine J_pick (lv' := [(0, .ref (ad 98)), (1, .int (iI (p : Int))), (2, .int (iI (bs : Int)))]) [1, 2, 0] rfl ?_
          exact lab153 4 (by rw [if_neg (by omega)])
        · refine J_iconst d_M_body_148 ?_
          refine J_goto (tgt := 153) d_M_body_149 (by decide) ?_
          refine J_pick (lv' := [(0, .ref (ad 98)), (1, .int (iI (p : Int))), (2, .int (iI (bs : Int)))]) [1, 2, 0] rfl ?_
          exact lab153 3 (by rw [if_pos (by omega)])
      refine J_aload_n 0 d_M_body_96 rfl rfl ?_
      refine gf_M_345 (by omega) hO rfl d_M_body_97 ?_
      refine J_topi (r := (ty : Int)) (congrArg iI hty) ?_
      refine J_bipush d_M_body_100 (i8_ok (by decide)) ?_
      refine J_if_icmpne (tgt := 110) d_M_body_102 (by decide) ⟨by omega, by omega⟩ ⟨by omega, by omega⟩ (fun c102 => ?_) (fun c102 => ?_)
      · refine J_aload_n 0 d_M_body_110 rfl rfl ?_
        refine gf_M_345 (by omega) hO rfl d_M_body_111 ?_
        refine J_topi (r := (ty : Int)) (congrArg iI hty) ?_
        refine J_bipush d_M_body_114 (i8_ok (by decide)) ?_
        refine J_if_icmpne (tgt := 123) d_M_body_116 (by decide) ⟨by omega, by omega⟩ ⟨by omega, by omega⟩ (fun c116 => ?_) (fun c116 => ?_)
        · refine J_bipush d_M_body_123 (i8_ok (by decide)) ?_
          exact lab125 16 (by unfold bsT; rw [if_neg (by omega), if_neg (by omega)])
        · refine J_iconst d_M_body_119 ?_
          refine J_goto (tgt := 125) d_M_body_120 (by decide) ?_
          exact lab125 2 (by unfold bsT; rw [if_neg (by omega), if_pos (by omega)])
      · refine J_bipush d_M_body_105 (i8_ok (by decide)) ?_
        refine J_goto (tgt := 125) d_M_body_107 (by decide) ?_
        exact lab125 10 (by unfold bsT; rw [if_pos (by omega)])
    have lab208 : ∀  (hty2 : ty = 101 ∨ ty = 69) , J l rm_M_body (0, 0) "NumberTowerModel" b_M_body 3 (Option.none : Option Jvm.ClassFile.FieldType) D jCl (jTys g) A (fun _ me => me.name = y_M_body.name) (jv ad N (fun F' => ∃ (hh' ll' f' dh' tt' : Nat → Int) (W : Nat → Nat), reg br hh' ll' W ∧ (∀ k, k < 16 → W k = V k) ∧ (∀ j, j ≠ 16 → j ≠ 18 → f' j = f j) ∧ f' 18 = ((w ++ bodT ty pr pa sh u d).length : Int) ∧ mtx tt' (w ++ bodT ty pr pa sh u d) ∧ F' = va_up (va_up (va_up (va_up (va_up F 98 (oM ad f' v)) 99 (aB g hh')) 100 (aL g ll')) 106 (.inl (g 0, 200, .inl (aI dh')))) 107 (.inl (g 0, 260, .inl (aI tt'))))) ad N 0 0 208 [(0, .ref (ad 98)), (1, .int (iI (p : Int)))] [] F := by
      intro  hty2
      refine J_aload_n 0 d_M_body_208 rfl rfl ?_
      refine J_iload_n 1 d_M_body_209 rfl rfl ?_
      refine J_iconst d_M_body_210 ?_
      refine J_iadd d_M_body_211 ?_
      refine J_iconst d_M_body_212 ?_
      refine J_aload_n 0 d_M_body_213 rfl rfl ?_
      refine gf_M_345 (by omega) hO rfl d_M_body_214 ?_
      refine J_topi (r := (ty : Int)) (congrArg iI hty) ?_
      refine J_callVv cw_M_357 nh_M_sayFloat pn_M_sayFloat rfl rfl (by omega) hO (As := [.int (iI ((p : Int) + 1)), .int (iI 0), .int (iI (ty : Int))]) (rest := []) rfl (Nat.le_of_ble_eq_true rfl) ⟨by decide, by decide⟩ rfl ⟨by decide, by decide⟩ d_M_body_217 (c_M_sayFloat hfl (dh := dh) (tt := tt) (w := w) (hh := hh) (ll := ll) (f := f) (v := v) (V := V) (br := br) (x := x) (y := y) (u := u) (d := d) (m := p + 1) (lt := ty) (sh := sh) (c := 0) hN hO hB hL hR hzz h106 h107 hmt (hf18) (hx) (hy) hxb hyb hy0 hd0 hxd ⟨by omega, by omega⟩ (hsh) hshb (by decide) (fun w => absurd rfl w) (by omega) hwl) (fun  F3 hq => ?_)
      obtain ⟨bh8, bl9, f13, dh10, tt12, W11, hR14, hW15, hf16, hf1817, hmt18, eF3⟩ := hq
      refine J_eqF (F2 := va_up (va_up (va_up (va_up (va_up F 98 (oM ad f13 v)) 99 (.inl (g 0, 858, .inl (aI bh8)))) 100 (.inl (g 0, 33, .inl (aI bl9)))) 106 (.inl (g 0, 200, .inl (aI dh10)))) 107 (.inl (g 0, 260, .inl (aI tt12)))) eF3 ?_
      refine J_goto (tgt := 243) d_M_body_220 (by decide) ?_
      refine J_eqF (F2 := va_up (va_up (va_up (va_up (va_up F 98 (oM ad (va_up f13 18 (((w ++ floT (flQ u d (p + 1)) (p + 1) sh 0 (flE u d (p + 1)) ty).length : Nat) : Int)) v)) 99 (.inl (g 0, 858, .inl (aI bh8)))) 100 (.inl (g 0, 33, .inl (aI bl9)))) 106 (.inl (g 0, 200, .inl (aI dh10)))) 107 (.inl (g 0, 260, .inl (aI tt12)))) (congrArg (fun qq : Nat → Int => va_up (va_up (va_up (va_up (va_up F 98 (oM ad qq v)) 99 (.inl (g 0, 858, .inl (aI bh8)))) 100 (.inl (g 0, 33, .inl (aI bl9)))) 106 (.inl (g 0, 200, .inl (aI dh10)))) 107 (.inl (g 0, 260, .inl (aI tt12)))) (up_same1 (i := 18) (a := (((w ++ floT (flQ u d (p + 1)) (p + 1) sh 0 (flE u d (p + 1)) ty).length : Nat) : Int)) (hf1817))) ?_
      have ehmt19 : (w ++ floT (flQ u d (p + 1)) (p + 1) sh 0 (flE u d (p + 1)) ty) = w ++ bodT ty pr pa sh u d := by unfold bodT; rw [if_neg (by omega), if_neg (by omega), if_neg (by omega), if_pos (by omega), ← hp]
      have hmt19 : mtx tt12 (w ++ bodT ty pr pa sh u d) := ehmt19 ▸ hmt18
      refine J_eqF (F2 := va_up (va_up (va_up (va_up (va_up F 98 (oM ad (va_up f13 18 ((w ++ bodT ty pr pa sh u d).length : Int)) v)) 99 (.inl (g 0, 858, .inl (aI bh8)))) 100 (.inl (g 0, 33, .inl (aI bl9)))) 106 (.inl (g 0, 200, .inl (aI dh10)))) 107 (.inl (g 0, 260, .inl (aI tt12)))) (congrArg (fun qq : Int => va_up (va_up (va_up (va_up (va_up F 98 (oM ad (va_up f13 18 qq) v)) 99 (.inl (g 0, 858, .inl (aI bh8)))) 100 (.inl (g 0, 33, .inl (aI bl9)))) 106 (.inl (g 0, 200, .inl (aI dh10)))) 107 (.inl (g 0, 260, .inl (aI tt12)))) (show (((w ++ floT (flQ u d (p + 1)) (p + 1) sh 0 (flE u d (p + 1)) ty).length : Nat) : Int) = ((w ++ bodT ty pr pa sh u d).length : Int) from by rw [ehmt19])) ?_
      refine J_vret rfl d_M_body_243 ⟨by decide, by decide⟩ ?_
      refine ⟨rfl, rfl, rfl, bh8, bl9, (va_up f13 18 ((w ++ bodT ty pr pa sh u d).length : Int)), dh10, tt12, W11, hR14, ?_, ?_, (va_up_self ..), hmt19, rfl⟩
      · exact (fun k hk => ((show (W11) k = W11 k from by rfl).trans ((hW15 k (by omega)).trans (show (V) k = V k from by rfl))))
      · exact (fun j h1 h2 => ((show (va_up f13 18 ((w ++ bodT ty pr pa sh u d).length : Int)) j = f13 j from by rw [va_up_ne _ _ h2]).trans ((hf16 j h1 h2).trans (show (f) j = f j from by rfl))))
    refine J_aload_n 1 d_M_body_17 rfl rfl ?_
    refine gf_M_345 (by omega) hO rfl d_M_body_18 ?_
    refine J_topi (r := (ty : Int)) (congrArg iI hty) ?_
    by_cases sw21_37 : (ty : Int) = 37
    · refine J_lookup (off := 164) (tgt := 185) d_M_body_21 (by decide) ⟨by omega, by omega⟩ (by rw [sw21_37]; rfl) (by decide) ?_
      refine J_aload_n 1 d_M_body_185 rfl rfl ?_
      refine J_bipush d_M_body_186 (i8_ok (by decide)) ?_
      refine J_bipush d_M_body_188 (i8_ok (by decide)) ?_
      refine J_iconst d_M_body_190 ?_
      refine J_callVv cw_M_54 nh_M_grow pn_M_grow rfl rfl (by omega) hO (As := [.int (iI 31), .int (iI 100), .int (iI 0)]) (rest := []) rfl (Nat.le_of_ble_eq_true rfl) ⟨by decide, by decide⟩ rfl ⟨by decide, by decide⟩ d_M_body_191 (k_M_grow hfl (a := 31) (m := 100) (more := 0) (hh := hh) (ll := ll) (V := V) (br := br) (hN := hN) (hO := hO) (hB := hB) (hL := hL) (hR := hR) (ha := by omega) (hxa := hx) (bra := (hzz.2 31 (by decide) (by decide))) (hm := ⟨by omega, by omega⟩) (hT := hgr) (hmo := by decide)) (fun  F4 hq => ?_)
      obtain ⟨bh20, bl21, hR22, eF4⟩ := hq
      refine J_eqF (F2 := va_up (va_up F 99 (.inl (g 0, 858, .inl (aI bh20)))) 100 (.inl (g 0, 33, .inl (aI bl21)))) eF4 ?_
      have hR25 := reg_w1 (hzz.1 _) hR22
      refine J_aload_n 1 d_M_body_194 rfl rfl ?_
      refine J_iload_n 0 d_M_body_195 rfl rfl ?_
      have hR26 := (congrArg (fun qq : Nat => reg _ _ _ (va_up V 31 qq)) (show (x * 100 + 0) = (x * 100) from rfl)).mp hR25
      have hx130 : x * 100 < 2 ^ 130 * y := by
        have h1 : x * 100 < 2 ^ 120 * y * 100 := Nat.mul_lt_mul_of_pos_right hxy (by decide)
        have h9 : 2 ^ 120 * y * 100 ≤ 2 ^ 130 * y := by
          rw [Nat.mul_right_comm]; exact Nat.mul_le_mul_right _ (by decide)
        omega
      refine J_callVv cw_M_360 nh_M_sayFixed pn_M_sayFixed rfl rfl (by omega) (by rw [va_up_ne _ _ (by decide), va_up_ne _ _ (by decide)]; exact hO) (As := [.int (iI (p : Int))]) (rest := []) rfl (Nat.le_of_ble_eq_true rfl) ⟨by decide, by decide⟩ rfl ⟨by decide, by decide⟩ d_M_body_196 (c_M_sayFixed hfl (dh := dh) (tt := tt) (w := w) (hh := bh20) (ll := bl21) (f := f) (v := v) (V := va_up V 31 (x * 100)) (br := br) (x := x * 100) (y := y) (p := p) (pa := pa) (sh := sh) hN (by rw [va_up_ne _ _ (by decide), va_up_ne _ _ (by decide)]; exact hO) (by rw [va_up_ne _ _ (by decide), va_up_self]) (by rw [va_up_self]) hR26 hzz (by rw [va_up_ne _ _ (by decide), va_up_ne _ _ (by decide)]; exact h106) (by rw [va_up_ne _ _ (by decide), va_up_ne _ _ (by decide)]; exact h107) hmt (hf18) (va_up_self ..) ((va_up_ne _ _ (by decide)).trans hy) (Nat.lt_trans (Nat.mul_lt_mul_of_pos_right hxb (by decide : 0 < 100)) (by decide)) hyb hy0 hx130 (by omega) (hpa) hpab (hsh) hshb hwl) (fun  F5 hq => ?_)
      obtain ⟨bh27, bl28, f32, dh29, tt31, W30, hR33, hW34, hf35, hf1836, hmt37, eF5⟩ := hq
      refine J_eqF (F2 := va_up (va_up (va_up (va_up (va_up F 99 (.inl (g 0, 858, .inl (aI bh27)))) 100 (.inl (g 0, 33, .inl (aI bl28)))) 98 (oM ad f32 v)) 106 (.inl (g 0, 200, .inl (aI dh29)))) 107 (.inl (g 0, 260, .inl (aI tt31)))) (eF5.trans (Eq.trans (congrArg (fun qF : Nat → va_E => va_up qF 107 (.inl (g 0, 260, .inl (aI tt31)))) (congrArg (fun qF : Nat → va_E => va_up qF 106 (.inl (g 0, 200, .inl (aI dh29)))) (congrArg (fun qF : Nat → va_E => va_up qF 100 (.inl (g 0, 33, .inl (aI bl28)))) (up_in2 (by decide) (by decide))))) (congrArg (fun qF : Nat → va_E => va_up qF 107 (.inl (g 0, 260, .inl (aI tt31)))) (congrArg (fun qF : Nat → va_E => va_up qF 106 (.inl (g 0, 200, .inl (aI dh29)))) (up_in1 (by decide)))))) ?_
      have hl9 : (fixT (rdq (x * 100) y (p : Int)) p pa sh).length ≤ 121 := (okT_fix hy0 hx130 (by omega) hpab).1
      refine J_aload_n 1 d_M_body_199 rfl rfl ?_
      refine J_bipush d_M_body_200 (i8_ok (by decide)) ?_
      refine J_callVv cw_M_278 nh_M_say pn_M_say rfl rfl (by omega) (by rw [va_up_ne _ _ (by decide), va_up_ne _ _ (by decide), va_up_self]) (As := [.int (iI 37)]) (rest := []) rfl (Nat.le_of_ble_eq_true rfl) ⟨by decide, by decide⟩ rfl ⟨by decide, by decide⟩ d_M_body_202 (c_M_say hfl (f := f32) (v := v) (tt := tt31) (w := (w ++ fixT (rdq (x * 100) y (p : Int)) p pa sh)) (c := (37 : Nat)) hN (by rw [va_up_ne _ _ (by decide), va_up_ne _ _ (by decide), va_up_self]) (by rw [va_up_self]) hmt37 (hf1836) (by simp only [List.length_append, List.length_cons, List.length_nil]; omega)) (fun  F6 hq => ?_)
      obtain ⟨tx38, hmt39, eF6⟩ := hq
      refine J_eqF (F2 := va_up (va_up (va_up (va_up (va_up F 99 (.inl (g 0, 858, .inl (aI bh27)))) 100 (.inl (g 0, 33, .inl (aI bl28)))) 98 (oM ad (va_up f32 18 ((((w ++ fixT (rdq (x * 100) y (p : Int)) p pa sh) ++ [(37 : Nat)]).length : Nat) : Int)) v)) 106 (.inl (g 0, 200, .inl (aI dh29)))) 107 (.inl (g 0, 260, .inl (aI tx38)))) (eF6.trans (Eq.trans (congrArg (fun qF : Nat → va_E => va_up qF 98 (oM ad (va_up f32 18 ((((w ++ fixT (rdq (x * 100) y (p : Int)) p pa sh) ++ [(37 : Nat)]).length : Nat) : Int)) v)) (up_in0)) (up_in2 (by decide) (by decide)))) ?_
      refine J_goto (tgt := 243) d_M_body_205 (by decide) ?_
      refine J_eqF (F2 := va_up (va_up (va_up (va_up (va_up F 98 (oM ad (va_up f32 18 ((((w ++ fixT (rdq (x * 100) y (p : Int)) p pa sh) ++ [(37 : Nat)]).length : Nat) : Int)) v)) 99 (.inl (g 0, 858, .inl (aI bh27)))) 100 (.inl (g 0, 33, .inl (aI bl28)))) 106 (.inl (g 0, 200, .inl (aI dh29)))) 107 (.inl (g 0, 260, .inl (aI tx38)))) (Eq.trans (congrArg (fun qq : Nat → va_E => va_up (va_up qq 106 (.inl (g 0, 200, .inl (aI dh29)))) 107 (.inl (g 0, 260, .inl (aI tx38)))) (up_cm (by decide))) (congrArg (fun qq : Nat → va_E => va_up (va_up (va_up qq 100 (.inl (g 0, 33, .inl (aI bl28)))) 106 (.inl (g 0, 200, .inl (aI dh29)))) 107 (.inl (g 0, 260, .inl (aI tx38)))) (up_cm (by decide)))) ?_
      have ehmt40 : ((w ++ fixT (rdq (x * 100) y (p : Int)) p pa sh) ++ [(37 : Nat)]) = w ++ bodT ty pr pa sh u d := by unfold bodT; rw [if_neg (by omega), if_neg (by omega), if_pos (by omega), ← hp, ← rdq_ratio (u := x * 100) (d := y) hy0 hd0 (by rw [Nat.mul_right_comm, hxd, Nat.mul_right_comm]), List.append_assoc]
      have hmt40 : mtx tx38 (w ++ bodT ty pr pa sh u d) := ehmt40 ▸ hmt39
      refine J_eqF (F2 := va_up (va_up (va_up (va_up (va_up F 98 (oM ad (va_up f32 18 ((w ++ bodT ty pr pa sh u d).length : Int)) v)) 99 (.inl (g 0, 858, .inl (aI bh27)))) 100 (.inl (g 0, 33, .inl (aI bl28)))) 106 (.inl (g 0, 200, .inl (aI dh29)))) 107 (.inl (g 0, 260, .inl (aI tx38)))) (congrArg (fun qq : Int => va_up (va_up (va_up (va_up (va_up F 98 (oM ad (va_up f32 18 qq) v)) 99 (.inl (g 0, 858, .inl (aI bh27)))) 100 (.inl (g 0, 33, .inl (aI bl28)))) 106 (.inl (g 0, 200, .inl (aI dh29)))) 107 (.inl (g 0, 260, .inl (aI tx38)))) (show ((((w ++ fixT (rdq (x * 100) y (p : Int)) p pa sh) ++ [(37 : Nat)]).length : Nat) : Int) = ((w ++ bodT ty pr pa sh u d).length : Int) from by rw [ehmt40])) ?_
      refine J_vret rfl d_M_body_243 ⟨by decide, by decide⟩ ?_
      refine ⟨rfl, rfl, rfl, bh27, bl28, (va_up f32 18 ((w ++ bodT ty pr pa sh u d).length : Int)), dh29, tx38, W30, hR33, ?_, ?_, (va_up_self ..), hmt40, rfl⟩
      · exact (fun k hk => ((show (W30) k = W30 k from by rfl).trans ((hW34 k (by omega)).trans (show (va_up V 31 (x * 100)) k = V k from by rw [va_up_ne _ _ (by omega)]))))
      · exact (fun j h1 h2 => ((show (va_up f32 18 ((w ++ bodT ty pr pa sh u d).length : Int)) j = f32 j from by rw [va_up_ne _ _ h2]).trans ((hf35 j h1 h2).trans (show (f) j = f j from by rfl))))
    by_cases sw21_69 : (ty : Int) = 69
    · refine J_lookup (off := 187) (tgt := 208) d_M_body_21 (by decide) ⟨by omega, by omega⟩ (by rw [sw21_69]; rfl) (by decide) ?_
      refine J_pick (lv' := [(0, .ref (ad 98)), (1, .int (iI (p : Int)))]) [1, 0] rfl ?_
      exact lab208  (by omega)
    by_cases sw21_88 : (ty : Int) = 88
    · refine J_lookup (off := 75) (tgt := 96) d_M_body_21 (by decide) ⟨by omega, by omega⟩ (by rw [sw21_88]; rfl) (by decide) ?_
      refine J_pick (lv' := [(0, .ref (ad 98)), (1, .int (iI (p : Int)))]) [1, 0] rfl ?_
      exact lab96  (by omega)
    by_cases sw21_98 : (ty : Int) = 98
    · refine J_lookup (off := 75) (tgt := 96) d_M_body_21 (by decide) ⟨by omega, by omega⟩ (by rw [sw21_98]; rfl) (by decide) ?_
      refine J_pick (lv' := [(0, .ref (ad 98)), (1, .int (iI (p : Int)))]) [1, 0] rfl ?_
      exact lab96  (by omega)
    by_cases sw21_100 : (ty : Int) = 100
    · refine J_lookup (off := 75) (tgt := 96) d_M_body_21 (by decide) ⟨by omega, by omega⟩ (by rw [sw21_100]; rfl) (by decide) ?_
      refine J_pick (lv' := [(0, .ref (ad 98)), (1, .int (iI (p : Int)))]) [1, 0] rfl ?_
      exact lab96  (by omega)
    by_cases sw21_101 : (ty : Int) = 101
    · refine J_lookup (off := 187) (tgt := 208) d_M_body_21 (by decide) ⟨by omega, by omega⟩ (by rw [sw21_101]; rfl) (by decide) ?_
      refine J_pick (lv' := [(0, .ref (ad 98)), (1, .int (iI (p : Int)))]) [1, 0] rfl ?_
      exact lab208  (by omega)
    by_cases sw21_102 : (ty : Int) = 102
    · refine J_lookup (off := 156) (tgt := 177) d_M_body_21 (by decide) ⟨by omega, by omega⟩ (by rw [sw21_102]; rfl) (by decide) ?_
      refine J_aload_n 1 d_M_body_177 rfl rfl ?_
      refine J_iload_n 0 d_M_body_178 rfl rfl ?_
      have hxc : x < 2 ^ 176 := Nat.lt_trans hxb (by decide)
      refine J_callVv cw_M_360 nh_M_sayFixed pn_M_sayFixed rfl rfl (by omega) hO (As := [.int (iI (p : Int))]) (rest := []) rfl (Nat.le_of_ble_eq_true rfl) ⟨by decide, by decide⟩ rfl ⟨by decide, by decide⟩ d_M_body_179 (c_M_sayFixed hfl (dh := dh) (tt := tt) (w := w) (hh := hh) (ll := ll) (f := f) (v := v) (V := V) (br := br) (x := x) (y := y) (p := p) (pa := pa) (sh := sh) hN hO hB hL hR hzz h106 h107 hmt (hf18) (hx) (hy) hxc hyb hy0 (Nat.lt_of_lt_of_le hxy (Nat.mul_le_mul_right _ (by decide))) (by omega) (hpa) hpab (hsh) hshb hwl) (fun  F7 hq => ?_)
      obtain ⟨bh41, bl42, f46, dh43, tt45, W44, hR47, hW48, hf49, hf1850, hmt51, eF7⟩ := hq
      refine J_eqF (F2 := va_up (va_up (va_up (va_up (va_up F 98 (oM ad f46 v)) 99 (.inl (g 0, 858, .inl (aI bh41)))) 100 (.inl (g 0, 33, .inl (aI bl42)))) 106 (.inl (g 0, 200, .inl (aI dh43)))) 107 (.inl (g 0, 260, .inl (aI tt45)))) eF7 ?_
      refine J_goto (tgt := 243) d_M_body_182 (by decide) ?_
      refine J_eqF (F2 := va_up (va_up (va_up (va_up (va_up F 98 (oM ad (va_up f46 18 (((w ++ fixT (rdq x y (p : Int)) p pa sh).length : Nat) : Int)) v)) 99 (.inl (g 0, 858, .inl (aI bh41)))) 100 (.inl (g 0, 33, .inl (aI bl42)))) 106 (.inl (g 0, 200, .inl (aI dh43)))) 107 (.inl (g 0, 260, .inl (aI tt45)))) (congrArg (fun qq : Nat → Int => va_up (va_up (va_up (va_up (va_up F 98 (oM ad qq v)) 99 (.inl (g 0, 858, .inl (aI bh41)))) 100 (.inl (g 0, 33, .inl (aI bl42)))) 106 (.inl (g 0, 200, .inl (aI dh43)))) 107 (.inl (g 0, 260, .inl (aI tt45)))) (up_same1 (i := 18) (a := (((w ++ fixT (rdq x y (p : Int)) p pa sh).length : Nat) : Int)) (hf1850))) ?_
      have ehmt52 : (w ++ fixT (rdq x y (p : Int)) p pa sh) = w ++ bodT ty pr pa sh u d := by unfold bodT; rw [if_neg (by omega), if_pos (by omega), ← hp, ← rdq_ratio hy0 hd0 hxd]
      have hmt52 : mtx tt45 (w ++ bodT ty pr pa sh u d) := ehmt52 ▸ hmt51
      refine J_eqF (F2 := va_up (va_up (va_up (va_up (va_up F 98 (oM ad (va_up f46 18 ((w ++ bodT ty pr pa sh u d).length : Int)) v)) 99 (.inl (g 0, 858, .inl (aI bh41)))) 100 (.inl (g 0, 33, .inl (aI bl42)))) 106 (.inl (g 0, 200, .inl (aI dh43)))) 107 (.inl (g 0, 260, .inl (aI tt45)))) (congrArg (fun qq : Int => va_up (va_up (va_up (va_up (va_up F 98 (oM ad (va_up f46 18 qq) v)) 99 (.inl (g 0, 858, .inl (aI bh41)))) 100 (.inl (g 0, 33, .inl (aI bl42)))) 106 (.inl (g 0, 200, .inl (aI dh43)))) 107 (.inl (g 0, 260, .inl (aI tt45)))) (show (((w ++ fixT (rdq x y (p : Int)) p pa sh).length : Nat) : Int) = ((w ++ bodT ty pr pa sh u d).length : Int) from by rw [ehmt52])) ?_
      refine J_vret rfl d_M_body_243 ⟨by decide, by decide⟩ ?_
      refine ⟨rfl, rfl, rfl, bh41, bl42, (va_up f46 18 ((w ++ bodT ty pr pa sh u d).length : Int)), dh43, tt45, W44, hR47, ?_, ?_, (va_up_self ..), hmt52, rfl⟩
      · exact (fun k hk => ((show (W44) k = W44 k from by rfl).trans ((hW48 k (by omega)).trans (show (V) k = V k from by rfl))))
      · exact (fun j h1 h2 => ((show (va_up f46 18 ((w ++ bodT ty pr pa sh u d).length : Int)) j = f46 j from by rw [va_up_ne _ _ h2]).trans ((hf49 j h1 h2).trans (show (f) j = f j from by rfl))))
    by_cases sw21_120 : (ty : Int) = 120
    · refine J_lookup (off := 75) (tgt := 96) d_M_body_21 (by decide) ⟨by omega, by omega⟩ (by rw [sw21_120]; rfl) (by decide) ?_
      refine J_pick (lv' := [(0, .ref (ad 98)), (1, .int (iI (p : Int)))]) [1, 0] rfl ?_
      exact lab96  (by omega)
    refine J_lookup (off := 202) (tgt := 223) d_M_body_21 (by decide) ⟨by omega, by omega⟩ (by simp [Op.lookupswitch.offset]; omega) (by decide) ?_
    have lab240 : ∀ (lt : Nat) (hlt : lt = (if ty = 71 then 69 else 101)) , J l rm_M_body (0, 0) "NumberTowerModel" b_M_body 3 (Option.none : Option Jvm.ClassFile.FieldType) D jCl (jTys g) A (fun _ me => me.name = y_M_body.name) (jv ad N (fun F' => ∃ (hh' ll' f' dh' tt' : Nat → Int) (W : Nat → Nat), reg br hh' ll' W ∧ (∀ k, k < 16 → W k = V k) ∧ (∀ j, j ≠ 16 → j ≠ 18 → f' j = f j) ∧ f' 18 = ((w ++ bodT ty pr pa sh u d).length : Int) ∧ mtx tt' (w ++ bodT ty pr pa sh u d) ∧ F' = va_up (va_up (va_up (va_up (va_up F 98 (oM ad f' v)) 99 (aB g hh')) 100 (aL g ll')) 106 (.inl (g 0, 200, .inl (aI dh')))) 107 (.inl (g 0, 260, .inl (aI tt'))))) ad N 0 0 240 [(0, .ref (ad 98)), (1, .int (iI (p : Int)))] [.int (iI (lt : Int)), .ref (ad 98)] F := by
      intro lt hlt
      have hltb : lt = 69 ∨ lt = 101 := by rw [hlt]; split; exact Or.inl rfl; exact Or.inr rfl
      obtain ⟨pg, hpg⟩ : ∃ q, q = (if pr < 0 then 6 else if pr = 0 then 1 else pr.toNat) := ⟨_, rfl⟩
      refine J_callVv cw_M_363 nh_M_sayGeneral pn_M_sayGeneral rfl rfl (by omega) hO (As := [.int (iI (lt : Int))]) (rest := []) rfl (Nat.le_of_ble_eq_true rfl) ⟨by decide, by decide⟩ rfl ⟨by decide, by decide⟩ d_M_body_240 (c_M_sayGeneral hfl (dh := dh) (tt := tt) (w := w) (hh := hh) (ll := ll) (f := f) (v := v) (V := V) (br := br) (x := x) (y := y) (u := u) (d := d) (p := pg) (pa := pa) (lt := lt) (sh := sh) (pr := pr) hN hO hB hL hR hzz h106 h107 hmt (hf18) (hx) (hy) hxb hyb hy0 hd0 hxd (Nat.lt_of_lt_of_le hxy (Nat.mul_le_mul_right _ (by decide))) (hpr) ⟨by omega, by omega⟩ hpg (hpa) hpab hpa46 (hsh) hshb (by omega) hwl) (fun  F8 hq => ?_)
      obtain ⟨bh53, bl54, f58, dh55, tt57, W56, hR59, hW60, hf61, hf1862, hmt63, eF8⟩ := hq
      refine J_eqF (F2 := va_up (va_up (va_up (va_up (va_up F 98 (oM ad f58 v)) 99 (.inl (g 0, 858, .inl (aI bh53)))) 100 (.inl (g 0, 33, .inl (aI bl54)))) 106 (.inl (g 0, 200, .inl (aI dh55)))) 107 (.inl (g 0, 260, .inl (aI tt57)))) eF8 ?_
      refine J_eqF (F2 := va_up (va_up (va_up (va_up (va_up F 98 (oM ad (va_up f58 18 (((w ++ genT u d pg pa sh lt).length : Nat) : Int)) v)) 99 (.inl (g 0, 858, .inl (aI bh53)))) 100 (.inl (g 0, 33, .inl (aI bl54)))) 106 (.inl (g 0, 200, .inl (aI dh55)))) 107 (.inl (g 0, 260, .inl (aI tt57)))) (congrArg (fun qq : Nat → Int => va_up (va_up (va_up (va_up (va_up F 98 (oM ad qq v)) 99 (.inl (g 0, 858, .inl (aI bh53)))) 100 (.inl (g 0, 33, .inl (aI bl54)))) 106 (.inl (g 0, 200, .inl (aI dh55)))) 107 (.inl (g 0, 260, .inl (aI tt57)))) (up_same1 (i := 18) (a := (((w ++ genT u d pg pa sh lt).length : Nat) : Int)) (hf1862))) ?_
      have ehmt64 : (w ++ genT u d pg pa sh lt) = w ++ bodT ty pr pa sh u d := by unfold bodT; rw [if_neg (by omega), if_neg (by omega), if_neg (by omega), if_neg (by omega), ← hpg, ← hlt]
      have hmt64 : mtx tt57 (w ++ bodT ty pr pa sh u d) := ehmt64 ▸ hmt63
      refine J_eqF (F2 := va_up (va_up (va_up (va_up (va_up F 98 (oM ad (va_up f58 18 ((w ++ bodT ty pr pa sh u d).length : Int)) v)) 99 (.inl (g 0, 858, .inl (aI bh53)))) 100 (.inl (g 0, 33, .inl (aI bl54)))) 106 (.inl (g 0, 200, .inl (aI dh55)))) 107 (.inl (g 0, 260, .inl (aI tt57)))) (congrArg (fun qq : Int => va_up (va_up (va_up (va_up (va_up F 98 (oM ad (va_up f58 18 qq) v)) 99 (.inl (g 0, 858, .inl (aI bh53)))) 100 (.inl (g 0, 33, .inl (aI bl54)))) 106 (.inl (g 0, 200, .inl (aI dh55)))) 107 (.inl (g 0, 260, .inl (aI tt57)))) (show (((w ++ genT u d pg pa sh lt).length : Nat) : Int) = ((w ++ bodT ty pr pa sh u d).length : Int) from by rw [ehmt64])) ?_
      refine J_vret rfl d_M_body_243 ⟨by decide, by decide⟩ ?_
      refine ⟨rfl, rfl, rfl, bh53, bl54, (va_up f58 18 ((w ++ bodT ty pr pa sh u d).length : Int)), dh55, tt57, W56, hR59, ?_, ?_, (va_up_self ..), hmt64, rfl⟩
      · exact (fun k hk => ((show (W56) k = W56 k from by rfl).trans ((hW60 k (by omega)).trans (show (V) k = V k from by rfl))))
      · exact (fun j h1 h2 => ((show (va_up f58 18 ((w ++ bodT ty pr pa sh u d).length : Int)) j = f58 j from by rw [va_up_ne _ _ h2]).trans ((hf61 j h1 h2).trans (show (f) j = f j from by rfl))))
    refine J_aload_n 1 d_M_body_223 rfl rfl ?_
    refine J_aload_n 1 d_M_body_224 rfl rfl ?_
    refine gf_M_345 (by omega) hO rfl d_M_body_225 ?_
    refine J_topi (r := (ty : Int)) (congrArg iI hty) ?_
    refine J_bipush d_M_body_228 (i8_ok (by decide)) ?_
    refine J_if_icmpne (tgt := 238) d_M_body_230 (by decide) ⟨by omega, by omega⟩ ⟨by omega, by omega⟩ (fun c230 => ?_) (fun c230 => ?_)
    · refine J_bipush d_M_body_238 (i8_ok (by decide)) ?_
      refine J_pick (lv' := [(0, .ref (ad 98)), (1, .int (iI (p : Int)))]) [1, 0] rfl ?_
      exact lab240 101 (by rw [if_neg (by omega)])
    · refine J_bipush d_M_body_233 (i8_ok (by decide)) ?_
      refine J_goto (tgt := 240) d_M_body_235 (by decide) ?_
      refine J_pick (lv' := [(0, .ref (ad 98)), (1, .int (iI (p : Int)))]) [1, 0] rfl ?_
      exact lab240 69 (by rw [if_pos (by omega)])
  refine J_aload_n 0 d_M_body_0 rfl rfl ?_
  refine gf_M_342 (by omega) hO rfl d_M_body_1 ?_
  refine J_topi (r := pr) (congrArg iI hpr) ?_
  refine J_ifge (tgt := 12) d_M_body_4 (by decide) ⟨by omega, by omega⟩ (fun c4 => ?_) (fun c4 => ?_)
  · refine J_aload_n 0 d_M_body_12 rfl rfl ?_
    refine gf_M_342 (by omega) hO rfl d_M_body_13 ?_
    refine J_topi (r := pr) (congrArg iI hpr) ?_
    refine J_topi (r := ((pr.toNat : Nat) : Int)) (congrArg iI (by omega)) ?_
    exact lab16 pr.toNat (by rw [if_neg (by omega)])
  · refine J_bipush d_M_body_7 (i8_ok (by decide)) ?_
    refine J_goto (tgt := 16) d_M_body_9 (by decide) ?_
    exact lab16 6 (by rw [if_pos (by omega)])
