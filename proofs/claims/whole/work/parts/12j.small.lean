/-! the Model: kind, value, part, letter, wipe, write -/
/-- what value answers -/
def valQ (w : Vn) (z : UInt64) : Prop := (w.1 = 2 ∧ z = fd (decide (w.2.1 < 0)) w.2.2.1 (1 - (blen w.2.2.2 : Int))) ∨ (w.1 ≠ 2 ∧ z = fd false 0 0)
/-- what part answers -/
def partQ (w : Vn) (low k : Int) : Int := if w.1 = -1 ∨ w.1 = 2 ∨ ¬(0 ≤ k ∧ k ≤ 1) then -1 else (((if low = 0 then w.2.2.1 else w.2.2.2) / 2 ^ (60 * k.toNat) % 2 ^ 60 : Nat) : Int)
theorem and60 {x : Nat} : x % 18446744073709551616 % 1152921504606846976 = x % 2 ^ 60 := by omega
theorem tat_mtx {h : Nat → Int} {w : List Nat} (hm : mtx h w) {k : Int} (h0 : 0 ≤ k) (h1 : k < w.length) : h k.toNat = tat w k := by
  rw [tat_v h0 h1, hm _ (by omega)]
/-- byte k of an int -/
def byt (w : Int) (k : Nat) : Nat := (w / 2 ^ (8 * k) % 256).toNat
theorem byt_eq (w : Int) (k : Nat) : w / 2 ^ (8 * k) % 256 = ((byt w k : Nat) : Int) := (Int.toNat_of_nonneg (Int.emod_nonneg _ (by decide))).symm
theorem byt_lt (w : Int) (k : Nat) : byt w k < 256 := by
  have h1 := byt_eq w k
  have h2 := Int.emod_lt_of_pos (w / 2 ^ (8 * k)) (show (0 : Int) < 256 by decide)
  omega
/-- the characters of an int, of its first j bytes -/
def wch (w : Int) : Nat → List Nat
  | 0 => []
  | j + 1 => wch w j ++ (if byt w (3 - j) = 0 then [] else [byt w (3 - j)])
theorem wch_0 {w : Int} {j : Nat} (h : byt w (3 - j) = 0) : wch w (j + 1) = wch w j := by
  show wch w j ++ _ = _
  rw [if_pos h, List.append_nil]
theorem wch_1 {w : Int} {j : Nat} (h : byt w (3 - j) ≠ 0) : wch w (j + 1) = wch w j ++ [byt w (3 - j)] := by
  show wch w j ++ _ = _
  rw [if_neg h]
theorem wch_len (w : Int) : ∀ j, (wch w j).length ≤ j
  | 0 => Nat.le_refl _
  | j + 1 => by
    have := wch_len w j
    by_cases h : byt w (3 - j) = 0
    · rw [wch_0 h]; omega
    · rw [wch_1 h, List.length_append]; simp; omega
theorem wch_sub (w : Int) : ∀ (n j : Nat) (c : Nat), c ∈ wch w j → c ∈ wch w (j + n)
  | 0, _, _, h => h
  | n + 1, j, c, h => by
    have := wch_sub w n j c h
    show c ∈ wch w (j + n) ++ _
    exact List.mem_append.mpr (Or.inl this)
def wok (w : Int) (j : Nat) : Prop := ∀ c, c ∈ wch w j → 32 ≤ c ∧ c ≤ 126
theorem wok_1 {w : Int} {j : Nat} (h : wok w j) (hc : 32 ≤ byt w (3 - j) ∧ byt w (3 - j) ≤ 126) : wok w (j + 1) := by
  intro c hm
  rw [wch_1 (by omega)] at hm
  rcases List.mem_append.mp hm with q | q
  · exact h c q
  · rw [List.mem_singleton.mp q]; exact hc
theorem wok_0 {w : Int} {j : Nat} (h : wok w j) (hc : byt w (3 - j) = 0) : wok w (j + 1) := by
  intro c hm
  rw [wch_0 hc] at hm
  exact h c hm
/-- when write takes the characters -/
def writeP (ln : List Nat) (w : Int) : Prop := wok w 4 ∧ ln.length + (wch w 4).length ≤ 40
theorem wok_no {w : Int} {j : Nat} (hj : j < 4) (h0 : byt w (3 - j) ≠ 0) (h : ¬(32 ≤ byt w (3 - j) ∧ byt w (3 - j) ≤ 126)) : ¬ wok w 4 := by
  intro hw
  refine h (hw _ ?_)
  have := wch_sub w (4 - (j + 1)) (j + 1) (byt w (3 - j)) (by rw [wch_1 h0]; exact List.mem_append.mpr (Or.inr (List.mem_singleton.mpr rfl)))
  rw [show j + 1 + (4 - (j + 1)) = 4 by omega] at this
  exact this
theorem mtx_put {h : Nat → Int} {w : List Nat} {c : Nat} (hm : mtx h w) : mtx (va_up h w.length ((c : Nat) : Int)) (w ++ [c]) := by
  intro j hj
  simp only [List.length_append, List.length_cons, List.length_nil] at hj
  simp only [List.getD_eq_getElem?_getD, List.getElem?_append]
  by_cases e : j = w.length
  · subst e
    rw [va_up_self, if_neg (by omega), Nat.sub_self]; rfl
  · rw [va_up_ne _ _ e, if_pos (by omega), ← List.getD_eq_getElem?_getD]; exact hm j (by omega)
theorem wch_mono (w : Int) {i j : Nat} (h : i ≤ j) : (wch w i).length ≤ (wch w j).length := by
  obtain ⟨n, rfl⟩ : ∃ n, j = i + n := ⟨j - i, by omega⟩
  clear h
  induction n with
  | zero => exact Nat.le_refl _
  | succ n ih =>
    refine Nat.le_trans ih ?_
    show _ ≤ (wch w (i + n) ++ _).length
    rw [List.length_append]
    exact Nat.le_add_right _ _
set_option maxRecDepth 100000 in
set_option maxHeartbeats 4000000 in
theorem c_M_kind {l : Launch} (hfl : l.flags = flags0) {D : va_G} {g : Nat → ClassId} {ad : Nat → Nat} {N : Nat} {F : Nat → va_E} {R : Nat → Vn} {ln sh : List Nat} {th0 : Int} {a : Int}
    (hN : 109 ≤ N) (hM : mst ad g R ln sh th0 F) (ha : inI a) :
    JC l y_M_kind b_M_kind 2 (Option.some Jvm.ClassFile.FieldType.int) rm_M_kind (0, 0) D jCl (jTys g) ad N F [.ref (ad 98), .int (iI a)] (ji ad N (fun z F' => z = (regV R a).1 ∧ mst ad g R ln sh 0 F' ∧ offM F F')) := by
  obtain ⟨hh, ll, f, v, V, br, kk, bb, rr, lh, xh, dh, tt, hD0, hth⟩ := hM
  have hD := hD0
  obtain ⟨hO, hB, hL, hR, hzz, hKk, hBb, hRr, hmr, h104, h105, h106, h107, hln, hsh⟩ := hD
  have hkI := mR_kI hmr
  refine JC.go hfl (own := "NumberTowerModel") (lv := [(0, .ref (ad 98)), (1, .int (iI a))]) rfl (by decide +kernel) (Nat.le_of_ble_eq_true rfl) rfl (fun A => ?_)
  refine J_aload_n 0 d_M_kind_0 rfl rfl ?_
  refine J_iconst d_M_kind_1 ?_
  refine pm_M_39 (by omega) hO d_M_kind_2 ?_
  refine J_aload_n 0 d_M_kind_5 rfl rfl ?_
  refine J_iload_n 1 d_M_kind_6 rfl rfl ?_
  refine J_callVi cw_M_176 nh_M_isNumber pn_M_isNumber rfl rfl (by omega) (by rw [va_up_self]) (As := [.int (iI a)]) (rest := []) rfl (Nat.le_of_ble_eq_true rfl) ⟨by decide, by decide⟩ rfl ⟨by decide, by decide⟩ d_M_kind_7 (c_M_isNumber hfl (r := a) (f := va_up f 10 0) (v := v) (kk := kk) hN (by rw [va_up_self]) (by rw [va_up_ne _ _ (by decide)]; exact hKk) (by omega) (fun j hj => ⟨by have := hkI j hj; omega, by have := hkI j hj; omega⟩)) (fun za F1 hq => ?_)
  obtain ⟨hza, eF1⟩ := hq
  refine J_eqF eF1 ?_
  refine J_ifeq (tgt := 22) d_M_kind_10 (by decide) ⟨by omega, by omega⟩ (fun c10 => ?_) (fun c10 => ?_)
  · refine J_iconst d_M_kind_22 ?_
    refine J_eqF (F2 := va_up (va_up F 98 (oM ad (va_up f 10 0) v)) 99 (.inl (g 0, 858, .inl (aI hh)))) (up_same1 (by rw [va_up_ne _ _ (by decide)]; exact hB)) ?_
    refine J_eqF (F2 := va_up (va_up (va_up F 98 (oM ad (va_up f 10 0) v)) 99 (.inl (g 0, 858, .inl (aI hh)))) 100 (.inl (g 0, 33, .inl (aI ll)))) (up_same1 (by rw [va_up_ne _ _ (by decide), va_up_ne _ _ (by decide)]; exact hL)) ?_
    refine J_iret rfl rfl d_M_kind_23 ⟨by decide, by decide⟩ ?_
    exact ⟨_, rfl, rfl, rfl, (by rw [regV_no hmr (by omega)]), mst_3 hD0 hR hzz (fun k hk => (show (V) k = V k from by rfl)) (va_up_ne _ _ (by decide)) (va_up_ne _ _ (by decide)) (va_up_self ..), offM_3⟩
  · refine J_aload_n 0 d_M_kind_13 rfl rfl ?_
    refine gf_M_16 (by omega) (by rw [va_up_self]) rfl d_M_kind_14 ?_
    refine J_iload_n 1 d_M_kind_17 rfl rfl ?_
    refine J_iaload 0 rfl (by omega) (by rw [va_up_ne _ _ (by decide)]; exact hKk) (by omega) d_M_kind_18 ?_
    refine J_goto (tgt := 23) d_M_kind_19 (by decide) ?_
    refine J_eqF (F2 := va_up (va_up F 98 (oM ad (va_up f 10 0) v)) 99 (.inl (g 0, 858, .inl (aI hh)))) (up_same1 (by rw [va_up_ne _ _ (by decide)]; exact hB)) ?_
    refine J_eqF (F2 := va_up (va_up (va_up F 98 (oM ad (va_up f 10 0) v)) 99 (.inl (g 0, 858, .inl (aI hh)))) 100 (.inl (g 0, 33, .inl (aI ll)))) (up_same1 (by rw [va_up_ne _ _ (by decide), va_up_ne _ _ (by decide)]; exact hL)) ?_
    refine J_iret rfl rfl d_M_kind_23 ⟨by decide, by decide⟩ ?_
    exact ⟨_, rfl, rfl, rfl, (by rw [regV_in (by omega), ← (hmr a.toNat (by omega)).2.1]), mst_3 hD0 hR hzz (fun k hk => (show (V) k = V k from by rfl)) (va_up_ne _ _ (by decide)) (va_up_ne _ _ (by decide)) (va_up_self ..), offM_3⟩
set_option maxRecDepth 100000 in
set_option maxHeartbeats 4000000 in
theorem c_M_value {l : Launch} (hfl : l.flags = flags0) {D : va_G} {g : Nat → ClassId} {ad : Nat → Nat} {N : Nat} {F : Nat → va_E} {R : Nat → Vn} {ln sh : List Nat} {th0 : Int} {a : Int}
    (hN : 109 ≤ N) (hM : mst ad g R ln sh th0 F) (ha : inI a) :
    JC l y_M_value b_M_value 2 (Option.some Jvm.ClassFile.FieldType.double) rm_M_value (0, 0) D jCl (jTys g) ad N F [.ref (ad 98), .int (iI a)] (jd ad N (fun z F' => valQ (regV R a) z ∧ mst ad g R ln sh 0 F' ∧ offM F F')) := by
  obtain ⟨hh, ll, f, v, V, br, kk, bb, rr, lh, xh, dh, tt, hD0, hth⟩ := hM
  have hD := hD0
  obtain ⟨hO, hB, hL, hR, hzz, hKk, hBb, hRr, hmr, h104, h105, h106, h107, hln, hsh⟩ := hD
  have hkI := mR_kI hmr
  refine JC.go hfl (own := "NumberTowerModel") (lv := [(0, .ref (ad 98)), (1, .int (iI a))]) rfl (by decide +kernel) (Nat.le_of_ble_eq_true rfl) rfl (fun A => ?_)
  refine J_aload_n 0 d_M_value_0 rfl rfl ?_
  refine J_iconst d_M_value_1 ?_
  refine pm_M_39 (by omega) hO d_M_value_2 ?_
  refine J_aload_n 0 d_M_value_5 rfl rfl ?_
  refine J_iload_n 1 d_M_value_6 rfl rfl ?_
  refine J_callVi cw_M_176 nh_M_isNumber pn_M_isNumber rfl rfl (by omega) (by rw [va_up_self]) (As := [.int (iI a)]) (rest := []) rfl (Nat.le_of_ble_eq_true rfl) ⟨by decide, by decide⟩ rfl ⟨by decide, by decide⟩ d_M_value_7 (c_M_isNumber hfl (r := a) (f := va_up f 10 0) (v := v) (kk := kk) hN (by rw [va_up_self]) (by rw [va_up_ne _ _ (by decide)]; exact hKk) (by omega) (fun j hj => ⟨by have := hkI j hj; omega, by have := hkI j hj; omega⟩)) (fun za F1 hq => ?_)
  obtain ⟨hza, eF1⟩ := hq
  refine J_eqF eF1 ?_
  refine J_ifeq (tgt := 23) d_M_value_10 (by decide) ⟨by omega, by omega⟩ (fun c10 => ?_) (fun c10 => ?_)
  · refine J_dconst0 d_M_value_23 ?_
    refine J_eqF (F2 := va_up (va_up F 98 (oM ad (va_up f 10 0) v)) 99 (.inl (g 0, 858, .inl (aI hh)))) (up_same1 (by rw [va_up_ne _ _ (by decide)]; exact hB)) ?_
    refine J_eqF (F2 := va_up (va_up (va_up F 98 (oM ad (va_up f 10 0) v)) 99 (.inl (g 0, 858, .inl (aI hh)))) 100 (.inl (g 0, 33, .inl (aI ll)))) (up_same1 (by rw [va_up_ne _ _ (by decide), va_up_ne _ _ (by decide)]; exact hL)) ?_
    refine J_dret rfl d_M_value_24 ⟨by decide, by decide⟩ ?_
    exact ⟨_, rfl, rfl, rfl, Or.inr ⟨by rw [regV_no hmr (by omega)]; decide, c_d0⟩, mst_3 hD0 hR hzz (fun k hk => (show (V) k = V k from by rfl)) (va_up_ne _ _ (by decide)) (va_up_ne _ _ (by decide)) (va_up_self ..), offM_3⟩
  · have hkI9 := hkI a.toNat (by omega)
    refine J_aload_n 0 d_M_value_13 rfl rfl ?_
    refine gf_M_16 (by omega) (by rw [va_up_self]) rfl d_M_value_14 ?_
    refine J_iload_n 1 d_M_value_17 rfl rfl ?_
    refine J_iaload 0 rfl (by omega) (by rw [va_up_ne _ _ (by decide)]; exact hKk) (by omega) d_M_value_18 ?_
    refine J_iconst d_M_value_19 ?_
    refine J_if_icmpeq (tgt := 25) d_M_value_20 (by decide) ⟨by omega, by omega⟩ ⟨by omega, by omega⟩ (fun c20 => ?_) (fun c20 => ?_)
    · obtain ⟨kd, sg, x, y, hRa, hok, hka, hkn, hmg⟩ := mR_at hmr (r := a.toNat) (by omega) (by omega)
      obtain ⟨hk1, hd0, hs1, hfin, hcop, hk0, hb, hs0, hb2, hre⟩ := okv_b hok hkn
      have hrV : regV R a = (kd, sg, x, y) := (regV_in (by omega)).trans hRa
      have hk2 : kd = 2 := by omega
      have hrrv : rr a.toNat = fd false x (1 - (blen y : Int)) := (hmg.2.2.2 hk2).2.2
      have hbv : (bb a.toNat = 1 ∧ sg < 0) ∨ (bb a.toNat = 0 ∧ 0 ≤ sg) := by have h := hmg.2.1; rw [h]; split <;> omega
      refine J_aload_n 0 d_M_value_25 rfl rfl ?_
      refine gf_M_19 (by omega) (by rw [va_up_self]) rfl d_M_value_26 ?_
      refine J_iload_n 1 d_M_value_29 rfl rfl ?_
      refine J_zaload 2 rfl (by omega) (by rw [va_up_ne _ _ (by decide)]; exact hBb) (by omega) d_M_value_30 ?_
      refine J_ifeq (tgt := 44) d_M_value_31 (by decide) ⟨by omega, by omega⟩ (fun c31 => ?_) (fun c31 => ?_)
      · refine J_aload_n 0 d_M_value_44 rfl rfl ?_
        refine gf_M_23 (by omega) (by rw [va_up_self]) rfl d_M_value_45 ?_
        refine J_iload_n 1 d_M_value_48 rfl rfl ?_
        refine J_daload 3 rfl (by omega) (by rw [va_up_ne _ _ (by decide)]; exact hRr) (by omega) d_M_value_49 ?_
        refine J_eqF (F2 := va_up (va_up F 98 (oM ad (va_up f 10 0) v)) 99 (.inl (g 0, 858, .inl (aI hh)))) (up_same1 (by rw [va_up_ne _ _ (by decide)]; exact hB)) ?_
        refine J_eqF (F2 := va_up (va_up (va_up F 98 (oM ad (va_up f 10 0) v)) 99 (.inl (g 0, 858, .inl (aI hh)))) 100 (.inl (g 0, 33, .inl (aI ll)))) (up_same1 (by rw [va_up_ne _ _ (by decide), va_up_ne _ _ (by decide)]; exact hL)) ?_
        refine J_dret rfl d_M_value_50 ⟨by decide, by decide⟩ ?_
        exact ⟨_, rfl, rfl, rfl, Or.inl ⟨by rw [hrV]; show kd = 2; omega, by rw [hrV]; show _ = fd (decide (sg < 0)) x _; rw [hrrv, show decide (sg < 0) = false from decide_eq_false (by omega)]⟩, mst_3 hD0 hR hzz (fun k hk => (show (V) k = V k from by rfl)) (va_up_ne _ _ (by decide)) (va_up_ne _ _ (by decide)) (va_up_self ..), offM_3⟩
      · refine J_aload_n 0 d_M_value_34 rfl rfl ?_
        refine gf_M_23 (by omega) (by rw [va_up_self]) rfl d_M_value_35 ?_
        refine J_iload_n 1 d_M_value_38 rfl rfl ?_
        refine J_daload 3 rfl (by omega) (by rw [va_up_ne _ _ (by decide)]; exact hRr) (by omega) d_M_value_39 ?_
        refine J_dneg d_M_value_40 ?_
        refine J_goto (tgt := 50) d_M_value_41 (by decide) ?_
        refine J_eqF (F2 := va_up (va_up F 98 (oM ad (va_up f 10 0) v)) 99 (.inl (g 0, 858, .inl (aI hh)))) (up_same1 (by rw [va_up_ne _ _ (by decide)]; exact hB)) ?_
        refine J_eqF (F2 := va_up (va_up (va_up F 98 (oM ad (va_up f 10 0) v)) 99 (.inl (g 0, 858, .inl (aI hh)))) 100 (.inl (g 0, 33, .inl (aI ll)))) (up_same1 (by rw [va_up_ne _ _ (by decide), va_up_ne _ _ (by decide)]; exact hL)) ?_
        refine J_dret rfl d_M_value_50 ⟨by decide, by decide⟩ ?_
        exact ⟨_, rfl, rfl, rfl, Or.inl ⟨by rw [hrV]; show kd = 2; omega, by rw [hrV]; show _ = fd (decide (sg < 0)) x _; rw [hrrv, show decide (sg < 0) = true from decide_eq_true (by omega)]; exact fd_neg⟩, mst_3 hD0 hR hzz (fun k hk => (show (V) k = V k from by rfl)) (va_up_ne _ _ (by decide)) (va_up_ne _ _ (by decide)) (va_up_self ..), offM_3⟩
    · refine J_dconst0 d_M_value_23 ?_
      refine J_eqF (F2 := va_up (va_up F 98 (oM ad (va_up f 10 0) v)) 99 (.inl (g 0, 858, .inl (aI hh)))) (up_same1 (by rw [va_up_ne _ _ (by decide)]; exact hB)) ?_
      refine J_eqF (F2 := va_up (va_up (va_up F 98 (oM ad (va_up f 10 0) v)) 99 (.inl (g 0, 858, .inl (aI hh)))) 100 (.inl (g 0, 33, .inl (aI ll)))) (up_same1 (by rw [va_up_ne _ _ (by decide), va_up_ne _ _ (by decide)]; exact hL)) ?_
      refine J_dret rfl d_M_value_24 ⟨by decide, by decide⟩ ?_
      exact ⟨_, rfl, rfl, rfl, Or.inr ⟨by rw [regV_in (by omega), ← (hmr a.toNat (by omega)).2.1]; omega, c_d0⟩, mst_3 hD0 hR hzz (fun k hk => (show (V) k = V k from by rfl)) (va_up_ne _ _ (by decide)) (va_up_ne _ _ (by decide)) (va_up_self ..), offM_3⟩
set_option maxRecDepth 100000 in
set_option maxHeartbeats 4000000 in
theorem c_M_part {l : Launch} (hfl : l.flags = flags0) {D : va_G} {g : Nat → ClassId} {ad : Nat → Nat} {N : Nat} {F : Nat → va_E} {R : Nat → Vn} {ln sh : List Nat} {th0 : Int} {a low ix : Int}
    (hN : 109 ≤ N) (hM : mst ad g R ln sh th0 F) (ha : inI a) (hl : low = 0 ∨ low = 1) (hk : inI ix) :
    JC l y_M_part b_M_part 4 (Option.some Jvm.ClassFile.FieldType.long) rm_M_part (0, 0) D jCl (jTys g) ad N F [.ref (ad 98), .int (iI a), .int (iI low), .int (iI ix)] (jl ad N (fun z F' => z = partQ (regV R a) low ix ∧ mst ad g R ln sh 0 F' ∧ offM F F')) := by
  obtain ⟨hh, ll, f, v, V, br, kk, bb, rr, lh, xh, dh, tt, hD0, hth⟩ := hM
  have hD := hD0
  obtain ⟨hO, hB, hL, hR, hzz, hKk, hBb, hRr, hmr, h104, h105, h106, h107, hln, hsh⟩ := hD
  have hkI := mR_kI hmr
  refine JC.go hfl (own := "NumberTowerModel") (lv := [(0, .ref (ad 98)), (1, .int (iI a)), (2, .int (iI low)), (3, .int (iI ix))]) rfl (by decide +kernel) (Nat.le_of_ble_eq_true rfl) rfl (fun A => ?_)
  refine J_aload_n 0 d_M_part_0 rfl rfl ?_
  refine J_iconst d_M_part_1 ?_
  refine pm_M_39 (by omega) hO d_M_part_2 ?_
  refine J_aload_n 0 d_M_part_5 rfl rfl ?_
  refine J_iload_n 1 d_M_part_6 rfl rfl ?_
  refine J_callVi cw_M_176 nh_M_isNumber pn_M_isNumber rfl rfl (by omega) (by rw [va_up_self]) (As := [.int (iI a)]) (rest := []) rfl (Nat.le_of_ble_eq_true rfl) ⟨by decide, by decide⟩ rfl ⟨by decide, by decide⟩ d_M_part_7 (c_M_isNumber hfl (r := a) (f := va_up f 10 0) (v := v) (kk := kk) hN (by rw [va_up_self]) (by rw [va_up_ne _ _ (by decide)]; exact hKk) (by omega) (fun j hj => ⟨by have := hkI j hj; omega, by have := hkI j hj; omega⟩)) (fun za F1 hq => ?_)
  obtain ⟨hza, eF1⟩ := hq
  refine J_eqF eF1 ?_
  refine J_ifeq (tgt := 32) d_M_part_10 (by decide) ⟨by omega, by omega⟩ (fun c10 => ?_) (fun c10 => ?_)
  · refine J_ldc2 (z := (-1)) d_M_part_32 wd_1464 (by decide) ?_
    refine J_eqF (F2 := va_up (va_up F 98 (oM ad (va_up f 10 0) v)) 99 (.inl (g 0, 858, .inl (aI hh)))) (up_same1 (by rw [va_up_ne _ _ (by decide)]; exact hB)) ?_
    refine J_eqF (F2 := va_up (va_up (va_up F 98 (oM ad (va_up f 10 0) v)) 99 (.inl (g 0, 858, .inl (aI hh)))) 100 (.inl (g 0, 33, .inl (aI ll)))) (up_same1 (by rw [va_up_ne _ _ (by decide), va_up_ne _ _ (by decide)]; exact hL)) ?_
    refine J_lret rfl d_M_part_35 ⟨by decide, by decide⟩ ?_
    exact ⟨_, rfl, rfl, rfl, (show _ = partQ _ _ _ from (if_pos (Or.inl (regV_no hmr (by omega)))).symm), mst_3 hD0 hR hzz (fun k hk => (show (V) k = V k from by rfl)) (va_up_ne _ _ (by decide)) (va_up_ne _ _ (by decide)) (va_up_self ..), offM_3⟩
  · have hkI9 := hkI a.toNat (by omega)
    refine J_aload_n 0 d_M_part_13 rfl rfl ?_
    refine gf_M_16 (by omega) (by rw [va_up_self]) rfl d_M_part_14 ?_
    refine J_iload_n 1 d_M_part_17 rfl rfl ?_
    refine J_iaload 0 rfl (by omega) (by rw [va_up_ne _ _ (by decide)]; exact hKk) (by omega) d_M_part_18 ?_
    refine J_iconst d_M_part_19 ?_
    refine J_if_icmpeq (tgt := 32) d_M_part_20 (by decide) ⟨by omega, by omega⟩ ⟨by omega, by omega⟩ (fun c20 => ?_) (fun c20 => ?_)
    · refine J_ldc2 (z := (-1)) d_M_part_32 wd_1464 (by decide) ?_
      refine J_eqF (F2 := va_up (va_up F 98 (oM ad (va_up f 10 0) v)) 99 (.inl (g 0, 858, .inl (aI hh)))) (up_same1 (by rw [va_up_ne _ _ (by decide)]; exact hB)) ?_
      refine J_eqF (F2 := va_up (va_up (va_up F 98 (oM ad (va_up f 10 0) v)) 99 (.inl (g 0, 858, .inl (aI hh)))) 100 (.inl (g 0, 33, .inl (aI ll)))) (up_same1 (by rw [va_up_ne _ _ (by decide), va_up_ne _ _ (by decide)]; exact hL)) ?_
      refine J_lret rfl d_M_part_35 ⟨by decide, by decide⟩ ?_
      exact ⟨_, rfl, rfl, rfl, (show _ = partQ _ _ _ from (if_pos (Or.inr (Or.inl (by rw [regV_in (by omega), ← (hmr a.toNat (by omega)).2.1]; omega)))).symm), mst_3 hD0 hR hzz (fun k hk => (show (V) k = V k from by rfl)) (va_up_ne _ _ (by decide)) (va_up_ne _ _ (by decide)) (va_up_self ..), offM_3⟩
    · refine J_iload_n 3 d_M_part_23 rfl rfl ?_
      refine J_iconst d_M_part_24 ?_
      refine J_iconst d_M_part_25 ?_
      refine J_callSi cw_M_138 nh_M_in pn_M_in rfl (As := [.int (iI ix), .int (iI 0), .int (iI 1)]) (rest := []) rfl (Nat.le_of_ble_eq_true rfl) ⟨by decide, by decide⟩ rfl ⟨by decide, by decide⟩ d_M_part_26 (c_M_in hfl (a := ix) (b := 0) (c := 1) (hk) (by decide) (by decide)) (fun zb F2 hq => ?_)
      obtain ⟨hzb, eF2⟩ := hq
      refine J_eqF eF2 ?_
      refine J_ifne (tgt := 36) d_M_part_29 (by decide) ⟨by omega, by omega⟩ (fun c29 => ?_) (fun c29 => ?_)
      · obtain ⟨kd, sg, x, y, hRa, hok, hka, hkn, hmg⟩ := mR_at hmr (r := a.toNat) (by omega) (by omega)
        obtain ⟨hk1, hd0, hs1, hfin, hcop, hk0, hb, hs0, hb2, hre⟩ := okv_b hok hkn
        have hrV : regV R a = (kd, sg, x, y) := (regV_in (by omega)).trans hRa
        have hn2 : kd ≠ 2 := by omega
        obtain ⟨hVx, hVy⟩ := hmg.2.2.1 hn2
        have hr8 : a.toNat < 8 := by omega
        have hk01 : 0 ≤ ix ∧ ix ≤ 1 := by omega
        refine J_aload_n 0 d_M_part_36 rfl rfl ?_
        refine J_iload_n 2 d_M_part_37 rfl rfl ?_
        refine J_ifeq (tgt := 49) d_M_part_38 (by decide) ⟨by omega, by omega⟩ (fun c38 => ?_) (fun c38 => ?_)
        · refine J_iconst d_M_part_49 ?_
          refine J_iload_n 1 d_M_part_50 rfl rfl ?_
          refine J_topi (r := ((a.toNat : Nat) : Int)) (congrArg iI (by omega)) ?_
          refine J_imul d_M_part_51 ?_
          refine J_bipush d_M_part_52 (i8_ok (by decide)) ?_
          refine J_callVv cw_M_58 nh_M_copy pn_M_copy rfl rfl (by omega) (by rw [va_up_self]) (As := [.int (iI (2 * ((a.toNat : Nat) : Int))), .int (iI 29)]) (rest := []) rfl (Nat.le_of_ble_eq_true rfl) ⟨by decide, by decide⟩ rfl ⟨by decide, by decide⟩ d_M_part_54 (k_M_copy hfl (a := 2 * a.toNat) (b := 29) (hh := hh) (ll := ll) (V := V) (br := br) (hN := hN) (hO := (by rw [va_up_self])) (hB := (by rw [va_up_ne _ _ (by decide)]; exact hB)) (hL := (by rw [va_up_ne _ _ (by decide)]; exact hL)) (hR := hR) (ha := by omega) (hb := by omega) (hxa := rfl) (bra := (hzz.2 (2 * a.toNat) (by omega) (by omega)))) (fun  F3 hq => ?_)
          obtain ⟨bh1, bl2, hR3, eF3⟩ := hq
          refine J_eqF (F2 := va_up (va_up (va_up F 98 (oM ad (va_up f 10 0) v)) 99 (.inl (g 0, 858, .inl (aI bh1)))) 100 (.inl (g 0, 33, .inl (aI bl2)))) eF3 ?_
          have hR6 := reg_w1 (hzz.1 _) hR3
          refine J_aload_n 0 d_M_part_57 rfl rfl ?_
          refine J_bipush d_M_part_58 (i8_ok (by decide)) ?_
          refine J_bipush d_M_part_60 (i8_ok (by decide)) ?_
          refine J_iload_n 3 d_M_part_62 rfl rfl ?_
          refine J_imul d_M_part_63 ?_
          refine J_topi (r := ((60 * ix.toNat : Nat) : Int)) (congrArg iI (by omega)) ?_
          refine J_callVv cw_M_72 nh_M_down pn_M_down rfl rfl (by omega) (by rw [va_up_ne _ _ (by decide), va_up_ne _ _ (by decide), va_up_self]) (As := [.int (iI 29), .int (iI ((60 * ix.toNat : Nat) : Int))]) (rest := []) rfl (Nat.le_of_ble_eq_true rfl) ⟨by decide, by decide⟩ rfl ⟨by decide, by decide⟩ d_M_part_64 (k_M_down hfl (a := 29) (n := 60 * ix.toNat) (hh := bh1) (ll := bl2) (V := va_up V 29 (V (2 * a.toNat))) (br := br) (hN := hN) (hO := (by rw [va_up_ne _ _ (by decide), va_up_ne _ _ (by decide), va_up_self])) (hB := (by rw [va_up_ne _ _ (by decide), va_up_self])) (hL := (by rw [va_up_self])) (hR := hR6) (ha := by omega) (hxa := (va_up_self ..)) (bra := (hzz.2 29 (by decide) (by decide))) (hn := by omega)) (fun  F4 hq => ?_)
          obtain ⟨bh7, bl8, hR9, eF4⟩ := hq
          refine J_eqF (F2 := va_up (va_up (va_up F 98 (oM ad (va_up f 10 0) v)) 99 (.inl (g 0, 858, .inl (aI bh7)))) 100 (.inl (g 0, 33, .inl (aI bl8)))) (eF4.trans (Eq.trans (congrArg (fun q : Nat → va_E => va_up q 100 (.inl (g 0, 33, .inl (aI bl8)))) (up_in1 (by decide))) (up_in0))) ?_
          have hR12 := reg_w1 (hzz.1 _) hR9
          have hR13 := (congrArg (fun qq : Nat → Nat => reg _ _ _ (qq)) (up_in0)).mp hR12
          refine J_aload_n 0 d_M_part_67 rfl rfl ?_
          refine J_bipush d_M_part_68 (i8_ok (by decide)) ?_
          refine J_callVl cw_M_101 nh_M_low pn_M_low rfl rfl (by omega) (by rw [va_up_ne _ _ (by decide), va_up_ne _ _ (by decide), va_up_self]) (As := [.int (iI 29)]) (rest := []) rfl (Nat.le_of_ble_eq_true rfl) ⟨by decide, by decide⟩ rfl ⟨by decide, by decide⟩ d_M_part_70 (k_M_low hfl (a := 29) (hh := bh7) (ll := bl8) (V := va_up V 29 ((V (2 * a.toNat)) / 2 ^ (60 * ix.toNat))) (br := br) (hN := hN) (hO := (by rw [va_up_ne _ _ (by decide), va_up_ne _ _ (by decide), va_up_self])) (hB := (by rw [va_up_ne _ _ (by decide), va_up_self])) (hL := (by rw [va_up_self])) (hR := hR13) (ha := by omega) (hxa := (va_up_self ..)) (bra := (hzz.2 29 (by decide) (by decide)))) (fun z14 F5 hq => ?_)
          obtain ⟨hz14, eF5⟩ := hq
          refine J_eqF eF5 ?_
          refine J_topl (r := ((((V (2 * a.toNat)) / 2 ^ (60 * ix.toNat)) % 18446744073709551616 : Nat) : Int)) (congrArg lI hz14) ?_
          refine J_ldc2 (z := 1152921504606846975) d_M_part_73 wd_1465 (by decide) ?_
          refine J_land (r := (((((V (2 * a.toNat)) / 2 ^ (60 * ix.toNat)) % 18446744073709551616) % 1152921504606846976 : Nat) : Int)) d_M_part_76 (lI_andn 60 (by decide)) ?_
          refine J_lret rfl d_M_part_77 ⟨by decide, by decide⟩ ?_
          refine ⟨_, rfl, rfl, rfl, ?_, mst_3 hD0 hR13 hzz (fun k hk => (show (va_up V 29 ((V (2 * a.toNat)) / 2 ^ (60 * ix.toNat))) k = V k from by rw [va_up_ne _ _ (by omega)])) (va_up_ne _ _ (by decide)) (va_up_ne _ _ (by decide)) (va_up_self ..), offM_3⟩
          unfold partQ
          rw [hrV, if_neg (by intro h; rcases h with h | h | h; exact hkn h; exact hn2 h; omega), if_pos (by omega)]
          show _ = ((x / 2 ^ (60 * ix.toNat) % 2 ^ 60 : Nat) : Int)
          rw [hVx, and60]
        · refine J_iconst d_M_part_41 ?_
          refine J_iload_n 1 d_M_part_42 rfl rfl ?_
          refine J_topi (r := ((a.toNat : Nat) : Int)) (congrArg iI (by omega)) ?_
          refine J_imul d_M_part_43 ?_
          refine J_iconst d_M_part_44 ?_
          refine J_iadd d_M_part_45 ?_
          refine J_goto (tgt := 52) d_M_part_46 (by decide) ?_
          refine J_bipush d_M_part_52 (i8_ok (by decide)) ?_
          refine J_callVv cw_M_58 nh_M_copy pn_M_copy rfl rfl (by omega) (by rw [va_up_self]) (As := [.int (iI ((2 * ((a.toNat : Nat) : Int)) + 1)), .int (iI 29)]) (rest := []) rfl (Nat.le_of_ble_eq_true rfl) ⟨by decide, by decide⟩ rfl ⟨by decide, by decide⟩ d_M_part_54 (k_M_copy hfl (a := (2 * a.toNat) + 1) (b := 29) (hh := hh) (ll := ll) (V := V) (br := br) (hN := hN) (hO := (by rw [va_up_self])) (hB := (by rw [va_up_ne _ _ (by decide)]; exact hB)) (hL := (by rw [va_up_ne _ _ (by decide)]; exact hL)) (hR := hR) (ha := by omega) (hb := by omega) (hxa := rfl) (bra := (hzz.2 ((2 * a.toNat) + 1) (by omega) (by omega)))) (fun  F6 hq => ?_)
          obtain ⟨bh15, bl16, hR17, eF6⟩ := hq
          refine J_eqF (F2 := va_up (va_up (va_up F 98 (oM ad (va_up f 10 0) v)) 99 (.inl (g 0, 858, .inl (aI bh15)))) 100 (.inl (g 0, 33, .inl (aI bl16)))) eF6 ?_
          have hR20 := reg_w1 (hzz.1 _) hR17
          refine J_aload_n 0 d_M_part_57 rfl rfl ?_
          refine J_bipush d_M_part_58 (i8_ok (by decide)) ?_
          refine J_bipush d_M_part_60 (i8_ok (by decide)) ?_
          refine J_iload_n 3 d_M_part_62 rfl rfl ?_
          refine J_imul d_M_part_63 ?_
          refine J_topi (r := ((60 * ix.toNat : Nat) : Int)) (congrArg iI (by omega)) ?_
          refine J_callVv cw_M_72 nh_M_down pn_M_down rfl rfl (by omega) (by rw [va_up_ne _ _ (by decide), va_up_ne _ _ (by decide), va_up_self]) (As := [.int (iI 29), .int (iI ((60 * ix.toNat : Nat) : Int))]) (rest := []) rfl (Nat.le_of_ble_eq_true rfl) ⟨by decide, by decide⟩ rfl ⟨by decide, by decide⟩ d_M_part_64 (k_M_down hfl (a := 29) (n := 60 * ix.toNat) (hh := bh15) (ll := bl16) (V := va_up V 29 (V ((2 * a.toNat) + 1))) (br := br) (hN := hN) (hO := (by rw [va_up_ne _ _ (by decide), va_up_ne _ _ (by decide), va_up_self])) (hB := (by rw [va_up_ne _ _ (by decide), va_up_self])) (hL := (by rw [va_up_self])) (hR := hR20) (ha := by omega) (hxa := (va_up_self ..)) (bra := (hzz.2 29 (by decide) (by decide))) (hn := by omega)) (fun  F7 hq => ?_)
          obtain ⟨bh21, bl22, hR23, eF7⟩ := hq
          refine J_eqF (F2 := va_up (va_up (va_up F 98 (oM ad (va_up f 10 0) v)) 99 (.inl (g 0, 858, .inl (aI bh21)))) 100 (.inl (g 0, 33, .inl (aI bl22)))) (eF7.trans (Eq.trans (congrArg (fun q : Nat → va_E => va_up q 100 (.inl (g 0, 33, .inl (aI bl22)))) (up_in1 (by decide))) (up_in0))) ?_
          have hR26 := reg_w1 (hzz.1 _) hR23
          have hR27 := (congrArg (fun qq : Nat → Nat => reg _ _ _ (qq)) (up_in0)).mp hR26
          refine J_aload_n 0 d_M_part_67 rfl rfl ?_
          refine J_bipush d_M_part_68 (i8_ok (by decide)) ?_
          refine J_callVl cw_M_101 nh_M_low pn_M_low rfl rfl (by omega) (by rw [va_up_ne _ _ (by decide), va_up_ne _ _ (by decide), va_up_self]) (As := [.int (iI 29)]) (rest := []) rfl (Nat.le_of_ble_eq_true rfl) ⟨by decide, by decide⟩ rfl ⟨by decide, by decide⟩ d_M_part_70 (k_M_low hfl (a := 29) (hh := bh21) (ll := bl22) (V := va_up V 29 ((V ((2 * a.toNat) + 1)) / 2 ^ (60 * ix.toNat))) (br := br) (hN := hN) (hO := (by rw [va_up_ne _ _ (by decide), va_up_ne _ _ (by decide), va_up_self])) (hB := (by rw [va_up_ne _ _ (by decide), va_up_self])) (hL := (by rw [va_up_self])) (hR := hR27) (ha := by omega) (hxa := (va_up_self ..)) (bra := (hzz.2 29 (by decide) (by decide)))) (fun z28 F8 hq => ?_)
          obtain ⟨hz28, eF8⟩ := hq
          refine J_eqF eF8 ?_
          refine J_topl (r := ((((V ((2 * a.toNat) + 1)) / 2 ^ (60 * ix.toNat)) % 18446744073709551616 : Nat) : Int)) (congrArg lI hz28) ?_
          refine J_ldc2 (z := 1152921504606846975) d_M_part_73 wd_1465 (by decide) ?_
          refine J_land (r := (((((V ((2 * a.toNat) + 1)) / 2 ^ (60 * ix.toNat)) % 18446744073709551616) % 1152921504606846976 : Nat) : Int)) d_M_part_76 (lI_andn 60 (by decide)) ?_
          refine J_lret rfl d_M_part_77 ⟨by decide, by decide⟩ ?_
          refine ⟨_, rfl, rfl, rfl, ?_, mst_3 hD0 hR27 hzz (fun k hk => (show (va_up V 29 ((V ((2 * a.toNat) + 1)) / 2 ^ (60 * ix.toNat))) k = V k from by rw [va_up_ne _ _ (by omega)])) (va_up_ne _ _ (by decide)) (va_up_ne _ _ (by decide)) (va_up_self ..), offM_3⟩
          unfold partQ
          rw [hrV, if_neg (by intro h; rcases h with h | h | h; exact hkn h; exact hn2 h; omega), if_neg (by omega)]
          show _ = ((y / 2 ^ (60 * ix.toNat) % 2 ^ 60 : Nat) : Int)
          rw [hVy, and60]
      · refine J_ldc2 (z := (-1)) d_M_part_32 wd_1464 (by decide) ?_
        refine J_eqF (F2 := va_up (va_up F 98 (oM ad (va_up f 10 0) v)) 99 (.inl (g 0, 858, .inl (aI hh)))) (up_same1 (by rw [va_up_ne _ _ (by decide)]; exact hB)) ?_
        refine J_eqF (F2 := va_up (va_up (va_up F 98 (oM ad (va_up f 10 0) v)) 99 (.inl (g 0, 858, .inl (aI hh)))) 100 (.inl (g 0, 33, .inl (aI ll)))) (up_same1 (by rw [va_up_ne _ _ (by decide), va_up_ne _ _ (by decide)]; exact hL)) ?_
        refine J_lret rfl d_M_part_35 ⟨by decide, by decide⟩ ?_
        exact ⟨_, rfl, rfl, rfl, (show _ = partQ _ _ _ from (if_pos (Or.inr (Or.inr (by omega)))).symm), mst_3 hD0 hR hzz (fun k hk => (show (V) k = V k from by rfl)) (va_up_ne _ _ (by decide)) (va_up_ne _ _ (by decide)) (va_up_self ..), offM_3⟩
set_option maxRecDepth 100000 in
set_option maxHeartbeats 4000000 in
theorem c_M_letter {l : Launch} (hfl : l.flags = flags0) {D : va_G} {g : Nat → ClassId} {ad : Nat → Nat} {N : Nat} {F : Nat → va_E} {R : Nat → Vn} {ln sh : List Nat} {th0 : Int} {k : Int}
    (hN : 109 ≤ N) (hM : mst ad g R ln sh th0 F) (hk : inI k) :
    JC l y_M_letter b_M_letter 2 (Option.some Jvm.ClassFile.FieldType.int) rm_M_letter (0, 0) D jCl (jTys g) ad N F [.ref (ad 98), .int (iI k)] (ji ad N (fun z F' => z = tat sh k ∧ mst ad g R ln sh 0 F' ∧ offM F F')) := by
  obtain ⟨hh, ll, f, v, V, br, kk, bb, rr, lh, xh, dh, tt, hD0, hth⟩ := hM
  have hD := hD0
  obtain ⟨hO, hB, hL, hR, hzz, hKk, hBb, hRr, hmr, h104, h105, h106, h107, hln, hsh⟩ := hD
  have hkI := mR_kI hmr
  have hs200 := hsh.2.2.1
  refine JC.go hfl (own := "NumberTowerModel") (lv := [(0, .ref (ad 98)), (1, .int (iI k))]) rfl (by decide +kernel) (Nat.le_of_ble_eq_true rfl) rfl (fun A => ?_)
  refine J_aload_n 0 d_M_letter_0 rfl rfl ?_
  refine J_iconst d_M_letter_1 ?_
  refine pm_M_39 (by omega) hO d_M_letter_2 ?_
  refine J_iload_n 1 d_M_letter_5 rfl rfl ?_
  refine J_iconst d_M_letter_6 ?_
  refine J_aload_n 0 d_M_letter_7 rfl rfl ?_
  refine gf_M_307 (by omega) (by rw [va_up_self]) rfl d_M_letter_8 ?_
  refine J_topi (r := (sh.length : Int)) (congrArg iI ((va_up_ne _ _ (by decide)).trans hsh.2.1)) ?_
  refine J_iconst d_M_letter_11 ?_
  refine J_isub d_M_letter_12 ?_
  refine J_callSi cw_M_138 nh_M_in pn_M_in rfl (As := [.int (iI k), .int (iI 0), .int (iI ((sh.length : Int) - 1))]) (rest := []) rfl (Nat.le_of_ble_eq_true rfl) ⟨by decide, by decide⟩ rfl ⟨by decide, by decide⟩ d_M_letter_13 (c_M_in hfl (a := k) (b := 0) (c := (sh.length : Int) - 1) hk (by decide) ⟨by omega, by omega⟩) (fun za F1 hq => ?_)
  obtain ⟨hza, eF1⟩ := hq
  refine J_eqF eF1 ?_
  refine J_ifeq (tgt := 28) d_M_letter_16 (by decide) ⟨by omega, by omega⟩ (fun c16 => ?_) (fun c16 => ?_)
  · refine J_iconst d_M_letter_28 ?_
    refine J_eqF (F2 := va_up (va_up F 98 (oM ad (va_up f 10 0) v)) 99 (.inl (g 0, 858, .inl (aI hh)))) (up_same1 (by rw [va_up_ne _ _ (by decide)]; exact hB)) ?_
    refine J_eqF (F2 := va_up (va_up (va_up F 98 (oM ad (va_up f 10 0) v)) 99 (.inl (g 0, 858, .inl (aI hh)))) 100 (.inl (g 0, 33, .inl (aI ll)))) (up_same1 (by rw [va_up_ne _ _ (by decide), va_up_ne _ _ (by decide)]; exact hL)) ?_
    refine J_iret rfl rfl d_M_letter_29 ⟨by decide, by decide⟩ ?_
    exact ⟨_, rfl, rfl, rfl, (tat_out (by omega)).symm, ⟨hh, ll, (va_up f 10 0), v, V, br, kk, bb, rr, lh, xh, dh, tt, ⟨(by rw [va_up_ne _ _ (by decide), va_up_ne _ _ (by decide), va_up_self]), (by rw [va_up_ne _ _ (by decide), va_up_self]), (by rw [va_up_self]), hR, hzz, (by rw [va_up_ne _ _ (by decide), va_up_ne _ _ (by decide), va_up_ne _ _ (by decide)]; exact hKk), (by rw [va_up_ne _ _ (by decide), va_up_ne _ _ (by decide), va_up_ne _ _ (by decide)]; exact hBb), (by rw [va_up_ne _ _ (by decide), va_up_ne _ _ (by decide), va_up_ne _ _ (by decide)]; exact hRr), mR_fr hmr (fun k hk => (show (V) k = V k from by rfl)), (by rw [va_up_ne _ _ (by decide), va_up_ne _ _ (by decide), va_up_ne _ _ (by decide)]; exact h104), (by rw [va_up_ne _ _ (by decide), va_up_ne _ _ (by decide), va_up_ne _ _ (by decide)]; exact h105), (by rw [va_up_ne _ _ (by decide), va_up_ne _ _ (by decide), va_up_ne _ _ (by decide)]; exact h106), (by rw [va_up_ne _ _ (by decide), va_up_ne _ _ (by decide), va_up_ne _ _ (by decide)]; exact h107), ⟨hln.1, (va_up_ne _ _ (by decide)).trans hln.2.1, hln.2.2⟩, ⟨hsh.1, ((va_up_ne _ _ (by decide)).trans hsh.2.1), hsh.2.2⟩⟩, (va_up_self ..)⟩, offM_3⟩
  · refine J_aload_n 0 d_M_letter_19 rfl rfl ?_
    refine gf_M_30 (by omega) (by rw [va_up_self]) rfl d_M_letter_20 ?_
    refine J_iload_n 1 d_M_letter_23 rfl rfl ?_
    refine J_iaload 0 rfl (by omega) (by rw [va_up_ne _ _ (by decide)]; exact h105) (by omega) d_M_letter_24 ?_
    refine J_goto (tgt := 29) d_M_letter_25 (by decide) ?_
    refine J_eqF (F2 := va_up (va_up F 98 (oM ad (va_up f 10 0) v)) 99 (.inl (g 0, 858, .inl (aI hh)))) (up_same1 (by rw [va_up_ne _ _ (by decide)]; exact hB)) ?_
    refine J_eqF (F2 := va_up (va_up (va_up F 98 (oM ad (va_up f 10 0) v)) 99 (.inl (g 0, 858, .inl (aI hh)))) 100 (.inl (g 0, 33, .inl (aI ll)))) (up_same1 (by rw [va_up_ne _ _ (by decide), va_up_ne _ _ (by decide)]; exact hL)) ?_
    refine J_iret rfl rfl d_M_letter_29 ⟨by decide, by decide⟩ ?_
    exact ⟨_, rfl, rfl, rfl, tat_mtx hsh.1 (by omega) (by omega), ⟨hh, ll, (va_up f 10 0), v, V, br, kk, bb, rr, lh, xh, dh, tt, ⟨(by rw [va_up_ne _ _ (by decide), va_up_ne _ _ (by decide), va_up_self]), (by rw [va_up_ne _ _ (by decide), va_up_self]), (by rw [va_up_self]), hR, hzz, (by rw [va_up_ne _ _ (by decide), va_up_ne _ _ (by decide), va_up_ne _ _ (by decide)]; exact hKk), (by rw [va_up_ne _ _ (by decide), va_up_ne _ _ (by decide), va_up_ne _ _ (by decide)]; exact hBb), (by rw [va_up_ne _ _ (by decide), va_up_ne _ _ (by decide), va_up_ne _ _ (by decide)]; exact hRr), mR_fr hmr (fun k hk => (show (V) k = V k from by rfl)), (by rw [va_up_ne _ _ (by decide), va_up_ne _ _ (by decide), va_up_ne _ _ (by decide)]; exact h104), (by rw [va_up_ne _ _ (by decide), va_up_ne _ _ (by decide), va_up_ne _ _ (by decide)]; exact h105), (by rw [va_up_ne _ _ (by decide), va_up_ne _ _ (by decide), va_up_ne _ _ (by decide)]; exact h106), (by rw [va_up_ne _ _ (by decide), va_up_ne _ _ (by decide), va_up_ne _ _ (by decide)]; exact h107), ⟨hln.1, (va_up_ne _ _ (by decide)).trans hln.2.1, hln.2.2⟩, ⟨hsh.1, ((va_up_ne _ _ (by decide)).trans hsh.2.1), hsh.2.2⟩⟩, (va_up_self ..)⟩, offM_3⟩
set_option maxRecDepth 100000 in
set_option maxHeartbeats 4000000 in
theorem c_M_wipe {l : Launch} (hfl : l.flags = flags0) {D : va_G} {g : Nat → ClassId} {ad : Nat → Nat} {N : Nat} {F : Nat → va_E} {R : Nat → Vn} {ln sh : List Nat} {th0 : Int}
    (hN : 109 ≤ N) (hM : mst ad g R ln sh th0 F) :
    JC l y_M_wipe b_M_wipe 1 (Option.none : Option Jvm.ClassFile.FieldType) rm_M_wipe (0, 0) D jCl (jTys g) ad N F [.ref (ad 98)] (jv ad N (fun F' => mst ad g R [] sh 0 F' ∧ offM F F')) := by
  obtain ⟨hh, ll, f, v, V, br, kk, bb, rr, lh, xh, dh, tt, hD0, hth⟩ := hM
  have hD := hD0
  obtain ⟨hO, hB, hL, hR, hzz, hKk, hBb, hRr, hmr, h104, h105, h106, h107, hln, hsh⟩ := hD
  have hkI := mR_kI hmr
  refine JC.go hfl (own := "NumberTowerModel") (lv := [(0, .ref (ad 98))]) rfl (by decide +kernel) (Nat.le_of_ble_eq_true rfl) rfl (fun A => ?_)
  refine J_aload_n 0 d_M_wipe_0 rfl rfl ?_
  refine J_iconst d_M_wipe_1 ?_
  refine pm_M_39 (by omega) hO d_M_wipe_2 ?_
  refine J_aload_n 0 d_M_wipe_5 rfl rfl ?_
  refine J_iconst d_M_wipe_6 ?_
  refine pm_M_241 (by omega) (by rw [va_up_self]) d_M_wipe_7 ?_
  refine J_eqF (F2 := va_up F 98 (oM ad (va_up (va_up f 10 0) 12 0) v)) (up_in0) ?_
  refine J_eqF (F2 := va_up (va_up F 98 (oM ad (va_up (va_up f 10 0) 12 0) v)) 99 (.inl (g 0, 858, .inl (aI hh)))) (up_same1 (by rw [va_up_ne _ _ (by decide)]; exact hB)) ?_
  refine J_eqF (F2 := va_up (va_up (va_up F 98 (oM ad (va_up (va_up f 10 0) 12 0) v)) 99 (.inl (g 0, 858, .inl (aI hh)))) 100 (.inl (g 0, 33, .inl (aI ll)))) (up_same1 (by rw [va_up_ne _ _ (by decide), va_up_ne _ _ (by decide)]; exact hL)) ?_
  refine J_vret rfl d_M_wipe_10 ⟨by decide, by decide⟩ ?_
  exact ⟨rfl, rfl, rfl, ⟨hh, ll, (va_up (va_up f 10 0) 12 0), v, V, br, kk, bb, rr, lh, xh, dh, tt, ⟨(by rw [va_up_ne _ _ (by decide), va_up_ne _ _ (by decide), va_up_self]), (by rw [va_up_ne _ _ (by decide), va_up_self]), (by rw [va_up_self]), hR, hzz, (by rw [va_up_ne _ _ (by decide), va_up_ne _ _ (by decide), va_up_ne _ _ (by decide)]; exact hKk), (by rw [va_up_ne _ _ (by decide), va_up_ne _ _ (by decide), va_up_ne _ _ (by decide)]; exact hBb), (by rw [va_up_ne _ _ (by decide), va_up_ne _ _ (by decide), va_up_ne _ _ (by decide)]; exact hRr), mR_fr hmr (fun k hk => (show (V) k = V k from by rfl)), (by rw [va_up_ne _ _ (by decide), va_up_ne _ _ (by decide), va_up_ne _ _ (by decide)]; exact h104), (by rw [va_up_ne _ _ (by decide), va_up_ne _ _ (by decide), va_up_ne _ _ (by decide)]; exact h105), (by rw [va_up_ne _ _ (by decide), va_up_ne _ _ (by decide), va_up_ne _ _ (by decide)]; exact h106), (by rw [va_up_ne _ _ (by decide), va_up_ne _ _ (by decide), va_up_ne _ _ (by decide)]; exact h107), ⟨fun j hj => absurd hj (Nat.not_lt_zero _), (va_up_self ..), Nat.zero_le _, fun c hc => absurd hc (List.not_mem_nil)⟩, ⟨hsh.1, ((va_up_ne _ _ (by decide)).trans (va_up_ne _ _ (by decide))).trans hsh.2.1, hsh.2.2⟩⟩, ((va_up_ne _ _ (by decide)).trans (va_up_self ..))⟩, offM_3⟩
set_option maxRecDepth 100000 in
set_option maxHeartbeats 4000000 in
theorem c_M_write {l : Launch} (hfl : l.flags = flags0) {D : va_G} {g : Nat → ClassId} {ad : Nat → Nat} {N : Nat} {F : Nat → va_E} {R : Nat → Vn} {ln sh : List Nat} {th0 : Int} {w : Int}
    (hN : 109 ≤ N) (hM : mst ad g R ln sh th0 F) (hw : inI w) :
    JC l y_M_write b_M_write 5 (Option.some Jvm.ClassFile.FieldType.boolean) rm_M_write (0, 0) D jCl (jTys g) ad N F [.ref (ad 98), .int (iI w)] (ji ad N (fun z F' => ((z = 1 ∧ writeP ln w ∧ mst ad g R (ln ++ wch w 4) sh 0 F') ∨ (z = 0 ∧ ¬ writeP ln w ∧ mst ad g R ln sh 0 F')) ∧ offM F F')) := by
  obtain ⟨hh, ll, f, v, V, br, kk, bb, rr, lh, xh, dh, tt, hD0, hth⟩ := hM
  have hD := hD0
  obtain ⟨hO, hB, hL, hR, hzz, hKk, hBb, hRr, hmr, h104, h105, h106, h107, hln, hsh⟩ := hD
  have hkI := mR_kI hmr
  have hl40 := hln.2.2.1
  refine JC.go hfl (own := "NumberTowerModel") (lv := [(0, .ref (ad 98)), (1, .int (iI w))]) rfl (by decide +kernel) (Nat.le_of_ble_eq_true rfl) rfl (fun A => ?_)
  refine J_aload_n 0 d_M_write_0 rfl rfl ?_
  refine J_iconst d_M_write_1 ?_
  refine pm_M_39 (by omega) hO d_M_write_2 ?_
  refine J_iconst d_M_write_5 ?_
  refine J_istore_n (lv' := [(2, .int (iI 0)), (0, .ref (ad 98)), (1, .int (iI w))]) d_M_write_6 rfl (by decide) rfl ?_
  refine J_iconst d_M_write_7 ?_
  refine J_istore_n (lv' := [(3, .int (iI 3)), (2, .int (iI 0)), (0, .ref (ad 98)), (1, .int (iI w))]) d_M_write_8 rfl (by decide) rfl ?_
  refine J_pick (lv' := [(0, .ref (ad 98)), (1, .int (iI w)), (2, .int (iI 0)), (3, .int (iI 3))]) [2, 3, 1, 0] rfl ?_
  have loop9 : ∀ (fuel : Nat) (i : Int) (n : Nat) (h1 : -1 ≤ i ∧ i ≤ 3) (hn : n = (wch w (3 - i).toNat).length) (hok : wok w (3 - i).toNat) (hfu : (i + 1).toNat < fuel), J l rm_M_write (0, 0) "NumberTowerModel" b_M_write 5 (Option.some Jvm.ClassFile.FieldType.boolean) D jCl (jTys g) A (fun _ me => me.name = y_M_write.name) (ji ad N (fun z F' => ((z = 1 ∧ writeP ln w ∧ mst ad g R (ln ++ wch w 4) sh 0 F') ∨ (z = 0 ∧ ¬ writeP ln w ∧ mst ad g R ln sh 0 F')) ∧ offM F F')) ad N 0 0 9 [(0, .ref (ad 98)), (1, .int (iI w)), (2, .int (iI (n : Int))), (3, .int (iI i))] [] (va_up F 98 (oM ad (va_up f 10 0) v)) := by
    intro fuel
    induction fuel with
    | zero => intro i n h1 hn hok hfu; exact absurd hfu (Nat.not_lt_zero _)
    | succ fuel ih =>
      intro i n h1 hn hok hfu
      have hbl := byt_lt w i.toNat
      have hnl := wch_len w (3 - i).toNat
      refine J_iload_n 3 d_M_write_9 rfl rfl ?_
      refine J_iflt (tgt := 56) d_M_write_10 (by decide) ⟨by omega, by omega⟩ (fun c10 => ?_) (fun c10 => ?_)
      · have hi4 : (3 - i).toNat = 4 := by omega
        rw [hi4] at hn hok hnl
        refine J_aload_n 0 d_M_write_56 rfl rfl ?_
        refine gf_M_241 (by omega) (by rw [va_up_self]) rfl d_M_write_57 ?_
        refine J_topi (r := (ln.length : Int)) (congrArg iI ((va_up_ne _ _ (by decide)).trans hln.2.1)) ?_
        refine J_iload_n 2 d_M_write_60 rfl rfl ?_
        refine J_iadd d_M_write_61 ?_
        refine J_bipush d_M_write_62 (i8_ok (by decide)) ?_
        refine J_if_icmple (tgt := 69) d_M_write_64 (by decide) ⟨by omega, by omega⟩ ⟨by omega, by omega⟩ (fun c64 => ?_) (fun c64 => ?_)
        · refine J_iconst d_M_write_69 ?_
          refine J_istore_n (lv' := [(3, .int (iI 3)), (0, .ref (ad 98)), (1, .int (iI w)), (2, .int (iI (n : Int)))]) d_M_write_70 rfl (by decide) rfl ?_
          refine J_pick (lv' := [(0, .ref (ad 98)), (1, .int (iI w)), (2, .int (iI (n : Int))), (3, .int (iI 3))]) [1, 2, 3, 0] rfl ?_
          refine J_eqF (F2 := va_up F 98 (oM ad (va_up (va_up f 10 0) 12 (ln.length : Int)) v)) (congrArg (fun qq : Nat → Int => va_up F 98 (oM ad qq v)) (up_same1 (i := 12) (a := (ln.length : Int)) ((va_up_ne _ _ (by decide)).trans hln.2.1))) ?_
          refine J_eqF (F2 := va_up (va_up F 98 (oM ad (va_up (va_up f 10 0) 12 (ln.length : Int)) v)) 104 (.inl (g 0, 40, .inl (aI lh)))) (up_same1 (by rw [va_up_ne _ _ (by decide)]; exact h104)) ?_
          have loop71 : ∀ (fuel : Nat) (i : Int) (t : Nat) (lf : Nat → Int) (h1 : -1 ≤ i ∧ i ≤ 3) (ht : t = ln.length + (wch w (3 - i).toNat).length) (hlf : mtx lf (ln ++ wch w (3 - i).toNat)) (hfu : (i + 1).toNat < fuel), J l rm_M_write (0, 0) "NumberTowerModel" b_M_write 5 (Option.some Jvm.ClassFile.FieldType.boolean) D jCl (jTys g) A (fun _ me => me.name = y_M_write.name) (ji ad N (fun z F' => ((z = 1 ∧ writeP ln w ∧ mst ad g R (ln ++ wch w 4) sh 0 F') ∨ (z = 0 ∧ ¬ writeP ln w ∧ mst ad g R ln sh 0 F')) ∧ offM F F')) ad N 0 0 71 [(0, .ref (ad 98)), (1, .int (iI w)), (2, .int (iI (n : Int))), (3, .int (iI i))] [] (va_up (va_up F 98 (oM ad (va_up (va_up f 10 0) 12 (t : Int)) v)) 104 (.inl (g 0, 40, .inl (aI lf)))) := by
            intro fuel
            induction fuel with
            | zero => intro i t lf h1 ht hlf hfu; exact absurd hfu (Nat.not_lt_zero _)
            | succ fuel ih =>
              intro i t lf h1 ht hlf hfu
              have hbl := byt_lt w i.toNat
              have hwl := wch_len w (3 - i).toNat
              have hwl4 : (wch w (3 - i).toNat).length ≤ (wch w 4).length := wch_mono w (by omega)
              refine J_iload_n 3 d_M_write_71 rfl rfl ?_
              refine J_iflt (tgt := 122) d_M_write_72 (by decide) ⟨by omega, by omega⟩ (fun c72 => ?_) (fun c72 => ?_)
              · refine J_iconst d_M_write_122 ?_
                refine J_eqF (F2 := va_up (va_up (va_up F 98 (oM ad (va_up (va_up f 10 0) 12 (t : Int)) v)) 104 (.inl (g 0, 40, .inl (aI lf)))) 99 (.inl (g 0, 858, .inl (aI hh)))) (up_same1 (by rw [va_up_ne _ _ (by decide), va_up_ne _ _ (by decide)]; exact hB)) ?_
                refine J_eqF (F2 := va_up (va_up (va_up (va_up F 98 (oM ad (va_up (va_up f 10 0) 12 (t : Int)) v)) 104 (.inl (g 0, 40, .inl (aI lf)))) 99 (.inl (g 0, 858, .inl (aI hh)))) 100 (.inl (g 0, 33, .inl (aI ll)))) (up_same1 (by rw [va_up_ne _ _ (by decide), va_up_ne _ _ (by decide), va_up_ne _ _ (by decide)]; exact hL)) ?_
                refine J_eqF (F2 := va_up (va_up (va_up (va_up F 98 (oM ad (va_up (va_up f 10 0) 12 (t : Int)) v)) 99 (.inl (g 0, 858, .inl (aI hh)))) 100 (.inl (g 0, 33, .inl (aI ll)))) 104 (.inl (g 0, 40, .inl (aI lf)))) (Eq.trans (congrArg (fun qq : Nat → va_E => va_up qq 100 (.inl (g 0, 33, .inl (aI ll)))) (up_cm (by decide))) (up_cm (by decide))) ?_
                refine J_iret rfl (nb01 (by omega)).1 d_M_write_123 ⟨by decide, by decide⟩ ?_
                have hi4 : (3 - i).toNat = 4 := by omega
                rw [hi4] at ht hlf
                exact ⟨_, rfl, rfl, rfl, Or.inl ⟨rfl, ⟨hok, by omega⟩, ⟨hh, ll, (va_up (va_up f 10 0) 12 (t : Int)), v, V, br, kk, bb, rr, lf, xh, dh, tt, ⟨(by rw [va_up_ne _ _ (by decide), va_up_ne _ _ (by decide), va_up_ne _ _ (by decide), va_up_self]), (by rw [va_up_ne _ _ (by decide), va_up_ne _ _ (by decide), va_up_self]), (by rw [va_up_ne _ _ (by decide), va_up_self]), hR, hzz, (by rw [va_up_ne _ _ (by decide), va_up_ne _ _ (by decide), va_up_ne _ _ (by decide), va_up_ne _ _ (by decide)]; exact hKk), (by rw [va_up_ne _ _ (by decide), va_up_ne _ _ (by decide), va_up_ne _ _ (by decide), va_up_ne _ _ (by decide)]; exact hBb), (by rw [va_up_ne _ _ (by decide), va_up_ne _ _ (by decide), va_up_ne _ _ (by decide), va_up_ne _ _ (by decide)]; exact hRr), mR_fr hmr (fun k hk => (show (V) k = V k from by rfl)), (by rw [va_up_self]), (by rw [va_up_ne _ _ (by decide), va_up_ne _ _ (by decide), va_up_ne _ _ (by decide), va_up_ne _ _ (by decide)]; exact h105), (by rw [va_up_ne _ _ (by decide), va_up_ne _ _ (by decide), va_up_ne _ _ (by decide), va_up_ne _ _ (by decide)]; exact h106), (by rw [va_up_ne _ _ (by decide), va_up_ne _ _ (by decide), va_up_ne _ _ (by decide), va_up_ne _ _ (by decide)]; exact h107), ⟨hlf, (va_up_self ..).trans (by rw [ht, List.length_append]), by rw [List.length_append]; omega, fun c hc => (List.mem_append.mp hc).elim (hln.2.2.2 c) (hok c)⟩, ⟨hsh.1, ((va_up_ne _ _ (by decide)).trans (va_up_ne _ _ (by decide))).trans hsh.2.1, hsh.2.2⟩⟩, ((va_up_ne _ _ (by decide)).trans (va_up_self ..))⟩⟩, (offM_t (offM_t (offM_t (offM_t (offM_r _) (offM_u (by omega))) (offM_u (by omega))) (offM_u (by omega))) (offM_u (by omega)))⟩
              · refine J_iload_n 1 d_M_write_75 rfl rfl ?_
                refine J_bipush d_M_write_76 (i8_ok (by decide)) ?_
                refine J_iload_n 3 d_M_write_78 rfl rfl ?_
                refine J_imul d_M_write_79 ?_
                refine J_topi (r := ((8 * i.toNat : Nat) : Int)) (congrArg iI (by omega)) ?_
                refine J_ishr (r := w / 2 ^ (8 * i.toNat)) d_M_write_80 (iI_shr hw (8 * i.toNat) (by omega)) ?_
                refine J_sipush d_M_write_81 (i16_ok (by decide)) ?_
                refine J_iand (r := (w / 2 ^ (8 * i.toNat)) % 256) d_M_write_84 (iI_and 8 (by decide)) ?_
                refine J_topi (r := (((byt w i.toNat : Nat)) : Int)) (congrArg iI (byt_eq _ _)) ?_
                refine J_istore (lv' := [(4, .int (iI (((byt w i.toNat : Nat)) : Int))), (0, .ref (ad 98)), (1, .int (iI w)), (2, .int (iI (n : Int))), (3, .int (iI i))]) d_M_write_85 (by decide) rfl ?_
                refine J_iload 0 d_M_write_87 rfl ?_
                refine J_ifne (tgt := 95) d_M_write_89 (by decide) ⟨by omega, by omega⟩ (fun c89 => ?_) (fun c89 => ?_)
                · have hw9 : (wch w (3 - i).toNat).length + 1 ≤ (wch w 4).length := by
                    have h1 := wch_mono w (show (3 - i).toNat + 1 ≤ 4 by omega)
                    rw [wch_1 (by rw [show 3 - (3 - i).toNat = i.toNat by omega]; omega), List.length_append] at h1
                    exact h1
                  refine J_aload_n 1 d_M_write_95 rfl rfl ?_
                  refine gf_M_27 (by omega) (by rw [va_up_ne _ _ (by decide), va_up_self]) rfl d_M_write_96 ?_
                  refine J_aload_n 1 d_M_write_99 rfl rfl ?_
                  refine gf_M_241 (by omega) (by rw [va_up_ne _ _ (by decide), va_up_self]) rfl d_M_write_100 ?_
                  refine J_topi (r := (t : Int)) (congrArg iI (va_up_self ..)) ?_
                  refine J_iload 0 d_M_write_103 rfl ?_
                  refine J_iastore 0 rfl (by omega) (by rw [va_up_self]) (by omega) d_M_write_105 ?_
                  refine J_eqF (F2 := va_up (va_up (va_up F 98 (oM ad (va_up (va_up f 10 0) 12 (t : Int)) v)) 104 (.inl (g 0, 40, .inl (aI lf)))) 104 (.inl (g 0, 40, .inl (aI (va_up lf t (((byt w i.toNat : Nat)) : Int)))))) (congrArg (fun q => va_up (va_up (va_up F 98 (oM ad (va_up (va_up f 10 0) 12 (t : Int)) v)) 104 (.inl (g 0, 40, .inl (aI lf)))) 104 (.inl (g 0, 40, .inl (aI (va_up lf q (((byt w i.toNat : Nat)) : Int)))))) (by omega : (t : Int).toNat = t)) ?_
                  refine J_eqF (F2 := va_up (va_up F 98 (oM ad (va_up (va_up f 10 0) 12 (t : Int)) v)) 104 (.inl (g 0, 40, .inl (aI (va_up lf t (((byt w i.toNat : Nat)) : Int)))))) (up_in0) ?_
                  refine J_aload_n 1 d_M_write_106 rfl rfl ?_
                  refine J_dup d_M_write_107 rfl ?_
                  refine gf_M_241 (by omega) (by rw [va_up_ne _ _ (by decide), va_up_self]) rfl d_M_write_108 ?_
                  refine J_topi (r := (t : Int)) (congrArg iI (va_up_self ..)) ?_
                  refine J_iconst d_M_write_111 ?_
                  refine J_iadd d_M_write_112 ?_
                  refine pm_M_241 (by omega) (by rw [va_up_ne _ _ (by decide), va_up_self]) d_M_write_113 ?_
                  refine J_eqF (F2 := va_up (va_up (va_up F 98 (oM ad (va_up (va_up f 10 0) 12 (t : Int)) v)) 104 (.inl (g 0, 40, .inl (aI (va_up lf t (((byt w i.toNat : Nat)) : Int)))))) 98 (oM ad (va_up (va_up f 10 0) 12 ((t : Int) + 1)) v)) (congrArg (fun qq : Nat → Int => va_up (va_up (va_up F 98 (oM ad (va_up (va_up f 10 0) 12 (t : Int)) v)) 104 (.inl (g 0, 40, .inl (aI (va_up lf t (((byt w i.toNat : Nat)) : Int)))))) 98 (oM ad qq v)) (up_in0)) ?_
                  refine J_eqF (F2 := va_up (va_up F 98 (oM ad (va_up (va_up f 10 0) 12 ((t : Int) + 1)) v)) 104 (.inl (g 0, 40, .inl (aI (va_up lf t (((byt w i.toNat : Nat)) : Int)))))) (up_in1 (by decide)) ?_
                  refine J_iinc (j := 4) (b := i - 1) (lv' := [(3, .int (iI (i - 1))), (4, .int (iI (((byt w i.toNat : Nat)) : Int))), (0, .ref (ad 98)), (1, .int (iI w)), (2, .int (iI (n : Int)))]) d_M_write_116 rfl (by omega) (by decide) rfl ?_
                  refine J_goto (tgt := 71) d_M_write_119 (by decide) ?_
                  refine J_pick (lv' := [(0, .ref (ad 98)), (1, .int (iI w)), (2, .int (iI (n : Int))), (3, .int (iI (i - 1)))]) [2, 3, 4, 0] rfl ?_
                  refine J_eqF (F2 := va_up (va_up F 98 (oM ad (va_up (va_up f 10 0) 12 ((t + 1 : Nat) : Int)) v)) 104 (.inl (g 0, 40, .inl (aI (va_up lf t (((byt w i.toNat : Nat)) : Int)))))) (congrArg (fun qq : Int => va_up (va_up F 98 (oM ad (va_up (va_up f 10 0) 12 qq) v)) 104 (.inl (g 0, 40, .inl (aI (va_up lf t (((byt w i.toNat : Nat)) : Int)))))) (show (t : Int) + 1 = ((t + 1 : Nat) : Int) from by omega)) ?_
                  refine ih (i - 1) (t + 1) (va_up lf t (((byt w i.toNat : Nat)) : Int)) (by omega) ?_ ?_ (by omega)
                  · have hj : (3 - (i - 1)).toNat = (3 - i).toNat + 1 := by omega
                    have hj2 : 3 - (3 - i).toNat = i.toNat := by omega
                    rw [hj, wch_1 (by rw [hj2]; omega), List.length_append, ht]; rfl
                  · have hj : (3 - (i - 1)).toNat = (3 - i).toNat + 1 := by omega
                    have hj2 : 3 - (3 - i).toNat = i.toNat := by omega
                    rw [hj, wch_1 (by rw [hj2]; omega), ← List.append_assoc, hj2]
                    have h9 := mtx_put (c := byt w i.toNat) hlf
                    rw [List.length_append, ← ht] at h9
                    exact h9
                · refine J_goto (tgt := 116) d_M_write_92 (by decide) ?_
                  refine J_iinc (j := 4) (b := i - 1) (lv' := [(3, .int (iI (i - 1))), (4, .int (iI (((byt w i.toNat : Nat)) : Int))), (0, .ref (ad 98)), (1, .int (iI w)), (2, .int (iI (n : Int)))]) d_M_write_116 rfl (by omega) (by decide) rfl ?_
                  refine J_goto (tgt := 71) d_M_write_119 (by decide) ?_
                  refine J_pick (lv' := [(0, .ref (ad 98)), (1, .int (iI w)), (2, .int (iI (n : Int))), (3, .int (iI (i - 1)))]) [2, 3, 4, 0] rfl ?_
                  refine ih (i - 1) t lf (by omega) ?_ ?_ (by omega)
                  · have hj : (3 - (i - 1)).toNat = (3 - i).toNat + 1 := by omega
                    have hj2 : 3 - (3 - i).toNat = i.toNat := by omega
                    rw [hj, wch_0 (by rw [hj2]; omega)]; exact ht
                  · have hj : (3 - (i - 1)).toNat = (3 - i).toNat + 1 := by omega
                    have hj2 : 3 - (3 - i).toNat = i.toNat := by omega
                    rw [hj, wch_0 (by rw [hj2]; omega)]; exact hlf
          exact loop71 ((((3 : Int) + 1).toNat) + 1) (3 : Int) ln.length lh (by omega) (by rw [show (3 - (3 : Int)).toNat = 0 from rfl]; rfl) (by rw [show (3 - (3 : Int)).toNat = 0 from rfl]; show mtx lh (ln ++ []); rw [List.append_nil]; exact hln.1) (Nat.lt_succ_self _)
        · refine J_iconst d_M_write_67 ?_
          refine J_eqF (F2 := va_up (va_up F 98 (oM ad (va_up f 10 0) v)) 99 (.inl (g 0, 858, .inl (aI hh)))) (up_same1 (by rw [va_up_ne _ _ (by decide)]; exact hB)) ?_
          refine J_eqF (F2 := va_up (va_up (va_up F 98 (oM ad (va_up f 10 0) v)) 99 (.inl (g 0, 858, .inl (aI hh)))) 100 (.inl (g 0, 33, .inl (aI ll)))) (up_same1 (by rw [va_up_ne _ _ (by decide), va_up_ne _ _ (by decide)]; exact hL)) ?_
          refine J_iret rfl (nb01 (by omega)).1 d_M_write_68 ⟨by decide, by decide⟩ ?_
          exact ⟨_, rfl, rfl, rfl, Or.inr ⟨rfl, fun h => absurd h.2 (by omega), ⟨hh, ll, (va_up f 10 0), v, V, br, kk, bb, rr, lh, xh, dh, tt, ⟨(by rw [va_up_ne _ _ (by decide), va_up_ne _ _ (by decide), va_up_self]), (by rw [va_up_ne _ _ (by decide), va_up_self]), (by rw [va_up_self]), hR, hzz, (by rw [va_up_ne _ _ (by decide), va_up_ne _ _ (by decide), va_up_ne _ _ (by decide)]; exact hKk), (by rw [va_up_ne _ _ (by decide), va_up_ne _ _ (by decide), va_up_ne _ _ (by decide)]; exact hBb), (by rw [va_up_ne _ _ (by decide), va_up_ne _ _ (by decide), va_up_ne _ _ (by decide)]; exact hRr), mR_fr hmr (fun k hk => (show (V) k = V k from by rfl)), (by rw [va_up_ne _ _ (by decide), va_up_ne _ _ (by decide), va_up_ne _ _ (by decide)]; exact h104), (by rw [va_up_ne _ _ (by decide), va_up_ne _ _ (by decide), va_up_ne _ _ (by decide)]; exact h105), (by rw [va_up_ne _ _ (by decide), va_up_ne _ _ (by decide), va_up_ne _ _ (by decide)]; exact h106), (by rw [va_up_ne _ _ (by decide), va_up_ne _ _ (by decide), va_up_ne _ _ (by decide)]; exact h107), ⟨hln.1, ((va_up_ne _ _ (by decide)).trans hln.2.1), hln.2.2⟩, ⟨hsh.1, (va_up_ne _ _ (by decide)).trans hsh.2.1, hsh.2.2⟩⟩, (va_up_self ..)⟩⟩, offM_3⟩
      · refine J_iload_n 1 d_M_write_13 rfl rfl ?_
        refine J_bipush d_M_write_14 (i8_ok (by decide)) ?_
        refine J_iload_n 3 d_M_write_16 rfl rfl ?_
        refine J_imul d_M_write_17 ?_
        refine J_topi (r := ((8 * i.toNat : Nat) : Int)) (congrArg iI (by omega)) ?_
        refine J_ishr (r := w / 2 ^ (8 * i.toNat)) d_M_write_18 (iI_shr hw (8 * i.toNat) (by omega)) ?_
        refine J_sipush d_M_write_19 (i16_ok (by decide)) ?_
        refine J_iand (r := (w / 2 ^ (8 * i.toNat)) % 256) d_M_write_22 (iI_and 8 (by decide)) ?_
        refine J_topi (r := (((byt w i.toNat : Nat)) : Int)) (congrArg iI (byt_eq _ _)) ?_
        refine J_istore (lv' := [(4, .int (iI (((byt w i.toNat : Nat)) : Int))), (0, .ref (ad 98)), (1, .int (iI w)), (2, .int (iI (n : Int))), (3, .int (iI i))]) d_M_write_23 (by decide) rfl ?_
        refine J_iload 0 d_M_write_25 rfl ?_
        refine J_ifne (tgt := 33) d_M_write_27 (by decide) ⟨by omega, by omega⟩ (fun c27 => ?_) (fun c27 => ?_)
        · refine J_iload 0 d_M_write_33 rfl ?_
          refine J_bipush d_M_write_35 (i8_ok (by decide)) ?_
          refine J_bipush d_M_write_37 (i8_ok (by decide)) ?_
          refine J_callSi cw_M_138 nh_M_in pn_M_in rfl (As := [.int (iI (((byt w i.toNat : Nat)) : Int)), .int (iI 32), .int (iI 126)]) (rest := []) rfl (Nat.le_of_ble_eq_true rfl) ⟨by decide, by decide⟩ rfl ⟨by decide, by decide⟩ d_M_write_39 (c_M_in hfl (a := ((byt w i.toNat : Nat) : Int)) (b := 32) (c := 126) ⟨by omega, by omega⟩ (by decide) (by decide)) (fun za F1 hq => ?_)
          obtain ⟨hza, eF1⟩ := hq
          refine J_eqF eF1 ?_
          refine J_ifne (tgt := 47) d_M_write_42 (by decide) ⟨by omega, by omega⟩ (fun c42 => ?_) (fun c42 => ?_)
          · refine J_iinc (j := 3) (b := (n : Int) + 1) (lv' := [(2, .int (iI ((n : Int) + 1))), (4, .int (iI (((byt w i.toNat : Nat)) : Int))), (0, .ref (ad 98)), (1, .int (iI w)), (3, .int (iI i))]) d_M_write_47 rfl (by omega) (by decide) rfl ?_
            refine J_iinc (j := 4) (b := i - 1) (lv' := [(3, .int (iI (i - 1))), (2, .int (iI ((n : Int) + 1))), (4, .int (iI (((byt w i.toNat : Nat)) : Int))), (0, .ref (ad 98)), (1, .int (iI w))]) d_M_write_50 rfl (by omega) (by decide) rfl ?_
            refine J_goto (tgt := 9) d_M_write_53 (by decide) ?_
            refine J_pick (lv' := [(0, .ref (ad 98)), (1, .int (iI w)), (2, .int (iI ((n : Int) + 1))), (3, .int (iI (i - 1)))]) [3, 4, 1, 0] rfl ?_
            refine ih (i - 1) (n + 1) (by omega) ?_ ?_ (by omega)
            · have hj : (3 - (i - 1)).toNat = (3 - i).toNat + 1 := by omega
              have hj2 : 3 - (3 - i).toNat = i.toNat := by omega
              rw [hj, wch_1 (by rw [hj2]; omega), List.length_append, ← hn]; rfl
            · have hj : (3 - (i - 1)).toNat = (3 - i).toNat + 1 := by omega
              have hj2 : 3 - (3 - i).toNat = i.toNat := by omega
              rw [hj]; exact wok_1 hok (by rw [hj2]; omega)
          · refine J_iconst d_M_write_45 ?_
            refine J_eqF (F2 := va_up (va_up F 98 (oM ad (va_up f 10 0) v)) 99 (.inl (g 0, 858, .inl (aI hh)))) (up_same1 (by rw [va_up_ne _ _ (by decide)]; exact hB)) ?_
            refine J_eqF (F2 := va_up (va_up (va_up F 98 (oM ad (va_up f 10 0) v)) 99 (.inl (g 0, 858, .inl (aI hh)))) 100 (.inl (g 0, 33, .inl (aI ll)))) (up_same1 (by rw [va_up_ne _ _ (by decide), va_up_ne _ _ (by decide)]; exact hL)) ?_
            refine J_iret rfl (nb01 (by omega)).1 d_M_write_46 ⟨by decide, by decide⟩ ?_
            exact ⟨_, rfl, rfl, rfl, Or.inr ⟨rfl, fun h => wok_no (j := (3 - i).toNat) (by omega) (by rw [show 3 - (3 - i).toNat = i.toNat by omega]; omega) (by rw [show 3 - (3 - i).toNat = i.toNat by omega]; omega) h.1, ⟨hh, ll, (va_up f 10 0), v, V, br, kk, bb, rr, lh, xh, dh, tt, ⟨(by rw [va_up_ne _ _ (by decide), va_up_ne _ _ (by decide), va_up_self]), (by rw [va_up_ne _ _ (by decide), va_up_self]), (by rw [va_up_self]), hR, hzz, (by rw [va_up_ne _ _ (by decide), va_up_ne _ _ (by decide), va_up_ne _ _ (by decide)]; exact hKk), (by rw [va_up_ne _ _ (by decide), va_up_ne _ _ (by decide), va_up_ne _ _ (by decide)]; exact hBb), (by rw [va_up_ne _ _ (by decide), va_up_ne _ _ (by decide), va_up_ne _ _ (by decide)]; exact hRr), mR_fr hmr (fun k hk => (show (V) k = V k from by rfl)), (by rw [va_up_ne _ _ (by decide), va_up_ne _ _ (by decide), va_up_ne _ _ (by decide)]; exact h104), (by rw [va_up_ne _ _ (by decide), va_up_ne _ _ (by decide), va_up_ne _ _ (by decide)]; exact h105), (by rw [va_up_ne _ _ (by decide), va_up_ne _ _ (by decide), va_up_ne _ _ (by decide)]; exact h106), (by rw [va_up_ne _ _ (by decide), va_up_ne _ _ (by decide), va_up_ne _ _ (by decide)]; exact h107), ⟨hln.1, ((va_up_ne _ _ (by decide)).trans hln.2.1), hln.2.2⟩, ⟨hsh.1, (va_up_ne _ _ (by decide)).trans hsh.2.1, hsh.2.2⟩⟩, (va_up_self ..)⟩⟩, offM_3⟩
        · refine J_goto (tgt := 50) d_M_write_30 (by decide) ?_
          refine J_iinc (j := 4) (b := i - 1) (lv' := [(3, .int (iI (i - 1))), (4, .int (iI (((byt w i.toNat : Nat)) : Int))), (0, .ref (ad 98)), (1, .int (iI w)), (2, .int (iI (n : Int)))]) d_M_write_50 rfl (by omega) (by decide) rfl ?_
          refine J_goto (tgt := 9) d_M_write_53 (by decide) ?_
          refine J_pick (lv' := [(0, .ref (ad 98)), (1, .int (iI w)), (2, .int (iI (n : Int))), (3, .int (iI (i - 1)))]) [2, 3, 4, 0] rfl ?_
          refine ih (i - 1) n (by omega) ?_ ?_ (by omega)
          · have hj : (3 - (i - 1)).toNat = (3 - i).toNat + 1 := by omega
            have hj2 : 3 - (3 - i).toNat = i.toNat := by omega
            rw [hj, wch_0 (by rw [hj2]; omega)]; exact hn
          · have hj : (3 - (i - 1)).toNat = (3 - i).toNat + 1 := by omega
            have hj2 : 3 - (3 - i).toNat = i.toNat := by omega
            rw [hj]; exact wok_0 hok (by rw [hj2]; omega)
  exact loop9 ((((3 : Int) + 1).toNat) + 1) (3 : Int) 0 (by omega) rfl (fun c hc => absurd hc (List.not_mem_nil)) (Nat.lt_succ_self _)
