/-! the law's loop, and its start -/
set_option maxRecDepth 100000 in
set_option maxHeartbeats 4000000 in
theorem lw_loop {l : Launch} (hfl : l.flags = flags0) {D : va_G} {g : Nat → ClassId} {A : Nat → Prop} {X : State → Method → Prop} {Q : JQ} {ad : Nat → Nat} {b L : Nat} {xs : Nat → Int32} {zs : Nat → Int} (hE : lwE A X b L xs zs) (hL : L ≤ 2560) (hQ : ∀ F, Q (.inl (some (.int (iI 1)))) ad 109 F) :
    ∀ (fuel n kc ks : Nat) (R : Nat → Vn) (ln sh : List Nat) (F : Nat → va_E), L + 5 - 5 * n < fuel → 5 * n ≤ L → kc ≤ 109 + n → ks ≤ 3442 + 6 * n → lwS ad g R ln sh F → JL l D g A X Q ad kc ks 23 (lvL b ad (5 * n)) [] F := by
  intro fuel
  induction fuel with
  | zero => intro n kc ks R ln sh F hf; exact absurd hf (Nat.not_lt_zero _)
  | succ fuel ih =>
    intro n kc ks R ln sh F hf hnL hk hs hS
    obtain ⟨hXs, hzs, hzb⟩ := id hE
    refine J_iload 4 d_L_law_23 rfl ?_
    refine J_aload_n 0 d_L_law_25 rfl rfl ?_
    refine J_slen hXs d_L_law_26 ?_
    refine J_iconst d_L_law_27 ?_
    refine J_isub d_L_law_28 ?_
    refine J_if_icmpgt (tgt := 1094) d_L_law_29 (by decide) ⟨by omega, by omega⟩ ⟨by omega, by omega⟩ (fun c29 => ?_) (fun c29 => ?_)
    · refine J_iconst d_L_law_1094 ?_
      refine J_iret rfl (nb01 (Or.inr rfl)).1 d_L_law_1095 ⟨by show kc ≤ 601024; omega, by show ks ≤ 7293034; omega⟩ ?_
      exact hQ F
    · have hi : 5 * n + 5 ≤ L := by omega
      have hk9 : kc ≤ 900 := by omega
      have hs9 : ks ≤ 9000 := by omega
      have next : lwN l D g A X Q ad b (5 * n) kc ks := by
        intro kc' ks' R' ln' sh' F' h1 h2 hS'
        refine J_iinc (j := 4) (b := ((5 * (n + 1) : Nat) : Int)) (lv' := [(4, .int (iI ((5 * (n + 1) : Nat) : Int))), (0, .ref b), (1, .ref (ad 0)), (2, .ref (ad 98)), (3, .ref (ad 108))]) d_L_law_1088 rfl (by omega) (by decide) rfl ?_
        refine J_goto (tgt := 23) d_L_law_1091 (by decide) ?_
        exact J_pick [1, 2, 3, 4, 0] rfl (ih (n + 1) kc' ks' R' ln' sh' F' (by omega) (by omega) (by omega) (by omega) hS')
      refine J_aload_n 0 d_L_law_32 rfl rfl ?_
      refine J_iload 4 d_L_law_33 rfl ?_
      refine J_sld hXs hzs ⟨by omega, by omega, by omega⟩ d_L_law_35 ?_
      refine J_bipush d_L_law_36 (i8_ok (by decide)) ?_
      refine J_iand (r := zs ((5 * n : Nat) : Int).toNat % 2 ^ 5) d_L_law_38 (iI_and 5 (by decide)) ?_
      obtain ⟨s, hs0⟩ : ∃ s, zs ((5 * n : Nat) : Int).toNat % 2 ^ 5 = s := ⟨_, rfl⟩
      have hsb : 0 ≤ s ∧ s < 32 := by omega
      refine J_topi (r := s) (congrArg iI hs0) ?_
      by_cases c : 17 < s
      · refine J_tableOut (tgt := 1088) d_L_law_39 ⟨by omega, by omega⟩ (Or.inr c) (by decide) ?_
        exact next kc ks R ln sh F (by omega) (by omega) hS
      · have hcase : s = 0 ∨ s = 1 ∨ s = 2 ∨ s = 3 ∨ s = 4 ∨ s = 5 ∨ s = 6 ∨ s = 7 ∨ s = 8 ∨ s = 9 ∨ s = 10 ∨ s = 11 ∨ s = 12 ∨ s = 13 ∨ s = 14 ∨ s = 15 ∨ s = 16 ∨ s = 17 := by omega
        rcases hcase with rfl | rfl | rfl | rfl | rfl | rfl | rfl | rfl | rfl | rfl | rfl | rfl | rfl | rfl | rfl | rfl | rfl | rfl
        · refine J_tableIn (tgt := 124) d_L_law_39 ⟨by decide, by decide⟩ (by decide) (by decide) rfl (by decide) ?_
          exact lw_c0 hfl hE hi hL hk9 hs9 hS next
        · refine J_tableIn (tgt := 149) d_L_law_39 ⟨by decide, by decide⟩ (by decide) (by decide) rfl (by decide) ?_
          exact lw_c1 hfl hE hi hL hk9 hs9 hS next
        · refine J_tableIn (tgt := 160) d_L_law_39 ⟨by decide, by decide⟩ (by decide) (by decide) rfl (by decide) ?_
          exact lw_c2 hfl hE hi hL hk9 hs9 hS next
        · refine J_tableIn (tgt := 216) d_L_law_39 ⟨by decide, by decide⟩ (by decide) (by decide) rfl (by decide) ?_
          exact lw_c3 hfl hE hi hL hk9 hs9 hS next
        · refine J_tableIn (tgt := 285) d_L_law_39 ⟨by decide, by decide⟩ (by decide) (by decide) rfl (by decide) ?_
          exact lw_c4 hfl hE hi hL hk9 hs9 hS next
        · refine J_tableIn (tgt := 332) d_L_law_39 ⟨by decide, by decide⟩ (by decide) (by decide) rfl (by decide) ?_
          exact lw_c5 hfl hE hi hL hk9 hs9 hS next
        · refine J_tableIn (tgt := 424) d_L_law_39 ⟨by decide, by decide⟩ (by decide) (by decide) rfl (by decide) ?_
          exact lw_c6 hfl hE hi hL hk9 hs9 hS next
        · refine J_tableIn (tgt := 516) d_L_law_39 ⟨by decide, by decide⟩ (by decide) (by decide) rfl (by decide) ?_
          exact lw_c7 hfl hE hi hL hk9 hs9 hS next
        · refine J_tableIn (tgt := 596) d_L_law_39 ⟨by decide, by decide⟩ (by decide) (by decide) rfl (by decide) ?_
          exact lw_c8 hfl hE hi hL hk9 hs9 hS next
        · refine J_tableIn (tgt := 676) d_L_law_39 ⟨by decide, by decide⟩ (by decide) (by decide) rfl (by decide) ?_
          exact lw_c9 hfl hE hi hL hk9 hs9 hS next
        · refine J_tableIn (tgt := 744) d_L_law_39 ⟨by decide, by decide⟩ (by decide) (by decide) rfl (by decide) ?_
          exact lw_c10 hfl hE hi hL hk9 hs9 hS next
        · refine J_tableIn (tgt := 781) d_L_law_39 ⟨by decide, by decide⟩ (by decide) (by decide) rfl (by decide) ?_
          exact lw_c11 hfl hE hi hL hk9 hs9 hS next
        · refine J_tableIn (tgt := 807) d_L_law_39 ⟨by decide, by decide⟩ (by decide) (by decide) rfl (by decide) ?_
          exact lw_c12 hfl hE hi hL hk9 hs9 hS next
        · refine J_tableIn (tgt := 863) d_L_law_39 ⟨by decide, by decide⟩ (by decide) (by decide) rfl (by decide) ?_
          exact lw_c13 hfl hE hi hL hk9 hs9 hS next
        · refine J_tableIn (tgt := 919) d_L_law_39 ⟨by decide, by decide⟩ (by decide) (by decide) rfl (by decide) ?_
          exact lw_c14 hfl hE hi hL hk9 hs9 hS next
        · refine J_tableIn (tgt := 944) d_L_law_39 ⟨by decide, by decide⟩ (by decide) (by decide) rfl (by decide) ?_
          exact lw_c15 hfl hE hi hL hk9 hs9 hS next
        · refine J_tableIn (tgt := 969) d_L_law_39 ⟨by decide, by decide⟩ (by decide) (by decide) rfl (by decide) ?_
          exact lw_c16 hfl hE hi hL hk9 hs9 hS next
        · refine J_tableIn (tgt := 1022) d_L_law_39 ⟨by decide, by decide⟩ (by decide) (by decide) rfl (by decide) ?_
          exact lw_c17 hfl hE hi hL hk9 hs9 hS next
theorem clsP.mv0 {g : Nat → ClassId} {ad ad' : Nat → Nat} {F F' : Nat → va_E} (h : clsP g ad F 0) (hA : ∀ j, j < 98 → ad' j = ad j) (hF : ∀ j, j < 98 → F' j = F j) : clsP g ad' F' 0 := by
  obtain ⟨h0, ⟨rf, h1, hr⟩, h2, h7, h9, h41, h42, h43⟩ := h
  refine ⟨?_, ⟨rf, (hF _ (by decide)).trans h1, fun j hj => ?_⟩, h2.mv (fun j a b => hA j (by omega)) (fun j a b => hF j (by omega)), h7.mv (fun j a b => hA j (by omega)) (fun j a b => hF j (by omega)), h9.mv (fun j a b => hA j (by omega)) (fun j a b => hF j (by omega)), ?_, ?_, h43.mv (fun j a b => hA j (by omega)) (fun j a b => hF j (by omega))⟩
  · rw [hF 0 (by decide), h0, hA (0 + 1) (by decide), hA (0 + 2) (by decide), hA (0 + 7) (by decide), hA (0 + 9) (by decide), hA (0 + 41) (by decide), hA (0 + 42) (by decide), hA (0 + 43) (by decide)]
  · obtain ⟨g1, g2⟩ := hr j hj
    exact ⟨by rw [hA _ (by omega)]; exact g1, g2.mv (fun q a b => hA q (by omega)) (fun q a b => hF q (by omega))⟩
  · rw [hF _ (by decide), h41, hA (0 + 7) (by decide)]
  · rw [hF _ (by decide), h42, hA (0 + 7) (by decide)]
theorem modP.mv0 {g : Nat → ClassId} {ad ad' : Nat → Nat} {F F' : Nat → va_E} (h : modP g ad F 98) (hA : ∀ j, j < 108 → ad' j = ad j) (hF : ∀ j, j < 108 → F' j = F j) : modP g ad' F' 98 := by
  obtain ⟨h0, h1, h2, h3, h4, h5, h6, h7, h8, h9⟩ := h
  refine ⟨?_, (hF _ (by decide)).trans h1, (hF _ (by decide)).trans h2, (hF _ (by decide)).trans h3, (hF _ (by decide)).trans h4, (hF _ (by decide)).trans h5, (hF _ (by decide)).trans h6, (hF _ (by decide)).trans h7, (hF _ (by decide)).trans h8, (hF _ (by decide)).trans h9⟩
  rw [hF 98 (by decide), h0, hA (98 + 1) (by decide), hA (98 + 2) (by decide), hA (98 + 3) (by decide), hA (98 + 4) (by decide), hA (98 + 5) (by decide), hA (98 + 6) (by decide), hA (98 + 7) (by decide), hA (98 + 8) (by decide), hA (98 + 9) (by decide)]
set_option maxRecDepth 100000 in
set_option maxHeartbeats 4000000 in
/-- the law from its first instruction -/
theorem lw_go {l : Launch} (hfl : l.flags = flags0) {D : va_G} {g : Nat → ClassId} {A : Nat → Prop} {X : State → Method → Prop} {Q : JQ} {ad : Nat → Nat} {b L : Nat} {xs : Nat → Int32} {zs : Nat → Int} {F : Nat → va_E} (hE : lwE A X b L xs zs) (hao : ∀ s me, X s me → va_AO "NumberTower$Num" s) (hL : L ≤ 2560) (hQ : ∀ ad N F, Q (.inl (some (.int (iI 1)))) ad N F) :
    J l room_1 (601024, 7293034) "NumberTowerLaw" b_L_law 9 (Option.some FieldType.boolean) D jCl (jTys g) A X Q ad 0 0 0 0 [(0, .ref b)] [] F := by
  refine J_new (C := "NumberTower") (T := F_X) (n := 7) (ci := 0) (fs := [.null, .null, .null, .null, .null, .null, .null]) in_X tt_X tt_X_ok rfl wd_20 wd_21 wd_1 df_X ⟨by decide, by decide⟩ d_L_law_0 (fun a1 h1 => ?_)
  refine J_dup d_L_law_3 rfl ?_
  refine J_callIG cw_L_43 (fun u U h => va_AO.moved h) hao rfl nh_X_init pn_X_init rfl (As := []) (rest := [.ref (a1 0)]) rfl (Nat.le_of_ble_eq_true rfl) ⟨by decide, by decide⟩ ⟨by decide, by decide⟩ d_L_law_4 (c_X_init hfl (k := 0) (ad := a1) (F := va_up F 0 (.inr (0, [.null, .null, .null, .null, .null, .null, .null]))) (va_up_self ..)) (fun v a2 N2 F2 hq => ?_) (fun _ _ _ _ hq => by obtain ⟨hv, -⟩ := hq; cases hv)
  obtain ⟨hv, hN2, hA2, hB2, hP2⟩ := hq
  cases hv
  replace hN2 : N2 = 98 := by omega
  subst hN2
  rw [← hA2 0 (by decide)]
  refine J_astore_n (lv' := [(1, .ref (a2 0)), (0, .ref b)]) d_L_law_7 rfl (by decide) rfl ?_
  refine J_new (C := "NumberTowerModel") (T := F_M) (n := 30) (ci := 8) (fs := [.null, .null, .null, .null, .null, .int (iI 0), .int (iI 0), .int (iI 0), .int (iI 0), .double 0, .int (iI 0), .null, .int (iI 0), .null, .int (iI 0), .null, .int (iI 0), .null, .int (iI 0), .int (iI 0), .int (iI 0), .int (iI 0), .int (iI 0), .int (iI 0), .int (iI 0), .int (iI 0), .int (iI 0), .int (iI 0), .int (iI 0), .int (iI 0)]) in_M tt_M tt_M_ok rfl wd_979 wd_980 wd_9 df_M ⟨by decide, by decide⟩ d_L_law_8 (fun a3 h3 => ?_)
  rw [← h3 0 (by decide)]
  refine J_dup d_L_law_11 rfl ?_
  refine J_callI cw_L_46 rfl nh_M_init pn_M_init rfl (As := []) (rest := [.ref (a3 98)]) rfl (Nat.le_of_ble_eq_true rfl) ⟨by decide, by decide⟩ ⟨by decide, by decide⟩ d_L_law_12 (c_M_init hfl (k := 98) (ad := a3) (F := va_up F2 98 (.inr (8, [.null, .null, .null, .null, .null, .int (iI 0), .int (iI 0), .int (iI 0), .int (iI 0), .double 0, .int (iI 0), .null, .int (iI 0), .null, .int (iI 0), .null, .int (iI 0), .null, .int (iI 0), .int (iI 0), .int (iI 0), .int (iI 0), .int (iI 0), .int (iI 0), .int (iI 0), .int (iI 0), .int (iI 0), .int (iI 0), .int (iI 0), .int (iI 0)]))) (va_up_self ..)) (fun v a4 N4 F4 hq => ?_) (fun _ _ _ _ hq => by obtain ⟨hv, -⟩ := hq; cases hv)
  obtain ⟨hv, hN4, hA4, hB4, hP4⟩ := hq
  cases hv
  replace hN4 : N4 = 108 := by omega
  subst hN4
  rw [← hA4 0 (by decide), ← hA4 98 (by decide)]
  refine J_astore_n (lv' := [(2, .ref (a4 98)), (1, .ref (a4 0)), (0, .ref b)]) d_L_law_15 rfl (by decide) rfl ?_
  refine J_iconst d_L_law_16 ?_
  refine J_newarr (n := 1) (cA := g 5) (a0 := (1, .inr (.inl fun _ => 0))) 5 rfl rfl (fun _ _ h => h) (fun _ => rfl) wd_1468 (by decide) (by decide) ⟨by decide, by decide⟩ d_L_law_17 (fun a5 h5 => ?_)
  rw [← h5 0 (by decide), ← h5 98 (by decide)]
  refine J_astore_n (lv' := [(3, .ref (a5 108)), (2, .ref (a5 98)), (1, .ref (a5 0)), (0, .ref b)]) d_L_law_19 rfl (by decide) rfl ?_
  refine J_iconst d_L_law_20 ?_
  refine J_istore (lv' := [(4, .int (iI 0)), (3, .ref (a5 108)), (2, .ref (a5 98)), (1, .ref (a5 0)), (0, .ref b)]) d_L_law_21 (by decide) rfl ?_
  refine J_widen (kc' := 109) (ks' := 3442) (by decide) (by decide) ?_
  refine J_pick (lv' := lvL b a5 0) [4, 3, 2, 1, 0] rfl ?_
  have e1 : ∀ j, j < 98 → a5 j = a2 j := fun j hj => (h5 j (by omega)).trans ((hA4 j (by omega)).trans (h3 j (by omega)))
  have e2 : ∀ j, j < 98 → va_up F4 108 (.inl (g 5, (1, .inr (.inl fun _ => 0)))) j = F2 j := fun j hj => (va_up_ne _ _ (by omega)).trans ((hB4 j (by omega)).trans (va_up_ne _ _ (by omega)))
  refine lw_loop hfl hE hL (fun F => hQ _ _ _) (L + 6) 0 109 3442 (fun _ => (-1, 0, 0, 0)) [] [] _ (by omega) (by omega) (by decide) (by decide) ⟨clsP_cst (hP2.mv0 e1 e2), ⟨0, modP_mst (hP4.mv0 (fun j hj => h5 j hj) (fun j hj => va_up_ne _ _ (by omega)))⟩, fun r hr => Or.inl rfl, _, va_up_self ..⟩
