/-! constructors -/
/-- the end of a constructor whose object is the newest one, at place k: n places from k on are its -/
abbrev jnw (ad : Nat → Nat) (F : Nat → va_E) (k n : Nat) (P : (Nat → Nat) → (Nat → va_E) → Nat → Prop) : JQ := fun o ad' N' F' => o = .inl none ∧ N' = k + n ∧ (∀ j, j ≤ k → ad' j = ad j) ∧ (∀ j, j < k → F' j = F j) ∧ P ad' F' k
def natP (g : Nat → ClassId) (ad : Nat → Nat) (F : Nat → va_E) (k : Nat) : Prop := F k = .inr (2, [.ref (ad (k + 1)), .int (iI 0)]) ∧ F (k + 1) = .inl (g 0, 16, .inl (aI fun _ => 0))
def txtP (g : Nat → ClassId) (ad : Nat → Nat) (F : Nat → va_E) (k : Nat) : Prop := F k = .inr (7, [.ref (ad (k + 1)), .int (iI 0)]) ∧ F (k + 1) = .inl (g 1, 200, .inl (aI fun _ => 0))
def numP (g : Nat → ClassId) (ad : Nat → Nat) (F : Nat → va_E) (k : Nat) : Prop := F k = .inr (3, [.int (iI (-1)), .int (iI 0), .ref (ad (k + 1)), .ref (ad (k + 3))]) ∧ natP g ad F (k + 1) ∧ natP g ad F (k + 3)
theorem natP.mv {g : Nat → ClassId} {ad ad' : Nat → Nat} {F F' : Nat → va_E} {k : Nat} (h : natP g ad F k) (hA : ∀ j, k ≤ j → j < k + 2 → ad' j = ad j) (hF : ∀ j, k ≤ j → j < k + 2 → F' j = F j) : natP g ad' F' k := by
  obtain ⟨h1, h2⟩ := h
  exact ⟨by rw [hF k (by omega) (by omega), h1, hA (k + 1) (by omega) (by omega)], by rw [hF (k + 1) (by omega) (by omega), h2]⟩
theorem txtP.mv {g : Nat → ClassId} {ad ad' : Nat → Nat} {F F' : Nat → va_E} {k : Nat} (h : txtP g ad F k) (hA : ∀ j, k ≤ j → j < k + 2 → ad' j = ad j) (hF : ∀ j, k ≤ j → j < k + 2 → F' j = F j) : txtP g ad' F' k := by
  obtain ⟨h1, h2⟩ := h
  exact ⟨by rw [hF k (by omega) (by omega), h1, hA (k + 1) (by omega) (by omega)], by rw [hF (k + 1) (by omega) (by omega), h2]⟩
theorem numP.mv {g : Nat → ClassId} {ad ad' : Nat → Nat} {F F' : Nat → va_E} {k : Nat} (h : numP g ad F k) (hA : ∀ j, k ≤ j → j < k + 5 → ad' j = ad j) (hF : ∀ j, k ≤ j → j < k + 5 → F' j = F j) : numP g ad' F' k := by
  obtain ⟨h1, h2, h3⟩ := h
  exact ⟨by rw [hF k (by omega) (by omega), h1, hA (k + 1) (by omega) (by omega), hA (k + 3) (by omega) (by omega)], h2.mv (fun j a b => hA j (by omega) (by omega)) (fun j a b => hF j (by omega) (by omega)), h3.mv (fun j a b => hA j (by omega) (by omega)) (fun j a b => hF j (by omega) (by omega))⟩

abbrev rn_N : Room := { frames := 1, cells := 1, slots := 16, locals := 24 }
abbrev rn_T : Room := { frames := 1, cells := 1, slots := 200, locals := 24 }
abbrev rn_U : Room := { frames := 2, cells := 4, slots := 36, locals := 44 }
abbrev rn_R : Room := { frames := 1, cells := 0, slots := 0, locals := 24 }
abbrev rn_S : Room := { frames := 1, cells := 0, slots := 0, locals := 24 }
abbrev rn_D : Room := { frames := 3, cells := 31, slots := 264, locals := 64 }
abbrev rn_P : Room := { frames := 2, cells := 14, slots := 862, locals := 44 }
abbrev rn_X : Room := { frames := 4, cells := 97, slots := 1729, locals := 84 }
abbrev rn_M : Room := { frames := 1, cells := 9, slots := 1675, locals := 24 }
theorem df_N : ∀ j, j < 2 → defaultValue (tt_N j) = vp_V [.null, .int (iI 0)] j := fun j hj => match j, hj with
  | 0, _ => rfl
  | 1, _ => rfl
  | q + 2, h => absurd h (by omega)
theorem df_T : ∀ j, j < 2 → defaultValue (tt_T j) = vp_V [.null, .int (iI 0)] j := fun j hj => match j, hj with
  | 0, _ => rfl
  | 1, _ => rfl
  | q + 2, h => absurd h (by omega)
theorem df_U : ∀ j, j < 4 → defaultValue (tt_U j) = vp_V [.int (iI 0), .int (iI 0), .null, .null] j := fun j hj => match j, hj with
  | 0, _ => rfl
  | 1, _ => rfl
  | 2, _ => rfl
  | 3, _ => rfl
  | q + 4, h => absurd h (by omega)
theorem df_R : ∀ j, j < 3 → defaultValue (tt_R j) = vp_V [.null, .int (iI 0), .int (iI 0)] j := fun j hj => match j, hj with
  | 0, _ => rfl
  | 1, _ => rfl
  | 2, _ => rfl
  | q + 3, h => absurd h (by omega)
theorem df_S : ∀ j, j < 11 → defaultValue (tt_S j) = vp_V [.null, .int (iI 0), .int (iI 0), .int (iI 0), .int (iI 0), .int (iI 0), .int (iI 0), .int (iI 0), .int (iI 0), .int (iI 0), .int (iI 0)] j := fun j hj => match j, hj with
  | 0, _ => rfl
  | 1, _ => rfl
  | 2, _ => rfl
  | 3, _ => rfl
  | 4, _ => rfl
  | 5, _ => rfl
  | 6, _ => rfl
  | 7, _ => rfl
  | 8, _ => rfl
  | 9, _ => rfl
  | 10, _ => rfl
  | q + 11, h => absurd h (by omega)
theorem df_D : ∀ j, j < 11 → defaultValue (tt_D j) = vp_V [.null, .null, .null, .null, .null, .null, .null, .null, .null, .null, .null] j := fun j hj => match j, hj with
  | 0, _ => rfl
  | 1, _ => rfl
  | 2, _ => rfl
  | 3, _ => rfl
  | 4, _ => rfl
  | 5, _ => rfl
  | 6, _ => rfl
  | 7, _ => rfl
  | 8, _ => rfl
  | 9, _ => rfl
  | 10, _ => rfl
  | q + 11, h => absurd h (by omega)
theorem df_P : ∀ j, j < 8 → defaultValue (tt_P j) = vp_V [.null, .null, .null, .null, .null, .null, .null, .int (iI 0)] j := fun j hj => match j, hj with
  | 0, _ => rfl
  | 1, _ => rfl
  | 2, _ => rfl
  | 3, _ => rfl
  | 4, _ => rfl
  | 5, _ => rfl
  | 6, _ => rfl
  | 7, _ => rfl
  | q + 8, h => absurd h (by omega)
theorem df_X : ∀ j, j < 7 → defaultValue (tt_X j) = vp_V [.null, .null, .null, .null, .null, .null, .null] j := fun j hj => match j, hj with
  | 0, _ => rfl
  | 1, _ => rfl
  | 2, _ => rfl
  | 3, _ => rfl
  | 4, _ => rfl
  | 5, _ => rfl
  | 6, _ => rfl
  | q + 7, h => absurd h (by omega)
theorem df_M : ∀ j, j < 30 → defaultValue (tt_M j) = vp_V [.null, .null, .null, .null, .null, .int (iI 0), .int (iI 0), .int (iI 0), .int (iI 0), .double 0, .int (iI 0), .null, .int (iI 0), .null, .int (iI 0), .null, .int (iI 0), .null, .int (iI 0), .int (iI 0), .int (iI 0), .int (iI 0), .int (iI 0), .int (iI 0), .int (iI 0), .int (iI 0), .int (iI 0), .int (iI 0), .int (iI 0), .int (iI 0)] j := fun j hj => match j, hj with
  | 0, _ => rfl
  | 1, _ => rfl
  | 2, _ => rfl
  | 3, _ => rfl
  | 4, _ => rfl
  | 5, _ => rfl
  | 6, _ => rfl
  | 7, _ => rfl
  | 8, _ => rfl
  | 9, _ => rfl
  | 10, _ => rfl
  | 11, _ => rfl
  | 12, _ => rfl
  | 13, _ => rfl
  | 14, _ => rfl
  | 15, _ => rfl
  | 16, _ => rfl
  | 17, _ => rfl
  | 18, _ => rfl
  | 19, _ => rfl
  | 20, _ => rfl
  | 21, _ => rfl
  | 22, _ => rfl
  | 23, _ => rfl
  | 24, _ => rfl
  | 25, _ => rfl
  | 26, _ => rfl
  | 27, _ => rfl
  | 28, _ => rfl
  | 29, _ => rfl
  | q + 30, h => absurd h (by omega)
set_option maxRecDepth 100000 in
set_option maxHeartbeats 4000000 in
theorem c_N_init {l : Launch} (hfl : l.flags = flags0) {D : va_G} {g : Nat → ClassId} {ad : Nat → Nat} {k : Nat} {F : Nat → va_E} (hF : F k = .inr (2, [.null, .int (iI 0)])) :
    JC l y_N_init b_N_init 1 (Option.none : Option FieldType) rn_N (1, 16) D jCl (jTys g) ad (k + 1) F [.ref (ad k)] (jnw ad F k 2 (natP g)) := by
  refine JC.go hfl (own := "NumberTower$Natural") (lv := [(0, .ref (ad k))]) rfl (by decide +kernel) (Nat.le_of_ble_eq_true rfl) rfl (fun A => ?_)
  refine J_aload_n 0 d_N_init_0 rfl rfl ?_
  refine J_objInit wd_40 (by decide) (by decide) d_N_init_1 ?_
  refine J_aload_n 0 d_N_init_4 rfl rfl ?_
  refine J_bipush d_N_init_5 (i8_ok (by decide)) ?_
  refine J_newarr (n := 16) (cA := g 0) (a0 := (16, .inl (aI fun _ => 0))) 0 rfl rfl (fun _ _ h => h) (fun _ => rfl) wd_52 (by decide) (by decide) ⟨by decide, by decide⟩ d_N_init_7 (fun a1 h1 => ?_)
  rw [← h1 k (by omega)]
  refine pf_N_9 (by omega) ((va_up_ne _ _ (by omega)).trans hF) (by decide) rfl (fun _ _ h => h) d_N_init_9 ?_
  refine J_vret rfl d_N_init_12 ⟨by decide, by decide⟩ ?_
  exact ⟨rfl, rfl, fun j hj => h1 j (by omega), fun j hj => by rw [va_up_ne _ _ (by omega), va_up_ne _ _ (by omega)], va_up_self .., (va_up_ne _ _ (by omega)).trans (va_up_self ..)⟩
set_option maxRecDepth 100000 in
set_option maxHeartbeats 4000000 in
theorem c_T_init {l : Launch} (hfl : l.flags = flags0) {D : va_G} {g : Nat → ClassId} {ad : Nat → Nat} {k : Nat} {F : Nat → va_E} (hF : F k = .inr (7, [.null, .int (iI 0)])) :
    JC l y_T_init b_T_init 1 (Option.none : Option FieldType) rn_T (1, 200) D jCl (jTys g) ad (k + 1) F [.ref (ad k)] (jnw ad F k 2 (txtP g)) := by
  refine JC.go hfl (own := "NumberTower$Text") (lv := [(0, .ref (ad k))]) rfl (by decide +kernel) (Nat.le_of_ble_eq_true rfl) rfl (fun A => ?_)
  refine J_aload_n 0 d_T_init_0 rfl rfl ?_
  refine J_objInit wd_87 (by decide) (by decide) d_T_init_1 ?_
  refine J_aload_n 0 d_T_init_4 rfl rfl ?_
  refine J_sipush d_T_init_5 (i16_ok (by decide)) ?_
  refine J_newarr (n := 200) (cA := g 1) (a0 := (200, .inl (aI fun _ => 0))) 1 rfl rfl (fun _ _ h => h) (fun _ => rfl) wd_99 (by decide) (by decide) ⟨by decide, by decide⟩ d_T_init_8 (fun a1 h1 => ?_)
  rw [← h1 k (by omega)]
  refine pf_T_11 (by omega) ((va_up_ne _ _ (by omega)).trans hF) (by decide) rfl (fun _ _ h => h) d_T_init_10 ?_
  refine J_vret rfl d_T_init_13 ⟨by decide, by decide⟩ ?_
  exact ⟨rfl, rfl, fun j hj => h1 j (by omega), fun j hj => by rw [va_up_ne _ _ (by omega), va_up_ne _ _ (by omega)], va_up_self .., (va_up_ne _ _ (by omega)).trans (va_up_self ..)⟩
set_option maxRecDepth 100000 in
set_option maxHeartbeats 4000000 in
theorem c_R_init {l : Launch} (hfl : l.flags = flags0) {D : va_G} {g : Nat → ClassId} {ad : Nat → Nat} {k : Nat} {F : Nat → va_E} {x : Nat} (hF : F k = .inr (5, [.null, .int (iI 0), .int (iI 0)])) :
    JC l y_R_init b_R_init 2 (Option.none : Option FieldType) rn_R (0, 0) D jCl (jTys g) ad (k + 1) F [.ref (ad k), .ref x] (jnw ad F k 1 (fun ad' F' k => F' k = .inr (5, [.ref x, .int (iI 0), .int (iI 0)]))) := by
  refine JC.go hfl (own := "NumberTower$Reader") (lv := [(0, .ref (ad k)), (1, .ref x)]) rfl (by decide +kernel) (Nat.le_of_ble_eq_true rfl) rfl (fun A => ?_)
  refine J_aload_n 0 d_R_init_0 rfl rfl ?_
  refine J_objInit wd_150 (by decide) (by decide) d_R_init_1 ?_
  refine J_aload_n 0 d_R_init_4 rfl rfl ?_
  refine J_aload_n 1 d_R_init_5 rfl rfl ?_
  refine pf_R_9 (by omega) hF (by decide) rfl (fun _ _ h => h) d_R_init_6 ?_
  refine J_vret rfl d_R_init_9 ⟨by decide, by decide⟩ ?_
  exact ⟨rfl, rfl, fun j hj => rfl, fun j hj => va_up_ne _ _ (by omega), va_up_self ..⟩
set_option maxRecDepth 100000 in
set_option maxHeartbeats 4000000 in
theorem c_S_init {l : Launch} (hfl : l.flags = flags0) {D : va_G} {g : Nat → ClassId} {ad : Nat → Nat} {k : Nat} {F : Nat → va_E} {x : Nat} (hF : F k = .inr (6, [.null, .int (iI 0), .int (iI 0), .int (iI 0), .int (iI 0), .int (iI 0), .int (iI 0), .int (iI 0), .int (iI 0), .int (iI 0), .int (iI 0)])) :
    JC l y_S_init b_S_init 2 (Option.none : Option FieldType) rn_S (0, 0) D jCl (jTys g) ad (k + 1) F [.ref (ad k), .ref x] (jnw ad F k 1 (fun ad' F' k => F' k = .inr (6, [.ref x, .int (iI 0), .int (iI 0), .int (iI 0), .int (iI 0), .int (iI 0), .int (iI 0), .int (iI 0), .int (iI 0), .int (iI 0), .int (iI 0)]))) := by
  refine JC.go hfl (own := "NumberTower$Spec") (lv := [(0, .ref (ad k)), (1, .ref x)]) rfl (by decide +kernel) (Nat.le_of_ble_eq_true rfl) rfl (fun A => ?_)
  refine J_aload_n 0 d_S_init_0 rfl rfl ?_
  refine J_objInit wd_167 (by decide) (by decide) d_S_init_1 ?_
  refine J_aload_n 0 d_S_init_4 rfl rfl ?_
  refine J_aload_n 1 d_S_init_5 rfl rfl ?_
  refine pf_S_9 (by omega) hF (by decide) rfl (fun _ _ h => h) d_S_init_6 ?_
  refine J_vret rfl d_S_init_9 ⟨by decide, by decide⟩ ?_
  exact ⟨rfl, rfl, fun j hj => rfl, fun j hj => va_up_ne _ _ (by omega), va_up_self ..⟩
set_option maxRecDepth 100000 in
set_option maxHeartbeats 4000000 in
theorem c_U_init {l : Launch} (hfl : l.flags = flags0) {D : va_G} {g : Nat → ClassId} {ad : Nat → Nat} {k : Nat} {F : Nat → va_E} (hF : F k = .inr (3, [.int (iI 0), .int (iI 0), .null, .null])) :
    JC l y_U_init b_U_init 1 (Option.none : Option FieldType) rn_U (4, 36) D jCl (jTys g) ad (k + 1) F [.ref (ad k)] (jnw ad F k 5 (numP g)) := by
  refine JC.go hfl (own := "NumberTower$Num") (lv := [(0, .ref (ad k))]) rfl (by decide +kernel) (Nat.le_of_ble_eq_true rfl) rfl (fun A => ?_)
  refine J_aload_n 0 d_U_init_0 rfl rfl ?_
  refine J_objInit wd_34 (by decide) (by decide) d_U_init_1 ?_
  refine J_aload_n 0 d_U_init_4 rfl rfl ?_
  refine J_iconst d_U_init_5 ?_
  refine pf_U_9 (by omega) hF (Nat.le_of_ble_eq_true rfl) d_U_init_6 ?_
  obtain ⟨G1, hG1⟩ : ∃ G, G = va_up F k (.inr (3, [.int (iI (-1)), .int (iI 0), .null, .null])) := ⟨_, rfl⟩
  refine J_eqF (F2 := G1) hG1.symm ?_
  have hk1 : G1 k = .inr (3, [.int (iI (-1)), .int (iI 0), .null, .null]) := by rw [hG1]; exact va_up_self ..
  have A1 : ∀ j, j < k + 1 → ad j = ad j := fun j hj => rfl
  have B1 : ∀ j, j < k + 1 → j ≠ k → G1 j = F j := fun j hj hjk => by
    rw [hG1, va_up_ne _ _ hjk]
  refine J_aload_n 0 d_U_init_9 rfl rfl ?_
  refine J_new (C := "NumberTower$Natural") (T := F_N) (n := 2) (ci := 2) (fs := [.null, .int (iI 0)]) in_N tt_N tt_N_ok rfl wd_35 wd_36 wd_3 df_N ⟨by decide, by decide⟩ d_U_init_10 (fun b2 h2 => ?_)
  rw [← h2 k (by omega)]
  refine J_dup d_U_init_13 rfl ?_
  refine J_callI cw_U_17 rfl nh_N_init pn_N_init rfl (As := []) (rest := [.ref (b2 (k + 1)), .ref (b2 k)]) rfl (Nat.le_of_ble_eq_true rfl) ⟨by decide, by decide⟩ ⟨by decide, by decide⟩ d_U_init_14 (c_N_init hfl (k := k + 1) (ad := b2) (F := (va_up G1 (k + 1) (.inr (2, [.null, .int (iI 0)])))) (va_up_self ..)) (fun v a2 N2 E2 hq => ?_) (fun _ _ _ _ hq => by obtain ⟨hv, -⟩ := hq; cases hv)
  obtain ⟨hv, hN2, hA2, hE2, hP2a⟩ := hq
  cases hv
  replace hN2 : N2 = k + 3 := by omega
  subst hN2
  rw [← hA2 k (by omega), ← hA2 (k + 1) (by omega)]
  have hk2a : E2 k = .inr (3, [.int (iI (-1)), .int (iI 0), .null, .null]) := (hE2 k (by omega)).trans ((va_up_ne _ _ (by omega)).trans hk1)
  refine pf_U_18 (by omega) hk2a (Nat.le_of_ble_eq_true rfl) rfl (fun _ _ h => h) d_U_init_17 ?_
  obtain ⟨G2, hG2⟩ : ∃ G, G = va_up E2 k (.inr (3, [.int (iI (-1)), .int (iI 0), .ref (a2 (k + 1)), .null])) := ⟨_, rfl⟩
  refine J_eqF (F2 := G2) hG2.symm ?_
  have hk2 : G2 k = .inr (3, [.int (iI (-1)), .int (iI 0), .ref (a2 (k + 1)), .null]) := by rw [hG2]; exact va_up_self ..
  have A2 : ∀ j, j < k + 1 → a2 j = ad j := fun j hj => (hA2 j (by omega)).trans (h2 j (by omega))
  have B2 : ∀ j, j < k + 1 → j ≠ k → G2 j = G1 j := fun j hj hjk => by
    rw [hG2, va_up_ne _ _ hjk]
    exact (hE2 j (by omega)).trans (va_up_ne _ _ (by omega))
  have hP2 : natP g a2 G2 (k + 1) := hP2a.mv (fun _ _ _ => rfl) (fun j q1 q2 => by rw [hG2]; exact va_up_ne _ _ (by omega))
  refine J_aload_n 0 d_U_init_20 rfl rfl ?_
  refine J_new (C := "NumberTower$Natural") (T := F_N) (n := 2) (ci := 2) (fs := [.null, .int (iI 0)]) in_N tt_N tt_N_ok rfl wd_35 wd_36 wd_3 df_N ⟨by decide, by decide⟩ d_U_init_21 (fun b3 h3 => ?_)
  rw [← h3 k (by omega)]
  refine J_dup d_U_init_24 rfl ?_
  refine J_callI cw_U_17 rfl nh_N_init pn_N_init rfl (As := []) (rest := [.ref (b3 (k + 3)), .ref (b3 k)]) rfl (Nat.le_of_ble_eq_true rfl) ⟨by decide, by decide⟩ ⟨by decide, by decide⟩ d_U_init_25 (c_N_init hfl (k := k + 3) (ad := b3) (F := (va_up G2 (k + 3) (.inr (2, [.null, .int (iI 0)])))) (va_up_self ..)) (fun v a3 N3 E3 hq => ?_) (fun _ _ _ _ hq => by obtain ⟨hv, -⟩ := hq; cases hv)
  obtain ⟨hv, hN3, hA3, hE3, hP3a⟩ := hq
  cases hv
  replace hN3 : N3 = k + 5 := by omega
  subst hN3
  rw [← hA3 k (by omega), ← hA3 (k + 3) (by omega)]
  have hk3a : E3 k = .inr (3, [.int (iI (-1)), .int (iI 0), .ref (a2 (k + 1)), .null]) := (hE3 k (by omega)).trans ((va_up_ne _ _ (by omega)).trans hk2)
  refine pf_U_22 (by omega) hk3a (Nat.le_of_ble_eq_true rfl) rfl (fun _ _ h => h) d_U_init_28 ?_
  obtain ⟨G3, hG3⟩ : ∃ G, G = va_up E3 k (.inr (3, [.int (iI (-1)), .int (iI 0), .ref (a2 (k + 1)), .ref (a3 (k + 3))])) := ⟨_, rfl⟩
  refine J_eqF (F2 := G3) hG3.symm ?_
  have hk3 : G3 k = .inr (3, [.int (iI (-1)), .int (iI 0), .ref (a2 (k + 1)), .ref (a3 (k + 3))]) := by rw [hG3]; exact va_up_self ..
  have A3 : ∀ j, j < k + 3 → a3 j = a2 j := fun j hj => (hA3 j (by omega)).trans (h3 j (by omega))
  have B3 : ∀ j, j < k + 3 → j ≠ k → G3 j = G2 j := fun j hj hjk => by
    rw [hG3, va_up_ne _ _ hjk]
    exact (hE3 j (by omega)).trans (va_up_ne _ _ (by omega))
  have hP3 : natP g a3 G3 (k + 3) := hP3a.mv (fun _ _ _ => rfl) (fun j q1 q2 => by rw [hG3]; exact va_up_ne _ _ (by omega))
  refine J_vret rfl d_U_init_31 ⟨by decide, by decide⟩ ?_
  have CA3 : ∀ j, j < k + 5 → a3 j = a3 j := fun _ _ => rfl
  have CB3 : ∀ j, j < k + 5 → j ≠ k → G3 j = G3 j := fun _ _ _ => rfl
  have CA2 : ∀ j, j < k + 3 → a3 j = a2 j := fun j h => (CA3 j (by omega)).trans (A3 j h)
  have CB2 : ∀ j, j < k + 3 → j ≠ k → G3 j = G2 j := fun j h q => (CB3 j (by omega) q).trans (B3 j h q)
  have CA1 : ∀ j, j < k + 1 → a3 j = ad j := fun j h => (CA2 j (by omega)).trans (A2 j h)
  have CB1 : ∀ j, j < k + 1 → j ≠ k → G3 j = G1 j := fun j h q => (CB2 j (by omega) q).trans (B2 j h q)
  have CA0 : ∀ j, j < k + 1 → a3 j = ad j := fun j h => (CA1 j (by omega)).trans (A1 j h)
  have CB0 : ∀ j, j < k + 1 → j ≠ k → G3 j = F j := fun j h q => (CB1 j (by omega) q).trans (B1 j h q)
  exact ⟨rfl, rfl, fun j hj => CA0 j (by omega), fun j hj => CB0 j (by omega) (by omega), by rw [hk3, CA2 (k + 1) (by omega), CA3 (k + 3) (by omega)], (hP2.mv (fun j q1 q2 => CA2 j (by omega)) (fun j q1 q2 => CB2 j (by omega) (by omega))), (hP3.mv (fun j q1 q2 => CA3 j (by omega)) (fun j q1 q2 => CB3 j (by omega) (by omega)))⟩
def dskP (g : Nat → ClassId) (ad : Nat → Nat) (F : Nat → va_E) (k : Nat) : Prop := F k = .inr (1, [.ref (ad (k + 1)), .ref (ad (k + 6)), .ref (ad (k + 11)), .ref (ad (k + 16)), .ref (ad (k + 18)), .ref (ad (k + 20)), .ref (ad (k + 22)), .ref (ad (k + 24)), .ref (ad (k + 26)), .ref (ad (k + 28)), .ref (ad (k + 30))]) ∧ numP g ad F (k + 1) ∧ numP g ad F (k + 6) ∧ numP g ad F (k + 11) ∧ natP g ad F (k + 16) ∧ natP g ad F (k + 18) ∧ natP g ad F (k + 20) ∧ natP g ad F (k + 22) ∧ natP g ad F (k + 24) ∧ natP g ad F (k + 26) ∧ natP g ad F (k + 28) ∧ natP g ad F (k + 30)
theorem dskP.mv {g : Nat → ClassId} {ad ad' : Nat → Nat} {F F' : Nat → va_E} {k : Nat} (h : dskP g ad F k) (hA : ∀ j, k ≤ j → j < k + 32 → ad' j = ad j) (hF : ∀ j, k ≤ j → j < k + 32 → F' j = F j) : dskP g ad' F' k := by
  obtain ⟨h0, h1, h2, h3, h4, h5, h6, h7, h8, h9, h10, h11⟩ := h
  exact ⟨by rw [hF k (by omega) (by omega), h0, hA (k + 1) (by omega) (by omega), hA (k + 6) (by omega) (by omega), hA (k + 11) (by omega) (by omega), hA (k + 16) (by omega) (by omega), hA (k + 18) (by omega) (by omega), hA (k + 20) (by omega) (by omega), hA (k + 22) (by omega) (by omega), hA (k + 24) (by omega) (by omega), hA (k + 26) (by omega) (by omega), hA (k + 28) (by omega) (by omega), hA (k + 30) (by omega) (by omega)], h1.mv (fun j a b => hA j (by omega) (by omega)) (fun j a b => hF j (by omega) (by omega)), h2.mv (fun j a b => hA j (by omega) (by omega)) (fun j a b => hF j (by omega) (by omega)), h3.mv (fun j a b => hA j (by omega) (by omega)) (fun j a b => hF j (by omega) (by omega)), h4.mv (fun j a b => hA j (by omega) (by omega)) (fun j a b => hF j (by omega) (by omega)), h5.mv (fun j a b => hA j (by omega) (by omega)) (fun j a b => hF j (by omega) (by omega)), h6.mv (fun j a b => hA j (by omega) (by omega)) (fun j a b => hF j (by omega) (by omega)), h7.mv (fun j a b => hA j (by omega) (by omega)) (fun j a b => hF j (by omega) (by omega)), h8.mv (fun j a b => hA j (by omega) (by omega)) (fun j a b => hF j (by omega) (by omega)), h9.mv (fun j a b => hA j (by omega) (by omega)) (fun j a b => hF j (by omega) (by omega)), h10.mv (fun j a b => hA j (by omega) (by omega)) (fun j a b => hF j (by omega) (by omega)), h11.mv (fun j a b => hA j (by omega) (by omega)) (fun j a b => hF j (by omega) (by omega))⟩
set_option maxRecDepth 100000 in
set_option maxHeartbeats 4000000 in
theorem c_D_init {l : Launch} (hfl : l.flags = flags0) {D : va_G} {g : Nat → ClassId} {ad : Nat → Nat} {k : Nat} {F : Nat → va_E} (hF : F k = .inr (1, [.null, .null, .null, .null, .null, .null, .null, .null, .null, .null, .null])) :
    JC l y_D_init b_D_init 1 (Option.none : Option FieldType) rn_D (31, 264) D jCl (jTys g) ad (k + 1) F [.ref (ad k)] (jnw ad F k 32 (dskP g)) := by
  refine JC.go hfl (own := "NumberTower$Desk") (lv := [(0, .ref (ad k))]) rfl (by decide +kernel) (Nat.le_of_ble_eq_true rfl) rfl (fun A => ?_)
  refine J_aload_n 0 d_D_init_0 rfl rfl ?_
  refine J_objInit wd_105 (by decide) (by decide) d_D_init_1 ?_
  refine J_aload_n 0 d_D_init_4 rfl rfl ?_
  refine J_new (C := "NumberTower$Num") (T := F_U) (n := 4) (ci := 3) (fs := [.int (iI 0), .int (iI 0), .null, .null]) in_U tt_U tt_U_ok rfl wd_106 wd_30 wd_2 df_U ⟨by decide, by decide⟩ d_D_init_5 (fun b1 h1 => ?_)
  rw [← h1 k (by omega)]
  refine J_dup d_D_init_8 rfl ?_
  refine J_callI cw_D_11 rfl nh_U_init pn_U_init rfl (As := []) (rest := [.ref (b1 (k + 1)), .ref (b1 k)]) rfl (Nat.le_of_ble_eq_true rfl) ⟨by decide, by decide⟩ ⟨by decide, by decide⟩ d_D_init_9 (c_U_init hfl (k := k + 1) (ad := b1) (F := (va_up F (k + 1) (.inr (3, [.int (iI 0), .int (iI 0), .null, .null])))) (va_up_self ..)) (fun v a1 N1 E1 hq => ?_) (fun _ _ _ _ hq => by obtain ⟨hv, -⟩ := hq; cases hv)
  obtain ⟨hv, hN1, hA1, hE1, hP1a⟩ := hq
  cases hv
  replace hN1 : N1 = k + 6 := by omega
  subst hN1
  rw [← hA1 k (by omega), ← hA1 (k + 1) (by omega)]
  have hk1a : E1 k = .inr (1, [.null, .null, .null, .null, .null, .null, .null, .null, .null, .null, .null]) := (hE1 k (by omega)).trans ((va_up_ne _ _ (by omega)).trans hF)
  refine pf_D_12 (by omega) hk1a (Nat.le_of_ble_eq_true rfl) rfl (fun _ _ h => h) d_D_init_12 ?_
  obtain ⟨G1, hG1⟩ : ∃ G, G = va_up E1 k (.inr (1, [.ref (a1 (k + 1)), .null, .null, .null, .null, .null, .null, .null, .null, .null, .null])) := ⟨_, rfl⟩
  refine J_eqF (F2 := G1) hG1.symm ?_
  have hk1 : G1 k = .inr (1, [.ref (a1 (k + 1)), .null, .null, .null, .null, .null, .null, .null, .null, .null, .null]) := by rw [hG1]; exact va_up_self ..
  have A1 : ∀ j, j < k + 1 → a1 j = ad j := fun j hj => (hA1 j (by omega)).trans (h1 j (by omega))
  have B1 : ∀ j, j < k + 1 → j ≠ k → G1 j = F j := fun j hj hjk => by
    rw [hG1, va_up_ne _ _ hjk]
    exact (hE1 j (by omega)).trans (va_up_ne _ _ (by omega))
  have hP1 : numP g a1 G1 (k + 1) := hP1a.mv (fun _ _ _ => rfl) (fun j q1 q2 => by rw [hG1]; exact va_up_ne _ _ (by omega))
  refine J_aload_n 0 d_D_init_15 rfl rfl ?_
  refine J_new (C := "NumberTower$Num") (T := F_U) (n := 4) (ci := 3) (fs := [.int (iI 0), .int (iI 0), .null, .null]) in_U tt_U tt_U_ok rfl wd_106 wd_30 wd_2 df_U ⟨by decide, by decide⟩ d_D_init_16 (fun b2 h2 => ?_)
  rw [← h2 k (by omega)]
  refine J_dup d_D_init_19 rfl ?_
  refine J_callI cw_D_11 rfl nh_U_init pn_U_init rfl (As := []) (rest := [.ref (b2 (k + 6)), .ref (b2 k)]) rfl (Nat.le_of_ble_eq_true rfl) ⟨by decide, by decide⟩ ⟨by decide, by decide⟩ d_D_init_20 (c_U_init hfl (k := k + 6) (ad := b2) (F := (va_up G1 (k + 6) (.inr (3, [.int (iI 0), .int (iI 0), .null, .null])))) (va_up_self ..)) (fun v a2 N2 E2 hq => ?_) (fun _ _ _ _ hq => by obtain ⟨hv, -⟩ := hq; cases hv)
  obtain ⟨hv, hN2, hA2, hE2, hP2a⟩ := hq
  cases hv
  replace hN2 : N2 = k + 11 := by omega
  subst hN2
  rw [← hA2 k (by omega), ← hA2 (k + 6) (by omega)]
  have hk2a : E2 k = .inr (1, [.ref (a1 (k + 1)), .null, .null, .null, .null, .null, .null, .null, .null, .null, .null]) := (hE2 k (by omega)).trans ((va_up_ne _ _ (by omega)).trans hk1)
  refine pf_D_18 (by omega) hk2a (Nat.le_of_ble_eq_true rfl) rfl (fun _ _ h => h) d_D_init_23 ?_
  obtain ⟨G2, hG2⟩ : ∃ G, G = va_up E2 k (.inr (1, [.ref (a1 (k + 1)), .ref (a2 (k + 6)), .null, .null, .null, .null, .null, .null, .null, .null, .null])) := ⟨_, rfl⟩
  refine J_eqF (F2 := G2) hG2.symm ?_
  have hk2 : G2 k = .inr (1, [.ref (a1 (k + 1)), .ref (a2 (k + 6)), .null, .null, .null, .null, .null, .null, .null, .null, .null]) := by rw [hG2]; exact va_up_self ..
  have A2 : ∀ j, j < k + 6 → a2 j = a1 j := fun j hj => (hA2 j (by omega)).trans (h2 j (by omega))
  have B2 : ∀ j, j < k + 6 → j ≠ k → G2 j = G1 j := fun j hj hjk => by
    rw [hG2, va_up_ne _ _ hjk]
    exact (hE2 j (by omega)).trans (va_up_ne _ _ (by omega))
  have hP2 : numP g a2 G2 (k + 6) := hP2a.mv (fun _ _ _ => rfl) (fun j q1 q2 => by rw [hG2]; exact va_up_ne _ _ (by omega))
  refine J_aload_n 0 d_D_init_26 rfl rfl ?_
  refine J_new (C := "NumberTower$Num") (T := F_U) (n := 4) (ci := 3) (fs := [.int (iI 0), .int (iI 0), .null, .null]) in_U tt_U tt_U_ok rfl wd_106 wd_30 wd_2 df_U ⟨by decide, by decide⟩ d_D_init_27 (fun b3 h3 => ?_)
  rw [← h3 k (by omega)]
  refine J_dup d_D_init_30 rfl ?_
  refine J_callI cw_D_11 rfl nh_U_init pn_U_init rfl (As := []) (rest := [.ref (b3 (k + 11)), .ref (b3 k)]) rfl (Nat.le_of_ble_eq_true rfl) ⟨by decide, by decide⟩ ⟨by decide, by decide⟩ d_D_init_31 (c_U_init hfl (k := k + 11) (ad := b3) (F := (va_up G2 (k + 11) (.inr (3, [.int (iI 0), .int (iI 0), .null, .null])))) (va_up_self ..)) (fun v a3 N3 E3 hq => ?_) (fun _ _ _ _ hq => by obtain ⟨hv, -⟩ := hq; cases hv)
  obtain ⟨hv, hN3, hA3, hE3, hP3a⟩ := hq
  cases hv
  replace hN3 : N3 = k + 16 := by omega
  subst hN3
  rw [← hA3 k (by omega), ← hA3 (k + 11) (by omega)]
  have hk3a : E3 k = .inr (1, [.ref (a1 (k + 1)), .ref (a2 (k + 6)), .null, .null, .null, .null, .null, .null, .null, .null, .null]) := (hE3 k (by omega)).trans ((va_up_ne _ _ (by omega)).trans hk2)
  refine pf_D_21 (by omega) hk3a (Nat.le_of_ble_eq_true rfl) rfl (fun _ _ h => h) d_D_init_34 ?_
  obtain ⟨G3, hG3⟩ : ∃ G, G = va_up E3 k (.inr (1, [.ref (a1 (k + 1)), .ref (a2 (k + 6)), .ref (a3 (k + 11)), .null, .null, .null, .null, .null, .null, .null, .null])) := ⟨_, rfl⟩
  refine J_eqF (F2 := G3) hG3.symm ?_
  have hk3 : G3 k = .inr (1, [.ref (a1 (k + 1)), .ref (a2 (k + 6)), .ref (a3 (k + 11)), .null, .null, .null, .null, .null, .null, .null, .null]) := by rw [hG3]; exact va_up_self ..
  have A3 : ∀ j, j < k + 11 → a3 j = a2 j := fun j hj => (hA3 j (by omega)).trans (h3 j (by omega))
  have B3 : ∀ j, j < k + 11 → j ≠ k → G3 j = G2 j := fun j hj hjk => by
    rw [hG3, va_up_ne _ _ hjk]
    exact (hE3 j (by omega)).trans (va_up_ne _ _ (by omega))
  have hP3 : numP g a3 G3 (k + 11) := hP3a.mv (fun _ _ _ => rfl) (fun j q1 q2 => by rw [hG3]; exact va_up_ne _ _ (by omega))
  refine J_aload_n 0 d_D_init_37 rfl rfl ?_
  refine J_new (C := "NumberTower$Natural") (T := F_N) (n := 2) (ci := 2) (fs := [.null, .int (iI 0)]) in_N tt_N tt_N_ok rfl wd_108 wd_36 wd_3 df_N ⟨by decide, by decide⟩ d_D_init_38 (fun b4 h4 => ?_)
  rw [← h4 k (by omega)]
  refine J_dup d_D_init_41 rfl ?_
  refine J_callI cw_D_26 rfl nh_N_init pn_N_init rfl (As := []) (rest := [.ref (b4 (k + 16)), .ref (b4 k)]) rfl (Nat.le_of_ble_eq_true rfl) ⟨by decide, by decide⟩ ⟨by decide, by decide⟩ d_D_init_42 (c_N_init hfl (k := k + 16) (ad := b4) (F := (va_up G3 (k + 16) (.inr (2, [.null, .int (iI 0)])))) (va_up_self ..)) (fun v a4 N4 E4 hq => ?_) (fun _ _ _ _ hq => by obtain ⟨hv, -⟩ := hq; cases hv)
  obtain ⟨hv, hN4, hA4, hE4, hP4a⟩ := hq
  cases hv
  replace hN4 : N4 = k + 18 := by omega
  subst hN4
  rw [← hA4 k (by omega), ← hA4 (k + 16) (by omega)]
  have hk4a : E4 k = .inr (1, [.ref (a1 (k + 1)), .ref (a2 (k + 6)), .ref (a3 (k + 11)), .null, .null, .null, .null, .null, .null, .null, .null]) := (hE4 k (by omega)).trans ((va_up_ne _ _ (by omega)).trans hk3)
  refine pf_D_27 (by omega) hk4a (Nat.le_of_ble_eq_true rfl) rfl (fun _ _ h => h) d_D_init_45 ?_
  obtain ⟨G4, hG4⟩ : ∃ G, G = va_up E4 k (.inr (1, [.ref (a1 (k + 1)), .ref (a2 (k + 6)), .ref (a3 (k + 11)), .ref (a4 (k + 16)), .null, .null, .null, .null, .null, .null, .null])) := ⟨_, rfl⟩
  refine J_eqF (F2 := G4) hG4.symm ?_
  have hk4 : G4 k = .inr (1, [.ref (a1 (k + 1)), .ref (a2 (k + 6)), .ref (a3 (k + 11)), .ref (a4 (k + 16)), .null, .null, .null, .null, .null, .null, .null]) := by rw [hG4]; exact va_up_self ..
  have A4 : ∀ j, j < k + 16 → a4 j = a3 j := fun j hj => (hA4 j (by omega)).trans (h4 j (by omega))
  have B4 : ∀ j, j < k + 16 → j ≠ k → G4 j = G3 j := fun j hj hjk => by
    rw [hG4, va_up_ne _ _ hjk]
    exact (hE4 j (by omega)).trans (va_up_ne _ _ (by omega))
  have hP4 : natP g a4 G4 (k + 16) := hP4a.mv (fun _ _ _ => rfl) (fun j q1 q2 => by rw [hG4]; exact va_up_ne _ _ (by omega))
  refine J_aload_n 0 d_D_init_48 rfl rfl ?_
  refine J_new (C := "NumberTower$Natural") (T := F_N) (n := 2) (ci := 2) (fs := [.null, .int (iI 0)]) in_N tt_N tt_N_ok rfl wd_108 wd_36 wd_3 df_N ⟨by decide, by decide⟩ d_D_init_49 (fun b5 h5 => ?_)
  rw [← h5 k (by omega)]
  refine J_dup d_D_init_52 rfl ?_
  refine J_callI cw_D_26 rfl nh_N_init pn_N_init rfl (As := []) (rest := [.ref (b5 (k + 18)), .ref (b5 k)]) rfl (Nat.le_of_ble_eq_true rfl) ⟨by decide, by decide⟩ ⟨by decide, by decide⟩ d_D_init_53 (c_N_init hfl (k := k + 18) (ad := b5) (F := (va_up G4 (k + 18) (.inr (2, [.null, .int (iI 0)])))) (va_up_self ..)) (fun v a5 N5 E5 hq => ?_) (fun _ _ _ _ hq => by obtain ⟨hv, -⟩ := hq; cases hv)
  obtain ⟨hv, hN5, hA5, hE5, hP5a⟩ := hq
  cases hv
  replace hN5 : N5 = k + 20 := by omega
  subst hN5
  rw [← hA5 k (by omega), ← hA5 (k + 18) (by omega)]
  have hk5a : E5 k = .inr (1, [.ref (a1 (k + 1)), .ref (a2 (k + 6)), .ref (a3 (k + 11)), .ref (a4 (k + 16)), .null, .null, .null, .null, .null, .null, .null]) := (hE5 k (by omega)).trans ((va_up_ne _ _ (by omega)).trans hk4)
  refine pf_D_31 (by omega) hk5a (Nat.le_of_ble_eq_true rfl) rfl (fun _ _ h => h) d_D_init_56 ?_
  obtain ⟨G5, hG5⟩ : ∃ G, G = va_up E5 k (.inr (1, [.ref (a1 (k + 1)), .ref (a2 (k + 6)), .ref (a3 (k + 11)), .ref (a4 (k + 16)), .ref (a5 (k + 18)), .null, .null, .null, .null, .null, .null])) := ⟨_, rfl⟩
  refine J_eqF (F2 := G5) hG5.symm ?_
  have hk5 : G5 k = .inr (1, [.ref (a1 (k + 1)), .ref (a2 (k + 6)), .ref (a3 (k + 11)), .ref (a4 (k + 16)), .ref (a5 (k + 18)), .null, .null, .null, .null, .null, .null]) := by rw [hG5]; exact va_up_self ..
  have A5 : ∀ j, j < k + 18 → a5 j = a4 j := fun j hj => (hA5 j (by omega)).trans (h5 j (by omega))
  have B5 : ∀ j, j < k + 18 → j ≠ k → G5 j = G4 j := fun j hj hjk => by
    rw [hG5, va_up_ne _ _ hjk]
    exact (hE5 j (by omega)).trans (va_up_ne _ _ (by omega))
  have hP5 : natP g a5 G5 (k + 18) := hP5a.mv (fun _ _ _ => rfl) (fun j q1 q2 => by rw [hG5]; exact va_up_ne _ _ (by omega))
  refine J_aload_n 0 d_D_init_59 rfl rfl ?_
  refine J_new (C := "NumberTower$Natural") (T := F_N) (n := 2) (ci := 2) (fs := [.null, .int (iI 0)]) in_N tt_N tt_N_ok rfl wd_108 wd_36 wd_3 df_N ⟨by decide, by decide⟩ d_D_init_60 (fun b6 h6 => ?_)
  rw [← h6 k (by omega)]
  refine J_dup d_D_init_63 rfl ?_
  refine J_callI cw_D_26 rfl nh_N_init pn_N_init rfl (As := []) (rest := [.ref (b6 (k + 20)), .ref (b6 k)]) rfl (Nat.le_of_ble_eq_true rfl) ⟨by decide, by decide⟩ ⟨by decide, by decide⟩ d_D_init_64 (c_N_init hfl (k := k + 20) (ad := b6) (F := (va_up G5 (k + 20) (.inr (2, [.null, .int (iI 0)])))) (va_up_self ..)) (fun v a6 N6 E6 hq => ?_) (fun _ _ _ _ hq => by obtain ⟨hv, -⟩ := hq; cases hv)
  obtain ⟨hv, hN6, hA6, hE6, hP6a⟩ := hq
  cases hv
  replace hN6 : N6 = k + 22 := by omega
  subst hN6
  rw [← hA6 k (by omega), ← hA6 (k + 20) (by omega)]
  have hk6a : E6 k = .inr (1, [.ref (a1 (k + 1)), .ref (a2 (k + 6)), .ref (a3 (k + 11)), .ref (a4 (k + 16)), .ref (a5 (k + 18)), .null, .null, .null, .null, .null, .null]) := (hE6 k (by omega)).trans ((va_up_ne _ _ (by omega)).trans hk5)
  refine pf_D_34 (by omega) hk6a (Nat.le_of_ble_eq_true rfl) rfl (fun _ _ h => h) d_D_init_67 ?_
  obtain ⟨G6, hG6⟩ : ∃ G, G = va_up E6 k (.inr (1, [.ref (a1 (k + 1)), .ref (a2 (k + 6)), .ref (a3 (k + 11)), .ref (a4 (k + 16)), .ref (a5 (k + 18)), .ref (a6 (k + 20)), .null, .null, .null, .null, .null])) := ⟨_, rfl⟩
  refine J_eqF (F2 := G6) hG6.symm ?_
  have hk6 : G6 k = .inr (1, [.ref (a1 (k + 1)), .ref (a2 (k + 6)), .ref (a3 (k + 11)), .ref (a4 (k + 16)), .ref (a5 (k + 18)), .ref (a6 (k + 20)), .null, .null, .null, .null, .null]) := by rw [hG6]; exact va_up_self ..
  have A6 : ∀ j, j < k + 20 → a6 j = a5 j := fun j hj => (hA6 j (by omega)).trans (h6 j (by omega))
  have B6 : ∀ j, j < k + 20 → j ≠ k → G6 j = G5 j := fun j hj hjk => by
    rw [hG6, va_up_ne _ _ hjk]
    exact (hE6 j (by omega)).trans (va_up_ne _ _ (by omega))
  have hP6 : natP g a6 G6 (k + 20) := hP6a.mv (fun _ _ _ => rfl) (fun j q1 q2 => by rw [hG6]; exact va_up_ne _ _ (by omega))
  refine J_aload_n 0 d_D_init_70 rfl rfl ?_
  refine J_new (C := "NumberTower$Natural") (T := F_N) (n := 2) (ci := 2) (fs := [.null, .int (iI 0)]) in_N tt_N tt_N_ok rfl wd_108 wd_36 wd_3 df_N ⟨by decide, by decide⟩ d_D_init_71 (fun b7 h7 => ?_)
  rw [← h7 k (by omega)]
  refine J_dup d_D_init_74 rfl ?_
  refine J_callI cw_D_26 rfl nh_N_init pn_N_init rfl (As := []) (rest := [.ref (b7 (k + 22)), .ref (b7 k)]) rfl (Nat.le_of_ble_eq_true rfl) ⟨by decide, by decide⟩ ⟨by decide, by decide⟩ d_D_init_75 (c_N_init hfl (k := k + 22) (ad := b7) (F := (va_up G6 (k + 22) (.inr (2, [.null, .int (iI 0)])))) (va_up_self ..)) (fun v a7 N7 E7 hq => ?_) (fun _ _ _ _ hq => by obtain ⟨hv, -⟩ := hq; cases hv)
  obtain ⟨hv, hN7, hA7, hE7, hP7a⟩ := hq
  cases hv
  replace hN7 : N7 = k + 24 := by omega
  subst hN7
  rw [← hA7 k (by omega), ← hA7 (k + 22) (by omega)]
  have hk7a : E7 k = .inr (1, [.ref (a1 (k + 1)), .ref (a2 (k + 6)), .ref (a3 (k + 11)), .ref (a4 (k + 16)), .ref (a5 (k + 18)), .ref (a6 (k + 20)), .null, .null, .null, .null, .null]) := (hE7 k (by omega)).trans ((va_up_ne _ _ (by omega)).trans hk6)
  refine pf_D_37 (by omega) hk7a (Nat.le_of_ble_eq_true rfl) rfl (fun _ _ h => h) d_D_init_78 ?_
  obtain ⟨G7, hG7⟩ : ∃ G, G = va_up E7 k (.inr (1, [.ref (a1 (k + 1)), .ref (a2 (k + 6)), .ref (a3 (k + 11)), .ref (a4 (k + 16)), .ref (a5 (k + 18)), .ref (a6 (k + 20)), .ref (a7 (k + 22)), .null, .null, .null, .null])) := ⟨_, rfl⟩
  refine J_eqF (F2 := G7) hG7.symm ?_
  have hk7 : G7 k = .inr (1, [.ref (a1 (k + 1)), .ref (a2 (k + 6)), .ref (a3 (k + 11)), .ref (a4 (k + 16)), .ref (a5 (k + 18)), .ref (a6 (k + 20)), .ref (a7 (k + 22)), .null, .null, .null, .null]) := by rw [hG7]; exact va_up_self ..
  have A7 : ∀ j, j < k + 22 → a7 j = a6 j := fun j hj => (hA7 j (by omega)).trans (h7 j (by omega))
  have B7 : ∀ j, j < k + 22 → j ≠ k → G7 j = G6 j := fun j hj hjk => by
    rw [hG7, va_up_ne _ _ hjk]
    exact (hE7 j (by omega)).trans (va_up_ne _ _ (by omega))
  have hP7 : natP g a7 G7 (k + 22) := hP7a.mv (fun _ _ _ => rfl) (fun j q1 q2 => by rw [hG7]; exact va_up_ne _ _ (by omega))
  refine J_aload_n 0 d_D_init_81 rfl rfl ?_
  refine J_new (C := "NumberTower$Natural") (T := F_N) (n := 2) (ci := 2) (fs := [.null, .int (iI 0)]) in_N tt_N tt_N_ok rfl wd_108 wd_36 wd_3 df_N ⟨by decide, by decide⟩ d_D_init_82 (fun b8 h8 => ?_)
  rw [← h8 k (by omega)]
  refine J_dup d_D_init_85 rfl ?_
  refine J_callI cw_D_26 rfl nh_N_init pn_N_init rfl (As := []) (rest := [.ref (b8 (k + 24)), .ref (b8 k)]) rfl (Nat.le_of_ble_eq_true rfl) ⟨by decide, by decide⟩ ⟨by decide, by decide⟩ d_D_init_86 (c_N_init hfl (k := k + 24) (ad := b8) (F := (va_up G7 (k + 24) (.inr (2, [.null, .int (iI 0)])))) (va_up_self ..)) (fun v a8 N8 E8 hq => ?_) (fun _ _ _ _ hq => by obtain ⟨hv, -⟩ := hq; cases hv)
  obtain ⟨hv, hN8, hA8, hE8, hP8a⟩ := hq
  cases hv
  replace hN8 : N8 = k + 26 := by omega
  subst hN8
  rw [← hA8 k (by omega), ← hA8 (k + 24) (by omega)]
  have hk8a : E8 k = .inr (1, [.ref (a1 (k + 1)), .ref (a2 (k + 6)), .ref (a3 (k + 11)), .ref (a4 (k + 16)), .ref (a5 (k + 18)), .ref (a6 (k + 20)), .ref (a7 (k + 22)), .null, .null, .null, .null]) := (hE8 k (by omega)).trans ((va_up_ne _ _ (by omega)).trans hk7)
  refine pf_D_40 (by omega) hk8a (Nat.le_of_ble_eq_true rfl) rfl (fun _ _ h => h) d_D_init_89 ?_
  obtain ⟨G8, hG8⟩ : ∃ G, G = va_up E8 k (.inr (1, [.ref (a1 (k + 1)), .ref (a2 (k + 6)), .ref (a3 (k + 11)), .ref (a4 (k + 16)), .ref (a5 (k + 18)), .ref (a6 (k + 20)), .ref (a7 (k + 22)), .ref (a8 (k + 24)), .null, .null, .null])) := ⟨_, rfl⟩
  refine J_eqF (F2 := G8) hG8.symm ?_
  have hk8 : G8 k = .inr (1, [.ref (a1 (k + 1)), .ref (a2 (k + 6)), .ref (a3 (k + 11)), .ref (a4 (k + 16)), .ref (a5 (k + 18)), .ref (a6 (k + 20)), .ref (a7 (k + 22)), .ref (a8 (k + 24)), .null, .null, .null]) := by rw [hG8]; exact va_up_self ..
  have A8 : ∀ j, j < k + 24 → a8 j = a7 j := fun j hj => (hA8 j (by omega)).trans (h8 j (by omega))
  have B8 : ∀ j, j < k + 24 → j ≠ k → G8 j = G7 j := fun j hj hjk => by
    rw [hG8, va_up_ne _ _ hjk]
    exact (hE8 j (by omega)).trans (va_up_ne _ _ (by omega))
  have hP8 : natP g a8 G8 (k + 24) := hP8a.mv (fun _ _ _ => rfl) (fun j q1 q2 => by rw [hG8]; exact va_up_ne _ _ (by omega))
  refine J_aload_n 0 d_D_init_92 rfl rfl ?_
  refine J_new (C := "NumberTower$Natural") (T := F_N) (n := 2) (ci := 2) (fs := [.null, .int (iI 0)]) in_N tt_N tt_N_ok rfl wd_108 wd_36 wd_3 df_N ⟨by decide, by decide⟩ d_D_init_93 (fun b9 h9 => ?_)
  rw [← h9 k (by omega)]
  refine J_dup d_D_init_96 rfl ?_
  refine J_callI cw_D_26 rfl nh_N_init pn_N_init rfl (As := []) (rest := [.ref (b9 (k + 26)), .ref (b9 k)]) rfl (Nat.le_of_ble_eq_true rfl) ⟨by decide, by decide⟩ ⟨by decide, by decide⟩ d_D_init_97 (c_N_init hfl (k := k + 26) (ad := b9) (F := (va_up G8 (k + 26) (.inr (2, [.null, .int (iI 0)])))) (va_up_self ..)) (fun v a9 N9 E9 hq => ?_) (fun _ _ _ _ hq => by obtain ⟨hv, -⟩ := hq; cases hv)
  obtain ⟨hv, hN9, hA9, hE9, hP9a⟩ := hq
  cases hv
  replace hN9 : N9 = k + 28 := by omega
  subst hN9
  rw [← hA9 k (by omega), ← hA9 (k + 26) (by omega)]
  have hk9a : E9 k = .inr (1, [.ref (a1 (k + 1)), .ref (a2 (k + 6)), .ref (a3 (k + 11)), .ref (a4 (k + 16)), .ref (a5 (k + 18)), .ref (a6 (k + 20)), .ref (a7 (k + 22)), .ref (a8 (k + 24)), .null, .null, .null]) := (hE9 k (by omega)).trans ((va_up_ne _ _ (by omega)).trans hk8)
  refine pf_D_43 (by omega) hk9a (Nat.le_of_ble_eq_true rfl) rfl (fun _ _ h => h) d_D_init_100 ?_
  obtain ⟨G9, hG9⟩ : ∃ G, G = va_up E9 k (.inr (1, [.ref (a1 (k + 1)), .ref (a2 (k + 6)), .ref (a3 (k + 11)), .ref (a4 (k + 16)), .ref (a5 (k + 18)), .ref (a6 (k + 20)), .ref (a7 (k + 22)), .ref (a8 (k + 24)), .ref (a9 (k + 26)), .null, .null])) := ⟨_, rfl⟩
  refine J_eqF (F2 := G9) hG9.symm ?_
  have hk9 : G9 k = .inr (1, [.ref (a1 (k + 1)), .ref (a2 (k + 6)), .ref (a3 (k + 11)), .ref (a4 (k + 16)), .ref (a5 (k + 18)), .ref (a6 (k + 20)), .ref (a7 (k + 22)), .ref (a8 (k + 24)), .ref (a9 (k + 26)), .null, .null]) := by rw [hG9]; exact va_up_self ..
  have A9 : ∀ j, j < k + 26 → a9 j = a8 j := fun j hj => (hA9 j (by omega)).trans (h9 j (by omega))
  have B9 : ∀ j, j < k + 26 → j ≠ k → G9 j = G8 j := fun j hj hjk => by
    rw [hG9, va_up_ne _ _ hjk]
    exact (hE9 j (by omega)).trans (va_up_ne _ _ (by omega))
  have hP9 : natP g a9 G9 (k + 26) := hP9a.mv (fun _ _ _ => rfl) (fun j q1 q2 => by rw [hG9]; exact va_up_ne _ _ (by omega))
  refine J_aload_n 0 d_D_init_103 rfl rfl ?_
  refine J_new (C := "NumberTower$Natural") (T := F_N) (n := 2) (ci := 2) (fs := [.null, .int (iI 0)]) in_N tt_N tt_N_ok rfl wd_108 wd_36 wd_3 df_N ⟨by decide, by decide⟩ d_D_init_104 (fun b10 h10 => ?_)
  rw [← h10 k (by omega)]
  refine J_dup d_D_init_107 rfl ?_
  refine J_callI cw_D_26 rfl nh_N_init pn_N_init rfl (As := []) (rest := [.ref (b10 (k + 28)), .ref (b10 k)]) rfl (Nat.le_of_ble_eq_true rfl) ⟨by decide, by decide⟩ ⟨by decide, by decide⟩ d_D_init_108 (c_N_init hfl (k := k + 28) (ad := b10) (F := (va_up G9 (k + 28) (.inr (2, [.null, .int (iI 0)])))) (va_up_self ..)) (fun v a10 N10 E10 hq => ?_) (fun _ _ _ _ hq => by obtain ⟨hv, -⟩ := hq; cases hv)
  obtain ⟨hv, hN10, hA10, hE10, hP10a⟩ := hq
  cases hv
  replace hN10 : N10 = k + 30 := by omega
  subst hN10
  rw [← hA10 k (by omega), ← hA10 (k + 28) (by omega)]
  have hk10a : E10 k = .inr (1, [.ref (a1 (k + 1)), .ref (a2 (k + 6)), .ref (a3 (k + 11)), .ref (a4 (k + 16)), .ref (a5 (k + 18)), .ref (a6 (k + 20)), .ref (a7 (k + 22)), .ref (a8 (k + 24)), .ref (a9 (k + 26)), .null, .null]) := (hE10 k (by omega)).trans ((va_up_ne _ _ (by omega)).trans hk9)
  refine pf_D_46 (by omega) hk10a (Nat.le_of_ble_eq_true rfl) rfl (fun _ _ h => h) d_D_init_111 ?_
  obtain ⟨G10, hG10⟩ : ∃ G, G = va_up E10 k (.inr (1, [.ref (a1 (k + 1)), .ref (a2 (k + 6)), .ref (a3 (k + 11)), .ref (a4 (k + 16)), .ref (a5 (k + 18)), .ref (a6 (k + 20)), .ref (a7 (k + 22)), .ref (a8 (k + 24)), .ref (a9 (k + 26)), .ref (a10 (k + 28)), .null])) := ⟨_, rfl⟩
  refine J_eqF (F2 := G10) hG10.symm ?_
  have hk10 : G10 k = .inr (1, [.ref (a1 (k + 1)), .ref (a2 (k + 6)), .ref (a3 (k + 11)), .ref (a4 (k + 16)), .ref (a5 (k + 18)), .ref (a6 (k + 20)), .ref (a7 (k + 22)), .ref (a8 (k + 24)), .ref (a9 (k + 26)), .ref (a10 (k + 28)), .null]) := by rw [hG10]; exact va_up_self ..
  have A10 : ∀ j, j < k + 28 → a10 j = a9 j := fun j hj => (hA10 j (by omega)).trans (h10 j (by omega))
  have B10 : ∀ j, j < k + 28 → j ≠ k → G10 j = G9 j := fun j hj hjk => by
    rw [hG10, va_up_ne _ _ hjk]
    exact (hE10 j (by omega)).trans (va_up_ne _ _ (by omega))
  have hP10 : natP g a10 G10 (k + 28) := hP10a.mv (fun _ _ _ => rfl) (fun j q1 q2 => by rw [hG10]; exact va_up_ne _ _ (by omega))
  refine J_aload_n 0 d_D_init_114 rfl rfl ?_
  refine J_new (C := "NumberTower$Natural") (T := F_N) (n := 2) (ci := 2) (fs := [.null, .int (iI 0)]) in_N tt_N tt_N_ok rfl wd_108 wd_36 wd_3 df_N ⟨by decide, by decide⟩ d_D_init_115 (fun b11 h11 => ?_)
  rw [← h11 k (by omega)]
  refine J_dup d_D_init_118 rfl ?_
  refine J_callI cw_D_26 rfl nh_N_init pn_N_init rfl (As := []) (rest := [.ref (b11 (k + 30)), .ref (b11 k)]) rfl (Nat.le_of_ble_eq_true rfl) ⟨by decide, by decide⟩ ⟨by decide, by decide⟩ d_D_init_119 (c_N_init hfl (k := k + 30) (ad := b11) (F := (va_up G10 (k + 30) (.inr (2, [.null, .int (iI 0)])))) (va_up_self ..)) (fun v a11 N11 E11 hq => ?_) (fun _ _ _ _ hq => by obtain ⟨hv, -⟩ := hq; cases hv)
  obtain ⟨hv, hN11, hA11, hE11, hP11a⟩ := hq
  cases hv
  replace hN11 : N11 = k + 32 := by omega
  subst hN11
  rw [← hA11 k (by omega), ← hA11 (k + 30) (by omega)]
  have hk11a : E11 k = .inr (1, [.ref (a1 (k + 1)), .ref (a2 (k + 6)), .ref (a3 (k + 11)), .ref (a4 (k + 16)), .ref (a5 (k + 18)), .ref (a6 (k + 20)), .ref (a7 (k + 22)), .ref (a8 (k + 24)), .ref (a9 (k + 26)), .ref (a10 (k + 28)), .null]) := (hE11 k (by omega)).trans ((va_up_ne _ _ (by omega)).trans hk10)
  refine pf_D_49 (by omega) hk11a (Nat.le_of_ble_eq_true rfl) rfl (fun _ _ h => h) d_D_init_122 ?_
  obtain ⟨G11, hG11⟩ : ∃ G, G = va_up E11 k (.inr (1, [.ref (a1 (k + 1)), .ref (a2 (k + 6)), .ref (a3 (k + 11)), .ref (a4 (k + 16)), .ref (a5 (k + 18)), .ref (a6 (k + 20)), .ref (a7 (k + 22)), .ref (a8 (k + 24)), .ref (a9 (k + 26)), .ref (a10 (k + 28)), .ref (a11 (k + 30))])) := ⟨_, rfl⟩
  refine J_eqF (F2 := G11) hG11.symm ?_
  have hk11 : G11 k = .inr (1, [.ref (a1 (k + 1)), .ref (a2 (k + 6)), .ref (a3 (k + 11)), .ref (a4 (k + 16)), .ref (a5 (k + 18)), .ref (a6 (k + 20)), .ref (a7 (k + 22)), .ref (a8 (k + 24)), .ref (a9 (k + 26)), .ref (a10 (k + 28)), .ref (a11 (k + 30))]) := by rw [hG11]; exact va_up_self ..
  have A11 : ∀ j, j < k + 30 → a11 j = a10 j := fun j hj => (hA11 j (by omega)).trans (h11 j (by omega))
  have B11 : ∀ j, j < k + 30 → j ≠ k → G11 j = G10 j := fun j hj hjk => by
    rw [hG11, va_up_ne _ _ hjk]
    exact (hE11 j (by omega)).trans (va_up_ne _ _ (by omega))
  have hP11 : natP g a11 G11 (k + 30) := hP11a.mv (fun _ _ _ => rfl) (fun j q1 q2 => by rw [hG11]; exact va_up_ne _ _ (by omega))
  refine J_vret rfl d_D_init_125 ⟨by decide, by decide⟩ ?_
  have CA11 : ∀ j, j < k + 32 → a11 j = a11 j := fun _ _ => rfl
  have CB11 : ∀ j, j < k + 32 → j ≠ k → G11 j = G11 j := fun _ _ _ => rfl
  have CA10 : ∀ j, j < k + 30 → a11 j = a10 j := fun j h => (CA11 j (by omega)).trans (A11 j h)
  have CB10 : ∀ j, j < k + 30 → j ≠ k → G11 j = G10 j := fun j h q => (CB11 j (by omega) q).trans (B11 j h q)
  have CA9 : ∀ j, j < k + 28 → a11 j = a9 j := fun j h => (CA10 j (by omega)).trans (A10 j h)
  have CB9 : ∀ j, j < k + 28 → j ≠ k → G11 j = G9 j := fun j h q => (CB10 j (by omega) q).trans (B10 j h q)
  have CA8 : ∀ j, j < k + 26 → a11 j = a8 j := fun j h => (CA9 j (by omega)).trans (A9 j h)
  have CB8 : ∀ j, j < k + 26 → j ≠ k → G11 j = G8 j := fun j h q => (CB9 j (by omega) q).trans (B9 j h q)
  have CA7 : ∀ j, j < k + 24 → a11 j = a7 j := fun j h => (CA8 j (by omega)).trans (A8 j h)
  have CB7 : ∀ j, j < k + 24 → j ≠ k → G11 j = G7 j := fun j h q => (CB8 j (by omega) q).trans (B8 j h q)
  have CA6 : ∀ j, j < k + 22 → a11 j = a6 j := fun j h => (CA7 j (by omega)).trans (A7 j h)
  have CB6 : ∀ j, j < k + 22 → j ≠ k → G11 j = G6 j := fun j h q => (CB7 j (by omega) q).trans (B7 j h q)
  have CA5 : ∀ j, j < k + 20 → a11 j = a5 j := fun j h => (CA6 j (by omega)).trans (A6 j h)
  have CB5 : ∀ j, j < k + 20 → j ≠ k → G11 j = G5 j := fun j h q => (CB6 j (by omega) q).trans (B6 j h q)
  have CA4 : ∀ j, j < k + 18 → a11 j = a4 j := fun j h => (CA5 j (by omega)).trans (A5 j h)
  have CB4 : ∀ j, j < k + 18 → j ≠ k → G11 j = G4 j := fun j h q => (CB5 j (by omega) q).trans (B5 j h q)
  have CA3 : ∀ j, j < k + 16 → a11 j = a3 j := fun j h => (CA4 j (by omega)).trans (A4 j h)
  have CB3 : ∀ j, j < k + 16 → j ≠ k → G11 j = G3 j := fun j h q => (CB4 j (by omega) q).trans (B4 j h q)
  have CA2 : ∀ j, j < k + 11 → a11 j = a2 j := fun j h => (CA3 j (by omega)).trans (A3 j h)
  have CB2 : ∀ j, j < k + 11 → j ≠ k → G11 j = G2 j := fun j h q => (CB3 j (by omega) q).trans (B3 j h q)
  have CA1 : ∀ j, j < k + 6 → a11 j = a1 j := fun j h => (CA2 j (by omega)).trans (A2 j h)
  have CB1 : ∀ j, j < k + 6 → j ≠ k → G11 j = G1 j := fun j h q => (CB2 j (by omega) q).trans (B2 j h q)
  have CA0 : ∀ j, j < k + 1 → a11 j = ad j := fun j h => (CA1 j (by omega)).trans (A1 j h)
  have CB0 : ∀ j, j < k + 1 → j ≠ k → G11 j = F j := fun j h q => (CB1 j (by omega) q).trans (B1 j h q)
  exact ⟨rfl, rfl, fun j hj => CA0 j (by omega), fun j hj => CB0 j (by omega) (by omega), by rw [hk11, CA1 (k + 1) (by omega), CA2 (k + 6) (by omega), CA3 (k + 11) (by omega), CA4 (k + 16) (by omega), CA5 (k + 18) (by omega), CA6 (k + 20) (by omega), CA7 (k + 22) (by omega), CA8 (k + 24) (by omega), CA9 (k + 26) (by omega), CA10 (k + 28) (by omega), CA11 (k + 30) (by omega)], (hP1.mv (fun j q1 q2 => CA1 j (by omega)) (fun j q1 q2 => CB1 j (by omega) (by omega))), (hP2.mv (fun j q1 q2 => CA2 j (by omega)) (fun j q1 q2 => CB2 j (by omega) (by omega))), (hP3.mv (fun j q1 q2 => CA3 j (by omega)) (fun j q1 q2 => CB3 j (by omega) (by omega))), (hP4.mv (fun j q1 q2 => CA4 j (by omega)) (fun j q1 q2 => CB4 j (by omega) (by omega))), (hP5.mv (fun j q1 q2 => CA5 j (by omega)) (fun j q1 q2 => CB5 j (by omega) (by omega))), (hP6.mv (fun j q1 q2 => CA6 j (by omega)) (fun j q1 q2 => CB6 j (by omega) (by omega))), (hP7.mv (fun j q1 q2 => CA7 j (by omega)) (fun j q1 q2 => CB7 j (by omega) (by omega))), (hP8.mv (fun j q1 q2 => CA8 j (by omega)) (fun j q1 q2 => CB8 j (by omega) (by omega))), (hP9.mv (fun j q1 q2 => CA9 j (by omega)) (fun j q1 q2 => CB9 j (by omega) (by omega))), (hP10.mv (fun j q1 q2 => CA10 j (by omega)) (fun j q1 q2 => CB10 j (by omega) (by omega))), (hP11.mv (fun j q1 q2 => CA11 j (by omega)) (fun j q1 q2 => CB11 j (by omega) (by omega)))⟩
def penP (g : Nat → ClassId) (ad : Nat → Nat) (F : Nat → va_E) (k : Nat) : Prop := F k = .inr (4, [.ref (ad (k + 1)), .ref (ad (k + 3)), .ref (ad (k + 5)), .ref (ad (k + 7)), .ref (ad (k + 9)), .ref (ad (k + 11)), .ref (ad (k + 13)), .int (iI 0)]) ∧ txtP g ad F (k + 1) ∧ txtP g ad F (k + 3) ∧ txtP g ad F (k + 5) ∧ txtP g ad F (k + 7) ∧ natP g ad F (k + 9) ∧ natP g ad F (k + 11) ∧ natP g ad F (k + 13)
theorem penP.mv {g : Nat → ClassId} {ad ad' : Nat → Nat} {F F' : Nat → va_E} {k : Nat} (h : penP g ad F k) (hA : ∀ j, k ≤ j → j < k + 15 → ad' j = ad j) (hF : ∀ j, k ≤ j → j < k + 15 → F' j = F j) : penP g ad' F' k := by
  obtain ⟨h0, h1, h2, h3, h4, h5, h6, h7⟩ := h
  exact ⟨by rw [hF k (by omega) (by omega), h0, hA (k + 1) (by omega) (by omega), hA (k + 3) (by omega) (by omega), hA (k + 5) (by omega) (by omega), hA (k + 7) (by omega) (by omega), hA (k + 9) (by omega) (by omega), hA (k + 11) (by omega) (by omega), hA (k + 13) (by omega) (by omega)], h1.mv (fun j a b => hA j (by omega) (by omega)) (fun j a b => hF j (by omega) (by omega)), h2.mv (fun j a b => hA j (by omega) (by omega)) (fun j a b => hF j (by omega) (by omega)), h3.mv (fun j a b => hA j (by omega) (by omega)) (fun j a b => hF j (by omega) (by omega)), h4.mv (fun j a b => hA j (by omega) (by omega)) (fun j a b => hF j (by omega) (by omega)), h5.mv (fun j a b => hA j (by omega) (by omega)) (fun j a b => hF j (by omega) (by omega)), h6.mv (fun j a b => hA j (by omega) (by omega)) (fun j a b => hF j (by omega) (by omega)), h7.mv (fun j a b => hA j (by omega) (by omega)) (fun j a b => hF j (by omega) (by omega))⟩
set_option maxRecDepth 100000 in
set_option maxHeartbeats 4000000 in
theorem c_P_init {l : Launch} (hfl : l.flags = flags0) {D : va_G} {g : Nat → ClassId} {ad : Nat → Nat} {k : Nat} {F : Nat → va_E} (hF : F k = .inr (4, [.null, .null, .null, .null, .null, .null, .null, .int (iI 0)])) :
    JC l y_P_init b_P_init 1 (Option.none : Option FieldType) rn_P (14, 862) D jCl (jTys g) ad (k + 1) F [.ref (ad k)] (jnw ad F k 15 (penP g)) := by
  refine JC.go hfl (own := "NumberTower$Pen") (lv := [(0, .ref (ad k))]) rfl (by decide +kernel) (Nat.le_of_ble_eq_true rfl) rfl (fun A => ?_)
  refine J_aload_n 0 d_P_init_0 rfl rfl ?_
  refine J_objInit wd_216 (by decide) (by decide) d_P_init_1 ?_
  refine J_aload_n 0 d_P_init_4 rfl rfl ?_
  refine J_new (C := "NumberTower$Text") (T := F_T) (n := 2) (ci := 7) (fs := [.null, .int (iI 0)]) in_T tt_T tt_T_ok rfl wd_217 wd_83 wd_4 df_T ⟨by decide, by decide⟩ d_P_init_5 (fun b1 h1 => ?_)
  rw [← h1 k (by omega)]
  refine J_dup d_P_init_8 rfl ?_
  refine J_callI cw_P_11 rfl nh_T_init pn_T_init rfl (As := []) (rest := [.ref (b1 (k + 1)), .ref (b1 k)]) rfl (Nat.le_of_ble_eq_true rfl) ⟨by decide, by decide⟩ ⟨by decide, by decide⟩ d_P_init_9 (c_T_init hfl (k := k + 1) (ad := b1) (F := (va_up F (k + 1) (.inr (7, [.null, .int (iI 0)])))) (va_up_self ..)) (fun v a1 N1 E1 hq => ?_) (fun _ _ _ _ hq => by obtain ⟨hv, -⟩ := hq; cases hv)
  obtain ⟨hv, hN1, hA1, hE1, hP1a⟩ := hq
  cases hv
  replace hN1 : N1 = k + 3 := by omega
  subst hN1
  rw [← hA1 k (by omega), ← hA1 (k + 1) (by omega)]
  have hk1a : E1 k = .inr (4, [.null, .null, .null, .null, .null, .null, .null, .int (iI 0)]) := (hE1 k (by omega)).trans ((va_up_ne _ _ (by omega)).trans hF)
  refine pf_P_12 (by omega) hk1a (Nat.le_of_ble_eq_true rfl) rfl (fun _ _ h => h) d_P_init_12 ?_
  obtain ⟨G1, hG1⟩ : ∃ G, G = va_up E1 k (.inr (4, [.ref (a1 (k + 1)), .null, .null, .null, .null, .null, .null, .int (iI 0)])) := ⟨_, rfl⟩
  refine J_eqF (F2 := G1) hG1.symm ?_
  have hk1 : G1 k = .inr (4, [.ref (a1 (k + 1)), .null, .null, .null, .null, .null, .null, .int (iI 0)]) := by rw [hG1]; exact va_up_self ..
  have A1 : ∀ j, j < k + 1 → a1 j = ad j := fun j hj => (hA1 j (by omega)).trans (h1 j (by omega))
  have B1 : ∀ j, j < k + 1 → j ≠ k → G1 j = F j := fun j hj hjk => by
    rw [hG1, va_up_ne _ _ hjk]
    exact (hE1 j (by omega)).trans (va_up_ne _ _ (by omega))
  have hP1 : txtP g a1 G1 (k + 1) := hP1a.mv (fun _ _ _ => rfl) (fun j q1 q2 => by rw [hG1]; exact va_up_ne _ _ (by omega))
  refine J_aload_n 0 d_P_init_15 rfl rfl ?_
  refine J_new (C := "NumberTower$Text") (T := F_T) (n := 2) (ci := 7) (fs := [.null, .int (iI 0)]) in_T tt_T tt_T_ok rfl wd_217 wd_83 wd_4 df_T ⟨by decide, by decide⟩ d_P_init_16 (fun b2 h2 => ?_)
  rw [← h2 k (by omega)]
  refine J_dup d_P_init_19 rfl ?_
  refine J_callI cw_P_11 rfl nh_T_init pn_T_init rfl (As := []) (rest := [.ref (b2 (k + 3)), .ref (b2 k)]) rfl (Nat.le_of_ble_eq_true rfl) ⟨by decide, by decide⟩ ⟨by decide, by decide⟩ d_P_init_20 (c_T_init hfl (k := k + 3) (ad := b2) (F := (va_up G1 (k + 3) (.inr (7, [.null, .int (iI 0)])))) (va_up_self ..)) (fun v a2 N2 E2 hq => ?_) (fun _ _ _ _ hq => by obtain ⟨hv, -⟩ := hq; cases hv)
  obtain ⟨hv, hN2, hA2, hE2, hP2a⟩ := hq
  cases hv
  replace hN2 : N2 = k + 5 := by omega
  subst hN2
  rw [← hA2 k (by omega), ← hA2 (k + 3) (by omega)]
  have hk2a : E2 k = .inr (4, [.ref (a1 (k + 1)), .null, .null, .null, .null, .null, .null, .int (iI 0)]) := (hE2 k (by omega)).trans ((va_up_ne _ _ (by omega)).trans hk1)
  refine pf_P_18 (by omega) hk2a (Nat.le_of_ble_eq_true rfl) rfl (fun _ _ h => h) d_P_init_23 ?_
  obtain ⟨G2, hG2⟩ : ∃ G, G = va_up E2 k (.inr (4, [.ref (a1 (k + 1)), .ref (a2 (k + 3)), .null, .null, .null, .null, .null, .int (iI 0)])) := ⟨_, rfl⟩
  refine J_eqF (F2 := G2) hG2.symm ?_
  have hk2 : G2 k = .inr (4, [.ref (a1 (k + 1)), .ref (a2 (k + 3)), .null, .null, .null, .null, .null, .int (iI 0)]) := by rw [hG2]; exact va_up_self ..
  have A2 : ∀ j, j < k + 3 → a2 j = a1 j := fun j hj => (hA2 j (by omega)).trans (h2 j (by omega))
  have B2 : ∀ j, j < k + 3 → j ≠ k → G2 j = G1 j := fun j hj hjk => by
    rw [hG2, va_up_ne _ _ hjk]
    exact (hE2 j (by omega)).trans (va_up_ne _ _ (by omega))
  have hP2 : txtP g a2 G2 (k + 3) := hP2a.mv (fun _ _ _ => rfl) (fun j q1 q2 => by rw [hG2]; exact va_up_ne _ _ (by omega))
  refine J_aload_n 0 d_P_init_26 rfl rfl ?_
  refine J_new (C := "NumberTower$Text") (T := F_T) (n := 2) (ci := 7) (fs := [.null, .int (iI 0)]) in_T tt_T tt_T_ok rfl wd_217 wd_83 wd_4 df_T ⟨by decide, by decide⟩ d_P_init_27 (fun b3 h3 => ?_)
  rw [← h3 k (by omega)]
  refine J_dup d_P_init_30 rfl ?_
  refine J_callI cw_P_11 rfl nh_T_init pn_T_init rfl (As := []) (rest := [.ref (b3 (k + 5)), .ref (b3 k)]) rfl (Nat.le_of_ble_eq_true rfl) ⟨by decide, by decide⟩ ⟨by decide, by decide⟩ d_P_init_31 (c_T_init hfl (k := k + 5) (ad := b3) (F := (va_up G2 (k + 5) (.inr (7, [.null, .int (iI 0)])))) (va_up_self ..)) (fun v a3 N3 E3 hq => ?_) (fun _ _ _ _ hq => by obtain ⟨hv, -⟩ := hq; cases hv)
  obtain ⟨hv, hN3, hA3, hE3, hP3a⟩ := hq
  cases hv
  replace hN3 : N3 = k + 7 := by omega
  subst hN3
  rw [← hA3 k (by omega), ← hA3 (k + 5) (by omega)]
  have hk3a : E3 k = .inr (4, [.ref (a1 (k + 1)), .ref (a2 (k + 3)), .null, .null, .null, .null, .null, .int (iI 0)]) := (hE3 k (by omega)).trans ((va_up_ne _ _ (by omega)).trans hk2)
  refine pf_P_21 (by omega) hk3a (Nat.le_of_ble_eq_true rfl) rfl (fun _ _ h => h) d_P_init_34 ?_
  obtain ⟨G3, hG3⟩ : ∃ G, G = va_up E3 k (.inr (4, [.ref (a1 (k + 1)), .ref (a2 (k + 3)), .ref (a3 (k + 5)), .null, .null, .null, .null, .int (iI 0)])) := ⟨_, rfl⟩
  refine J_eqF (F2 := G3) hG3.symm ?_
  have hk3 : G3 k = .inr (4, [.ref (a1 (k + 1)), .ref (a2 (k + 3)), .ref (a3 (k + 5)), .null, .null, .null, .null, .int (iI 0)]) := by rw [hG3]; exact va_up_self ..
  have A3 : ∀ j, j < k + 5 → a3 j = a2 j := fun j hj => (hA3 j (by omega)).trans (h3 j (by omega))
  have B3 : ∀ j, j < k + 5 → j ≠ k → G3 j = G2 j := fun j hj hjk => by
    rw [hG3, va_up_ne _ _ hjk]
    exact (hE3 j (by omega)).trans (va_up_ne _ _ (by omega))
  have hP3 : txtP g a3 G3 (k + 5) := hP3a.mv (fun _ _ _ => rfl) (fun j q1 q2 => by rw [hG3]; exact va_up_ne _ _ (by omega))
  refine J_aload_n 0 d_P_init_37 rfl rfl ?_
  refine J_new (C := "NumberTower$Text") (T := F_T) (n := 2) (ci := 7) (fs := [.null, .int (iI 0)]) in_T tt_T tt_T_ok rfl wd_217 wd_83 wd_4 df_T ⟨by decide, by decide⟩ d_P_init_38 (fun b4 h4 => ?_)
  rw [← h4 k (by omega)]
  refine J_dup d_P_init_41 rfl ?_
  refine J_callI cw_P_11 rfl nh_T_init pn_T_init rfl (As := []) (rest := [.ref (b4 (k + 7)), .ref (b4 k)]) rfl (Nat.le_of_ble_eq_true rfl) ⟨by decide, by decide⟩ ⟨by decide, by decide⟩ d_P_init_42 (c_T_init hfl (k := k + 7) (ad := b4) (F := (va_up G3 (k + 7) (.inr (7, [.null, .int (iI 0)])))) (va_up_self ..)) (fun v a4 N4 E4 hq => ?_) (fun _ _ _ _ hq => by obtain ⟨hv, -⟩ := hq; cases hv)
  obtain ⟨hv, hN4, hA4, hE4, hP4a⟩ := hq
  cases hv
  replace hN4 : N4 = k + 9 := by omega
  subst hN4
  rw [← hA4 k (by omega), ← hA4 (k + 7) (by omega)]
  have hk4a : E4 k = .inr (4, [.ref (a1 (k + 1)), .ref (a2 (k + 3)), .ref (a3 (k + 5)), .null, .null, .null, .null, .int (iI 0)]) := (hE4 k (by omega)).trans ((va_up_ne _ _ (by omega)).trans hk3)
  refine pf_P_24 (by omega) hk4a (Nat.le_of_ble_eq_true rfl) rfl (fun _ _ h => h) d_P_init_45 ?_
  obtain ⟨G4, hG4⟩ : ∃ G, G = va_up E4 k (.inr (4, [.ref (a1 (k + 1)), .ref (a2 (k + 3)), .ref (a3 (k + 5)), .ref (a4 (k + 7)), .null, .null, .null, .int (iI 0)])) := ⟨_, rfl⟩
  refine J_eqF (F2 := G4) hG4.symm ?_
  have hk4 : G4 k = .inr (4, [.ref (a1 (k + 1)), .ref (a2 (k + 3)), .ref (a3 (k + 5)), .ref (a4 (k + 7)), .null, .null, .null, .int (iI 0)]) := by rw [hG4]; exact va_up_self ..
  have A4 : ∀ j, j < k + 7 → a4 j = a3 j := fun j hj => (hA4 j (by omega)).trans (h4 j (by omega))
  have B4 : ∀ j, j < k + 7 → j ≠ k → G4 j = G3 j := fun j hj hjk => by
    rw [hG4, va_up_ne _ _ hjk]
    exact (hE4 j (by omega)).trans (va_up_ne _ _ (by omega))
  have hP4 : txtP g a4 G4 (k + 7) := hP4a.mv (fun _ _ _ => rfl) (fun j q1 q2 => by rw [hG4]; exact va_up_ne _ _ (by omega))
  refine J_aload_n 0 d_P_init_48 rfl rfl ?_
  refine J_new (C := "NumberTower$Natural") (T := F_N) (n := 2) (ci := 2) (fs := [.null, .int (iI 0)]) in_N tt_N tt_N_ok rfl wd_219 wd_36 wd_3 df_N ⟨by decide, by decide⟩ d_P_init_49 (fun b5 h5 => ?_)
  rw [← h5 k (by omega)]
  refine J_dup d_P_init_52 rfl ?_
  refine J_callI cw_P_29 rfl nh_N_init pn_N_init rfl (As := []) (rest := [.ref (b5 (k + 9)), .ref (b5 k)]) rfl (Nat.le_of_ble_eq_true rfl) ⟨by decide, by decide⟩ ⟨by decide, by decide⟩ d_P_init_53 (c_N_init hfl (k := k + 9) (ad := b5) (F := (va_up G4 (k + 9) (.inr (2, [.null, .int (iI 0)])))) (va_up_self ..)) (fun v a5 N5 E5 hq => ?_) (fun _ _ _ _ hq => by obtain ⟨hv, -⟩ := hq; cases hv)
  obtain ⟨hv, hN5, hA5, hE5, hP5a⟩ := hq
  cases hv
  replace hN5 : N5 = k + 11 := by omega
  subst hN5
  rw [← hA5 k (by omega), ← hA5 (k + 9) (by omega)]
  have hk5a : E5 k = .inr (4, [.ref (a1 (k + 1)), .ref (a2 (k + 3)), .ref (a3 (k + 5)), .ref (a4 (k + 7)), .null, .null, .null, .int (iI 0)]) := (hE5 k (by omega)).trans ((va_up_ne _ _ (by omega)).trans hk4)
  refine pf_P_30 (by omega) hk5a (Nat.le_of_ble_eq_true rfl) rfl (fun _ _ h => h) d_P_init_56 ?_
  obtain ⟨G5, hG5⟩ : ∃ G, G = va_up E5 k (.inr (4, [.ref (a1 (k + 1)), .ref (a2 (k + 3)), .ref (a3 (k + 5)), .ref (a4 (k + 7)), .ref (a5 (k + 9)), .null, .null, .int (iI 0)])) := ⟨_, rfl⟩
  refine J_eqF (F2 := G5) hG5.symm ?_
  have hk5 : G5 k = .inr (4, [.ref (a1 (k + 1)), .ref (a2 (k + 3)), .ref (a3 (k + 5)), .ref (a4 (k + 7)), .ref (a5 (k + 9)), .null, .null, .int (iI 0)]) := by rw [hG5]; exact va_up_self ..
  have A5 : ∀ j, j < k + 9 → a5 j = a4 j := fun j hj => (hA5 j (by omega)).trans (h5 j (by omega))
  have B5 : ∀ j, j < k + 9 → j ≠ k → G5 j = G4 j := fun j hj hjk => by
    rw [hG5, va_up_ne _ _ hjk]
    exact (hE5 j (by omega)).trans (va_up_ne _ _ (by omega))
  have hP5 : natP g a5 G5 (k + 9) := hP5a.mv (fun _ _ _ => rfl) (fun j q1 q2 => by rw [hG5]; exact va_up_ne _ _ (by omega))
  refine J_aload_n 0 d_P_init_59 rfl rfl ?_
  refine J_new (C := "NumberTower$Natural") (T := F_N) (n := 2) (ci := 2) (fs := [.null, .int (iI 0)]) in_N tt_N tt_N_ok rfl wd_219 wd_36 wd_3 df_N ⟨by decide, by decide⟩ d_P_init_60 (fun b6 h6 => ?_)
  rw [← h6 k (by omega)]
  refine J_dup d_P_init_63 rfl ?_
  refine J_callI cw_P_29 rfl nh_N_init pn_N_init rfl (As := []) (rest := [.ref (b6 (k + 11)), .ref (b6 k)]) rfl (Nat.le_of_ble_eq_true rfl) ⟨by decide, by decide⟩ ⟨by decide, by decide⟩ d_P_init_64 (c_N_init hfl (k := k + 11) (ad := b6) (F := (va_up G5 (k + 11) (.inr (2, [.null, .int (iI 0)])))) (va_up_self ..)) (fun v a6 N6 E6 hq => ?_) (fun _ _ _ _ hq => by obtain ⟨hv, -⟩ := hq; cases hv)
  obtain ⟨hv, hN6, hA6, hE6, hP6a⟩ := hq
  cases hv
  replace hN6 : N6 = k + 13 := by omega
  subst hN6
  rw [← hA6 k (by omega), ← hA6 (k + 11) (by omega)]
  have hk6a : E6 k = .inr (4, [.ref (a1 (k + 1)), .ref (a2 (k + 3)), .ref (a3 (k + 5)), .ref (a4 (k + 7)), .ref (a5 (k + 9)), .null, .null, .int (iI 0)]) := (hE6 k (by omega)).trans ((va_up_ne _ _ (by omega)).trans hk5)
  refine pf_P_34 (by omega) hk6a (Nat.le_of_ble_eq_true rfl) rfl (fun _ _ h => h) d_P_init_67 ?_
  obtain ⟨G6, hG6⟩ : ∃ G, G = va_up E6 k (.inr (4, [.ref (a1 (k + 1)), .ref (a2 (k + 3)), .ref (a3 (k + 5)), .ref (a4 (k + 7)), .ref (a5 (k + 9)), .ref (a6 (k + 11)), .null, .int (iI 0)])) := ⟨_, rfl⟩
  refine J_eqF (F2 := G6) hG6.symm ?_
  have hk6 : G6 k = .inr (4, [.ref (a1 (k + 1)), .ref (a2 (k + 3)), .ref (a3 (k + 5)), .ref (a4 (k + 7)), .ref (a5 (k + 9)), .ref (a6 (k + 11)), .null, .int (iI 0)]) := by rw [hG6]; exact va_up_self ..
  have A6 : ∀ j, j < k + 11 → a6 j = a5 j := fun j hj => (hA6 j (by omega)).trans (h6 j (by omega))
  have B6 : ∀ j, j < k + 11 → j ≠ k → G6 j = G5 j := fun j hj hjk => by
    rw [hG6, va_up_ne _ _ hjk]
    exact (hE6 j (by omega)).trans (va_up_ne _ _ (by omega))
  have hP6 : natP g a6 G6 (k + 11) := hP6a.mv (fun _ _ _ => rfl) (fun j q1 q2 => by rw [hG6]; exact va_up_ne _ _ (by omega))
  refine J_aload_n 0 d_P_init_70 rfl rfl ?_
  refine J_new (C := "NumberTower$Natural") (T := F_N) (n := 2) (ci := 2) (fs := [.null, .int (iI 0)]) in_N tt_N tt_N_ok rfl wd_219 wd_36 wd_3 df_N ⟨by decide, by decide⟩ d_P_init_71 (fun b7 h7 => ?_)
  rw [← h7 k (by omega)]
  refine J_dup d_P_init_74 rfl ?_
  refine J_callI cw_P_29 rfl nh_N_init pn_N_init rfl (As := []) (rest := [.ref (b7 (k + 13)), .ref (b7 k)]) rfl (Nat.le_of_ble_eq_true rfl) ⟨by decide, by decide⟩ ⟨by decide, by decide⟩ d_P_init_75 (c_N_init hfl (k := k + 13) (ad := b7) (F := (va_up G6 (k + 13) (.inr (2, [.null, .int (iI 0)])))) (va_up_self ..)) (fun v a7 N7 E7 hq => ?_) (fun _ _ _ _ hq => by obtain ⟨hv, -⟩ := hq; cases hv)
  obtain ⟨hv, hN7, hA7, hE7, hP7a⟩ := hq
  cases hv
  replace hN7 : N7 = k + 15 := by omega
  subst hN7
  rw [← hA7 k (by omega), ← hA7 (k + 13) (by omega)]
  have hk7a : E7 k = .inr (4, [.ref (a1 (k + 1)), .ref (a2 (k + 3)), .ref (a3 (k + 5)), .ref (a4 (k + 7)), .ref (a5 (k + 9)), .ref (a6 (k + 11)), .null, .int (iI 0)]) := (hE7 k (by omega)).trans ((va_up_ne _ _ (by omega)).trans hk6)
  refine pf_P_37 (by omega) hk7a (Nat.le_of_ble_eq_true rfl) rfl (fun _ _ h => h) d_P_init_78 ?_
  obtain ⟨G7, hG7⟩ : ∃ G, G = va_up E7 k (.inr (4, [.ref (a1 (k + 1)), .ref (a2 (k + 3)), .ref (a3 (k + 5)), .ref (a4 (k + 7)), .ref (a5 (k + 9)), .ref (a6 (k + 11)), .ref (a7 (k + 13)), .int (iI 0)])) := ⟨_, rfl⟩
  refine J_eqF (F2 := G7) hG7.symm ?_
  have hk7 : G7 k = .inr (4, [.ref (a1 (k + 1)), .ref (a2 (k + 3)), .ref (a3 (k + 5)), .ref (a4 (k + 7)), .ref (a5 (k + 9)), .ref (a6 (k + 11)), .ref (a7 (k + 13)), .int (iI 0)]) := by rw [hG7]; exact va_up_self ..
  have A7 : ∀ j, j < k + 13 → a7 j = a6 j := fun j hj => (hA7 j (by omega)).trans (h7 j (by omega))
  have B7 : ∀ j, j < k + 13 → j ≠ k → G7 j = G6 j := fun j hj hjk => by
    rw [hG7, va_up_ne _ _ hjk]
    exact (hE7 j (by omega)).trans (va_up_ne _ _ (by omega))
  have hP7 : natP g a7 G7 (k + 13) := hP7a.mv (fun _ _ _ => rfl) (fun j q1 q2 => by rw [hG7]; exact va_up_ne _ _ (by omega))
  refine J_vret rfl d_P_init_81 ⟨by decide, by decide⟩ ?_
  have CA7 : ∀ j, j < k + 15 → a7 j = a7 j := fun _ _ => rfl
  have CB7 : ∀ j, j < k + 15 → j ≠ k → G7 j = G7 j := fun _ _ _ => rfl
  have CA6 : ∀ j, j < k + 13 → a7 j = a6 j := fun j h => (CA7 j (by omega)).trans (A7 j h)
  have CB6 : ∀ j, j < k + 13 → j ≠ k → G7 j = G6 j := fun j h q => (CB7 j (by omega) q).trans (B7 j h q)
  have CA5 : ∀ j, j < k + 11 → a7 j = a5 j := fun j h => (CA6 j (by omega)).trans (A6 j h)
  have CB5 : ∀ j, j < k + 11 → j ≠ k → G7 j = G5 j := fun j h q => (CB6 j (by omega) q).trans (B6 j h q)
  have CA4 : ∀ j, j < k + 9 → a7 j = a4 j := fun j h => (CA5 j (by omega)).trans (A5 j h)
  have CB4 : ∀ j, j < k + 9 → j ≠ k → G7 j = G4 j := fun j h q => (CB5 j (by omega) q).trans (B5 j h q)
  have CA3 : ∀ j, j < k + 7 → a7 j = a3 j := fun j h => (CA4 j (by omega)).trans (A4 j h)
  have CB3 : ∀ j, j < k + 7 → j ≠ k → G7 j = G3 j := fun j h q => (CB4 j (by omega) q).trans (B4 j h q)
  have CA2 : ∀ j, j < k + 5 → a7 j = a2 j := fun j h => (CA3 j (by omega)).trans (A3 j h)
  have CB2 : ∀ j, j < k + 5 → j ≠ k → G7 j = G2 j := fun j h q => (CB3 j (by omega) q).trans (B3 j h q)
  have CA1 : ∀ j, j < k + 3 → a7 j = a1 j := fun j h => (CA2 j (by omega)).trans (A2 j h)
  have CB1 : ∀ j, j < k + 3 → j ≠ k → G7 j = G1 j := fun j h q => (CB2 j (by omega) q).trans (B2 j h q)
  have CA0 : ∀ j, j < k + 1 → a7 j = ad j := fun j h => (CA1 j (by omega)).trans (A1 j h)
  have CB0 : ∀ j, j < k + 1 → j ≠ k → G7 j = F j := fun j h q => (CB1 j (by omega) q).trans (B1 j h q)
  exact ⟨rfl, rfl, fun j hj => CA0 j (by omega), fun j hj => CB0 j (by omega) (by omega), by rw [hk7, CA1 (k + 1) (by omega), CA2 (k + 3) (by omega), CA3 (k + 5) (by omega), CA4 (k + 7) (by omega), CA5 (k + 9) (by omega), CA6 (k + 11) (by omega), CA7 (k + 13) (by omega)], (hP1.mv (fun j q1 q2 => CA1 j (by omega)) (fun j q1 q2 => CB1 j (by omega) (by omega))), (hP2.mv (fun j q1 q2 => CA2 j (by omega)) (fun j q1 q2 => CB2 j (by omega) (by omega))), (hP3.mv (fun j q1 q2 => CA3 j (by omega)) (fun j q1 q2 => CB3 j (by omega) (by omega))), (hP4.mv (fun j q1 q2 => CA4 j (by omega)) (fun j q1 q2 => CB4 j (by omega) (by omega))), (hP5.mv (fun j q1 q2 => CA5 j (by omega)) (fun j q1 q2 => CB5 j (by omega) (by omega))), (hP6.mv (fun j q1 q2 => CA6 j (by omega)) (fun j q1 q2 => CB6 j (by omega) (by omega))), (hP7.mv (fun j q1 q2 => CA7 j (by omega)) (fun j q1 q2 => CB7 j (by omega) (by omega)))⟩
