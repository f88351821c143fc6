/-! the class's constructor, the Model's constructor -/
def clsP (g : Nat → ClassId) (ad : Nat → Nat) (F : Nat → va_E) (k : Nat) : Prop := F k = .inr (0, [.ref (ad (k + 1)), .ref (ad (k + 2)), .ref (ad (k + 7)), .ref (ad (k + 9)), .ref (ad (k + 41)), .ref (ad (k + 42)), .ref (ad (k + 43))]) ∧ (∃ h : Nat → Option Nat, F (k + 1) = .inl (g 4, 8, .inr (.inr (.inr (.inr h)))) ∧ ∀ j, j < 8 → h j = some (ad (k + 58 + 5 * j)) ∧ numP g ad F (k + 58 + 5 * j)) ∧ numP g ad F (k + 2) ∧ txtP g ad F (k + 7) ∧ dskP g ad F (k + 9) ∧ F (k + 41) = .inr (5, [.ref (ad (k + 7)), .int (iI 0), .int (iI 0)]) ∧ F (k + 42) = .inr (6, [.ref (ad (k + 7)), .int (iI 0), .int (iI 0), .int (iI 0), .int (iI 0), .int (iI 0), .int (iI 0), .int (iI 0), .int (iI 0), .int (iI 0), .int (iI 0)]) ∧ penP g ad F (k + 43)
set_option maxRecDepth 100000 in
set_option maxHeartbeats 4000000 in
theorem c_X_init {l : Launch} (hfl : l.flags = flags0) {D : va_G} {g : Nat → ClassId} {ad : Nat → Nat} {k : Nat} {F : Nat → va_E} (hF : F k = .inr (0, [.null, .null, .null, .null, .null, .null, .null])) :
    JG l y_X_init (Cond.code y_X_init b_X_init 2 (Option.none : Option FieldType)) rn_X (97, 1729) D jCl (jTys g) ad (k + 1) F [.ref (ad k)] (va_AO "NumberTower$Num") (jnw ad F k 98 (clsP g)) := by
  refine JG.go hfl (own := "NumberTower") (lv := [(0, .ref (ad k))]) rfl (by decide +kernel) (Nat.le_of_ble_eq_true rfl) rfl (fun A => ?_)
  refine J_aload_n 0 d_X_init_0 rfl rfl ?_
  refine J_objInit wd_25 (by decide) (by decide) d_X_init_1 ?_
  refine J_aload_n 0 d_X_init_4 rfl rfl ?_
  refine J_bipush d_X_init_5 (i8_ok (by decide)) ?_
  refine J_newq (n := 8) (cA := g 4) 4 rfl (fun _ _ h => h.2) wd_28 (by decide) ⟨by decide, by decide⟩ d_X_init_7 (fun a1 h1 => ?_)
  rw [← h1 k (by omega)]
  obtain ⟨E1, hEE1⟩ : ∃ G, G = va_up F (k + 1) (.inl (g 4, 8, .inr (.inr (.inr (.inr (fun _ => none)))))) := ⟨_, rfl⟩
  refine J_eqF (F2 := E1) hEE1.symm ?_
  have hk1a : E1 k = .inr (0, [.null, .null, .null, .null, .null, .null, .null]) := by rw [hEE1]; exact ((va_up_ne _ _ (by omega)).trans hF)
  have hP1a : E1 (k + 1) = .inl (g 4, 8, .inr (.inr (.inr (.inr (fun _ => none))))) := by rw [hEE1]; exact va_up_self ..
  refine pf_X_11 (by omega) hk1a (Nat.le_of_ble_eq_true rfl) rfl (fun _ _ h => h.1) d_X_init_10 ?_
  obtain ⟨G1, hG1⟩ : ∃ G, G = va_up E1 k (.inr (0, [.ref (a1 (k + 1)), .null, .null, .null, .null, .null, .null])) := ⟨_, rfl⟩
  refine J_eqF (F2 := G1) hG1.symm ?_
  have hk1 : G1 k = .inr (0, [.ref (a1 (k + 1)), .null, .null, .null, .null, .null, .null]) := by rw [hG1]; exact va_up_self ..
  have A1 : ∀ j, j < k + 1 → a1 j = ad j := fun j hj => h1 j (by omega)
  have B1 : ∀ j, j < k + 1 → j ≠ k → G1 j = F j := fun j hj hjk => by
    rw [hG1, va_up_ne _ _ hjk]
    exact by rw [hEE1]; exact va_up_ne _ _ (by omega)
  have hP1 : G1 (k + 1) = .inl (g 4, 8, .inr (.inr (.inr (.inr (fun _ => none))))) := (by rw [hG1]; exact (va_up_ne _ _ (by omega)).trans hP1a)
  refine J_aload_n 0 d_X_init_13 rfl rfl ?_
  refine J_new (C := "NumberTower$Num") (T := F_U) (n := 4) (ci := 3) (fs := [.int (iI 0), .int (iI 0), .null, .null]) in_U tt_U tt_U_ok rfl wd_28 wd_30 wd_2 df_U ⟨by decide, by decide⟩ d_X_init_14 (fun b2 h2 => ?_)
  rw [← h2 k (by omega)]
  refine J_dup d_X_init_17 rfl ?_
  refine J_callI cw_X_15 rfl nh_U_init pn_U_init rfl (As := []) (rest := [.ref (b2 (k + 2)), .ref (b2 k)]) rfl (Nat.le_of_ble_eq_true rfl) ⟨by decide, by decide⟩ ⟨by decide, by decide⟩ d_X_init_18 (c_U_init hfl (k := k + 2) (ad := b2) (F := (va_up G1 (k + 2) (.inr (3, [.int (iI 0), .int (iI 0), .null, .null])))) (va_up_self ..)) (fun v a2 N2 E2 hq => ?_) (fun _ _ _ _ hq => by obtain ⟨hv, -⟩ := hq; cases hv)
  obtain ⟨hv, hN2, hA2, hE2, hP2a⟩ := hq
  cases hv
  replace hN2 : N2 = k + 7 := by omega
  subst hN2
  rw [← hA2 k (by omega), ← hA2 (k + 2) (by omega)]
  have hk2a : E2 k = .inr (0, [.ref (a1 (k + 1)), .null, .null, .null, .null, .null, .null]) := (hE2 k (by omega)).trans ((va_up_ne _ _ (by omega)).trans hk1)
  refine pf_X_16 (by omega) hk2a (Nat.le_of_ble_eq_true rfl) rfl (fun _ _ h => h.1) d_X_init_21 ?_
  obtain ⟨G2, hG2⟩ : ∃ G, G = va_up E2 k (.inr (0, [.ref (a1 (k + 1)), .ref (a2 (k + 2)), .null, .null, .null, .null, .null])) := ⟨_, rfl⟩
  refine J_eqF (F2 := G2) hG2.symm ?_
  have hk2 : G2 k = .inr (0, [.ref (a1 (k + 1)), .ref (a2 (k + 2)), .null, .null, .null, .null, .null]) := by rw [hG2]; exact va_up_self ..
  have A2 : ∀ j, j < k + 2 → a2 j = a1 j := fun j hj => (hA2 j (by omega)).trans (h2 j (by omega))
  have B2 : ∀ j, j < k + 2 → j ≠ k → G2 j = G1 j := fun j hj hjk => by
    rw [hG2, va_up_ne _ _ hjk]
    exact (hE2 j (by omega)).trans (va_up_ne _ _ (by omega))
  have hP2 : numP g a2 G2 (k + 2) := hP2a.mv (fun _ _ _ => rfl) (fun j q1 q2 => by rw [hG2]; exact va_up_ne _ _ (by omega))
  refine J_aload_n 0 d_X_init_24 rfl rfl ?_
  refine J_new (C := "NumberTower$Text") (T := F_T) (n := 2) (ci := 7) (fs := [.null, .int (iI 0)]) in_T tt_T tt_T_ok rfl wd_82 wd_83 wd_4 df_T ⟨by decide, by decide⟩ d_X_init_25 (fun b3 h3 => ?_)
  rw [← h3 k (by omega)]
  refine J_dup d_X_init_28 rfl ?_
  refine J_callI cw_X_22 rfl nh_T_init pn_T_init rfl (As := []) (rest := [.ref (b3 (k + 7)), .ref (b3 k)]) rfl (Nat.le_of_ble_eq_true rfl) ⟨by decide, by decide⟩ ⟨by decide, by decide⟩ d_X_init_29 (c_T_init hfl (k := k + 7) (ad := b3) (F := (va_up G2 (k + 7) (.inr (7, [.null, .int (iI 0)])))) (va_up_self ..)) (fun v a3 N3 E3 hq => ?_) (fun _ _ _ _ hq => by obtain ⟨hv, -⟩ := hq; cases hv)
  obtain ⟨hv, hN3, hA3, hE3, hP3a⟩ := hq
  cases hv
  replace hN3 : N3 = k + 9 := by omega
  subst hN3
  rw [← hA3 k (by omega), ← hA3 (k + 7) (by omega)]
  have hk3a : E3 k = .inr (0, [.ref (a1 (k + 1)), .ref (a2 (k + 2)), .null, .null, .null, .null, .null]) := (hE3 k (by omega)).trans ((va_up_ne _ _ (by omega)).trans hk2)
  refine pf_X_23 (by omega) hk3a (Nat.le_of_ble_eq_true rfl) rfl (fun _ _ h => h.1) d_X_init_32 ?_
  obtain ⟨G3, hG3⟩ : ∃ G, G = va_up E3 k (.inr (0, [.ref (a1 (k + 1)), .ref (a2 (k + 2)), .ref (a3 (k + 7)), .null, .null, .null, .null])) := ⟨_, rfl⟩
  refine J_eqF (F2 := G3) hG3.symm ?_
  have hk3 : G3 k = .inr (0, [.ref (a1 (k + 1)), .ref (a2 (k + 2)), .ref (a3 (k + 7)), .null, .null, .null, .null]) := by rw [hG3]; exact va_up_self ..
  have A3 : ∀ j, j < k + 7 → a3 j = a2 j := fun j hj => (hA3 j (by omega)).trans (h3 j (by omega))
  have B3 : ∀ j, j < k + 7 → j ≠ k → G3 j = G2 j := fun j hj hjk => by
    rw [hG3, va_up_ne _ _ hjk]
    exact (hE3 j (by omega)).trans (va_up_ne _ _ (by omega))
  have hP3 : txtP g a3 G3 (k + 7) := hP3a.mv (fun _ _ _ => rfl) (fun j q1 q2 => by rw [hG3]; exact va_up_ne _ _ (by omega))
  refine J_aload_n 0 d_X_init_35 rfl rfl ?_
  refine J_new (C := "NumberTower$Desk") (T := F_D) (n := 11) (ci := 1) (fs := [.null, .null, .null, .null, .null, .null, .null, .null, .null, .null, .null]) in_D tt_D tt_D_ok rfl wd_100 wd_101 wd_5 df_D ⟨by decide, by decide⟩ d_X_init_36 (fun b4 h4 => ?_)
  rw [← h4 k (by omega)]
  refine J_dup d_X_init_39 rfl ?_
  refine J_callI cw_X_29 rfl nh_D_init pn_D_init rfl (As := []) (rest := [.ref (b4 (k + 9)), .ref (b4 k)]) rfl (Nat.le_of_ble_eq_true rfl) ⟨by decide, by decide⟩ ⟨by decide, by decide⟩ d_X_init_40 (c_D_init hfl (k := k + 9) (ad := b4) (F := (va_up G3 (k + 9) (.inr (1, [.null, .null, .null, .null, .null, .null, .null, .null, .null, .null, .null])))) (va_up_self ..)) (fun v a4 N4 E4 hq => ?_) (fun _ _ _ _ hq => by obtain ⟨hv, -⟩ := hq; cases hv)
  obtain ⟨hv, hN4, hA4, hE4, hP4a⟩ := hq
  cases hv
  replace hN4 : N4 = k + 41 := by omega
  subst hN4
  rw [← hA4 k (by omega), ← hA4 (k + 9) (by omega)]
  have hk4a : E4 k = .inr (0, [.ref (a1 (k + 1)), .ref (a2 (k + 2)), .ref (a3 (k + 7)), .null, .null, .null, .null]) := (hE4 k (by omega)).trans ((va_up_ne _ _ (by omega)).trans hk3)
  refine pf_X_30 (by omega) hk4a (Nat.le_of_ble_eq_true rfl) rfl (fun _ _ h => h.1) d_X_init_43 ?_
  obtain ⟨G4, hG4⟩ : ∃ G, G = va_up E4 k (.inr (0, [.ref (a1 (k + 1)), .ref (a2 (k + 2)), .ref (a3 (k + 7)), .ref (a4 (k + 9)), .null, .null, .null])) := ⟨_, rfl⟩
  refine J_eqF (F2 := G4) hG4.symm ?_
  have hk4 : G4 k = .inr (0, [.ref (a1 (k + 1)), .ref (a2 (k + 2)), .ref (a3 (k + 7)), .ref (a4 (k + 9)), .null, .null, .null]) := by rw [hG4]; exact va_up_self ..
  have A4 : ∀ j, j < k + 9 → a4 j = a3 j := fun j hj => (hA4 j (by omega)).trans (h4 j (by omega))
  have B4 : ∀ j, j < k + 9 → j ≠ k → G4 j = G3 j := fun j hj hjk => by
    rw [hG4, va_up_ne _ _ hjk]
    exact (hE4 j (by omega)).trans (va_up_ne _ _ (by omega))
  have hP4 : dskP g a4 G4 (k + 9) := hP4a.mv (fun _ _ _ => rfl) (fun j q1 q2 => by rw [hG4]; exact va_up_ne _ _ (by omega))
  refine J_aload_n 0 d_X_init_46 rfl rfl ?_
  refine J_new (C := "NumberTower$Reader") (T := F_R) (n := 3) (ci := 5) (fs := [.null, .int (iI 0), .int (iI 0)]) in_R tt_R tt_R_ok rfl wd_145 wd_146 wd_6 df_R ⟨by decide, by decide⟩ d_X_init_47 (fun b5 h5 => ?_)
  rw [← h5 k (by omega)]
  refine J_dup d_X_init_50 rfl ?_
  refine J_aload_n 0 d_X_init_51 rfl rfl ?_
  refine gf_X_23 (by omega) ((va_up_ne _ _ (by omega)).trans hk4) rfl d_X_init_52 ?_
  refine J_callI cw_X_36 rfl nh_R_init pn_R_init rfl (As := [.ref (a3 (k + 7))]) (rest := [.ref (b5 (k + 41)), .ref (b5 k)]) rfl (Nat.le_of_ble_eq_true rfl) ⟨by decide, by decide⟩ ⟨by decide, by decide⟩ d_X_init_55 (c_R_init hfl (k := k + 41) (ad := b5) (F := (va_up G4 (k + 41) (.inr (5, [.null, .int (iI 0), .int (iI 0)])))) (x := (a3 (k + 7))) (va_up_self ..)) (fun v a5 N5 E5 hq => ?_) (fun _ _ _ _ hq => by obtain ⟨hv, -⟩ := hq; cases hv)
  obtain ⟨hv, hN5, hA5, hE5, hP5a⟩ := hq
  cases hv
  replace hN5 : N5 = k + 42 := by omega
  subst hN5
  rw [← hA5 k (by omega), ← hA5 (k + 41) (by omega)]
  have hk5a : E5 k = .inr (0, [.ref (a1 (k + 1)), .ref (a2 (k + 2)), .ref (a3 (k + 7)), .ref (a4 (k + 9)), .null, .null, .null]) := (hE5 k (by omega)).trans ((va_up_ne _ _ (by omega)).trans hk4)
  refine pf_X_39 (by omega) hk5a (Nat.le_of_ble_eq_true rfl) rfl (fun _ _ h => h.1) d_X_init_58 ?_
  obtain ⟨G5, hG5⟩ : ∃ G, G = va_up E5 k (.inr (0, [.ref (a1 (k + 1)), .ref (a2 (k + 2)), .ref (a3 (k + 7)), .ref (a4 (k + 9)), .ref (a5 (k + 41)), .null, .null])) := ⟨_, rfl⟩
  refine J_eqF (F2 := G5) hG5.symm ?_
  have hk5 : G5 k = .inr (0, [.ref (a1 (k + 1)), .ref (a2 (k + 2)), .ref (a3 (k + 7)), .ref (a4 (k + 9)), .ref (a5 (k + 41)), .null, .null]) := by rw [hG5]; exact va_up_self ..
  have A5 : ∀ j, j < k + 41 → a5 j = a4 j := fun j hj => (hA5 j (by omega)).trans (h5 j (by omega))
  have B5 : ∀ j, j < k + 41 → j ≠ k → G5 j = G4 j := fun j hj hjk => by
    rw [hG5, va_up_ne _ _ hjk]
    exact (hE5 j (by omega)).trans (va_up_ne _ _ (by omega))
  have hP5 : G5 (k + 41) = .inr (5, [.ref (a3 (k + 7)), .int (iI 0), .int (iI 0)]) := (by rw [hG5]; exact (va_up_ne _ _ (by omega)).trans hP5a)
  refine J_aload_n 0 d_X_init_61 rfl rfl ?_
  refine J_new (C := "NumberTower$Spec") (T := F_S) (n := 11) (ci := 6) (fs := [.null, .int (iI 0), .int (iI 0), .int (iI 0), .int (iI 0), .int (iI 0), .int (iI 0), .int (iI 0), .int (iI 0), .int (iI 0), .int (iI 0)]) in_S tt_S tt_S_ok rfl wd_162 wd_163 wd_7 df_S ⟨by decide, by decide⟩ d_X_init_62 (fun b6 h6 => ?_)
  rw [← h6 k (by omega)]
  refine J_dup d_X_init_65 rfl ?_
  refine J_aload_n 0 d_X_init_66 rfl rfl ?_
  refine gf_X_23 (by omega) ((va_up_ne _ _ (by omega)).trans hk5) rfl d_X_init_67 ?_
  refine J_callI cw_X_45 rfl nh_S_init pn_S_init rfl (As := [.ref (a3 (k + 7))]) (rest := [.ref (b6 (k + 42)), .ref (b6 k)]) rfl (Nat.le_of_ble_eq_true rfl) ⟨by decide, by decide⟩ ⟨by decide, by decide⟩ d_X_init_70 (c_S_init hfl (k := k + 42) (ad := b6) (F := (va_up G5 (k + 42) (.inr (6, [.null, .int (iI 0), .int (iI 0), .int (iI 0), .int (iI 0), .int (iI 0), .int (iI 0), .int (iI 0), .int (iI 0), .int (iI 0), .int (iI 0)])))) (x := (a3 (k + 7))) (va_up_self ..)) (fun v a6 N6 E6 hq => ?_) (fun _ _ _ _ hq => by obtain ⟨hv, -⟩ := hq; cases hv)
  obtain ⟨hv, hN6, hA6, hE6, hP6a⟩ := hq
  cases hv
  replace hN6 : N6 = k + 43 := by omega
  subst hN6
  rw [← hA6 k (by omega), ← hA6 (k + 42) (by omega)]
  have hk6a : E6 k = .inr (0, [.ref (a1 (k + 1)), .ref (a2 (k + 2)), .ref (a3 (k + 7)), .ref (a4 (k + 9)), .ref (a5 (k + 41)), .null, .null]) := (hE6 k (by omega)).trans ((va_up_ne _ _ (by omega)).trans hk5)
  refine pf_X_46 (by omega) hk6a (Nat.le_of_ble_eq_true rfl) rfl (fun _ _ h => h.1) d_X_init_73 ?_
  obtain ⟨G6, hG6⟩ : ∃ G, G = va_up E6 k (.inr (0, [.ref (a1 (k + 1)), .ref (a2 (k + 2)), .ref (a3 (k + 7)), .ref (a4 (k + 9)), .ref (a5 (k + 41)), .ref (a6 (k + 42)), .null])) := ⟨_, rfl⟩
  refine J_eqF (F2 := G6) hG6.symm ?_
  have hk6 : G6 k = .inr (0, [.ref (a1 (k + 1)), .ref (a2 (k + 2)), .ref (a3 (k + 7)), .ref (a4 (k + 9)), .ref (a5 (k + 41)), .ref (a6 (k + 42)), .null]) := by rw [hG6]; exact va_up_self ..
  have A6 : ∀ j, j < k + 42 → a6 j = a5 j := fun j hj => (hA6 j (by omega)).trans (h6 j (by omega))
  have B6 : ∀ j, j < k + 42 → j ≠ k → G6 j = G5 j := fun j hj hjk => by
    rw [hG6, va_up_ne _ _ hjk]
    exact (hE6 j (by omega)).trans (va_up_ne _ _ (by omega))
  have hP6 : G6 (k + 42) = .inr (6, [.ref (a3 (k + 7)), .int (iI 0), .int (iI 0), .int (iI 0), .int (iI 0), .int (iI 0), .int (iI 0), .int (iI 0), .int (iI 0), .int (iI 0), .int (iI 0)]) := (by rw [hG6]; exact (va_up_ne _ _ (by omega)).trans hP6a)
  refine J_aload_n 0 d_X_init_76 rfl rfl ?_
  refine J_new (C := "NumberTower$Pen") (T := F_P) (n := 8) (ci := 4) (fs := [.null, .null, .null, .null, .null, .null, .null, .int (iI 0)]) in_P tt_P tt_P_ok rfl wd_211 wd_212 wd_8 df_P ⟨by decide, by decide⟩ d_X_init_77 (fun b7 h7 => ?_)
  rw [← h7 k (by omega)]
  refine J_dup d_X_init_80 rfl ?_
  refine J_callI cw_X_52 rfl nh_P_init pn_P_init rfl (As := []) (rest := [.ref (b7 (k + 43)), .ref (b7 k)]) rfl (Nat.le_of_ble_eq_true rfl) ⟨by decide, by decide⟩ ⟨by decide, by decide⟩ d_X_init_81 (c_P_init hfl (k := k + 43) (ad := b7) (F := (va_up G6 (k + 43) (.inr (4, [.null, .null, .null, .null, .null, .null, .null, .int (iI 0)])))) (va_up_self ..)) (fun v a7 N7 E7 hq => ?_) (fun _ _ _ _ hq => by obtain ⟨hv, -⟩ := hq; cases hv)
  obtain ⟨hv, hN7, hA7, hE7, hP7a⟩ := hq
  cases hv
  replace hN7 : N7 = k + 58 := by omega
  subst hN7
  rw [← hA7 k (by omega), ← hA7 (k + 43) (by omega)]
  have hk7a : E7 k = .inr (0, [.ref (a1 (k + 1)), .ref (a2 (k + 2)), .ref (a3 (k + 7)), .ref (a4 (k + 9)), .ref (a5 (k + 41)), .ref (a6 (k + 42)), .null]) := (hE7 k (by omega)).trans ((va_up_ne _ _ (by omega)).trans hk6)
  refine pf_X_53 (by omega) hk7a (Nat.le_of_ble_eq_true rfl) rfl (fun _ _ h => h.1) d_X_init_84 ?_
  obtain ⟨G7, hG7⟩ : ∃ G, G = va_up E7 k (.inr (0, [.ref (a1 (k + 1)), .ref (a2 (k + 2)), .ref (a3 (k + 7)), .ref (a4 (k + 9)), .ref (a5 (k + 41)), .ref (a6 (k + 42)), .ref (a7 (k + 43))])) := ⟨_, rfl⟩
  refine J_eqF (F2 := G7) hG7.symm ?_
  have hk7 : G7 k = .inr (0, [.ref (a1 (k + 1)), .ref (a2 (k + 2)), .ref (a3 (k + 7)), .ref (a4 (k + 9)), .ref (a5 (k + 41)), .ref (a6 (k + 42)), .ref (a7 (k + 43))]) := by rw [hG7]; exact va_up_self ..
  have A7 : ∀ j, j < k + 43 → a7 j = a6 j := fun j hj => (hA7 j (by omega)).trans (h7 j (by omega))
  have B7 : ∀ j, j < k + 43 → j ≠ k → G7 j = G6 j := fun j hj hjk => by
    rw [hG7, va_up_ne _ _ hjk]
    exact (hE7 j (by omega)).trans (va_up_ne _ _ (by omega))
  have hP7 : penP g a7 G7 (k + 43) := hP7a.mv (fun _ _ _ => rfl) (fun j q1 q2 => by rw [hG7]; exact va_up_ne _ _ (by omega))
  have CA7 : ∀ j, j < k + 58 → a7 j = a7 j := fun _ _ => rfl
  have CB7 : ∀ j, j < k + 58 → j ≠ k → G7 j = G7 j := fun _ _ _ => rfl
  have CA6 : ∀ j, j < k + 43 → a7 j = a6 j := fun j h => (CA7 j (by omega)).trans (A7 j h)
  have CB6 : ∀ j, j < k + 43 → j ≠ k → G7 j = G6 j := fun j h q => (CB7 j (by omega) q).trans (B7 j h q)
  have CA5 : ∀ j, j < k + 42 → a7 j = a5 j := fun j h => (CA6 j (by omega)).trans (A6 j h)
  have CB5 : ∀ j, j < k + 42 → j ≠ k → G7 j = G5 j := fun j h q => (CB6 j (by omega) q).trans (B6 j h q)
  have CA4 : ∀ j, j < k + 41 → a7 j = a4 j := fun j h => (CA5 j (by omega)).trans (A5 j h)
  have CB4 : ∀ j, j < k + 41 → j ≠ k → G7 j = G4 j := fun j h q => (CB5 j (by omega) q).trans (B5 j h q)
  have CA3 : ∀ j, j < k + 9 → a7 j = a3 j := fun j h => (CA4 j (by omega)).trans (A4 j h)
  have CB3 : ∀ j, j < k + 9 → j ≠ k → G7 j = G3 j := fun j h q => (CB4 j (by omega) q).trans (B4 j h q)
  have CA2 : ∀ j, j < k + 7 → a7 j = a2 j := fun j h => (CA3 j (by omega)).trans (A3 j h)
  have CB2 : ∀ j, j < k + 7 → j ≠ k → G7 j = G2 j := fun j h q => (CB3 j (by omega) q).trans (B3 j h q)
  have CA1 : ∀ j, j < k + 2 → a7 j = a1 j := fun j h => (CA2 j (by omega)).trans (A2 j h)
  have CB1 : ∀ j, j < k + 2 → j ≠ k → G7 j = G1 j := fun j h q => (CB2 j (by omega) q).trans (B2 j h q)
  have CA0 : ∀ j, j < k + 1 → a7 j = ad j := fun j h => (CA1 j (by omega)).trans (A1 j h)
  have CB0 : ∀ j, j < k + 1 → j ≠ k → G7 j = F j := fun j h q => (CB1 j (by omega) q).trans (B1 j h q)
  have hQ0 : G7 k = .inr (0, [.ref (a7 (k + 1)), .ref (a7 (k + 2)), .ref (a7 (k + 7)), .ref (a7 (k + 9)), .ref (a7 (k + 41)), .ref (a7 (k + 42)), .ref (a7 (k + 43))]) := by rw [hk7, CA1 (k + 1) (by omega), CA2 (k + 2) (by omega), CA3 (k + 7) (by omega), CA4 (k + 9) (by omega), CA5 (k + 41) (by omega), CA6 (k + 42) (by omega), CA7 (k + 43) (by omega)]
  have hQ2 : numP g a7 G7 (k + 2) := (hP2.mv (fun j q1 q2 => CA2 j (by omega)) (fun j q1 q2 => CB2 j (by omega) (by omega)))
  have hQ3 : txtP g a7 G7 (k + 7) := (hP3.mv (fun j q1 q2 => CA3 j (by omega)) (fun j q1 q2 => CB3 j (by omega) (by omega)))
  have hQ4 : dskP g a7 G7 (k + 9) := (hP4.mv (fun j q1 q2 => CA4 j (by omega)) (fun j q1 q2 => CB4 j (by omega) (by omega)))
  have hQ5 : G7 (k + 41) = .inr (5, [.ref (a7 (k + 7)), .int (iI 0), .int (iI 0)]) := by rw [CB5 (k + 41) (by omega) (by omega), hP5, CA3 (k + 7) (by omega)]
  have hQ6 : G7 (k + 42) = .inr (6, [.ref (a7 (k + 7)), .int (iI 0), .int (iI 0), .int (iI 0), .int (iI 0), .int (iI 0), .int (iI 0), .int (iI 0), .int (iI 0), .int (iI 0), .int (iI 0)]) := by rw [CB6 (k + 42) (by omega) (by omega), hP6, CA3 (k + 7) (by omega)]
  have hQ7 : penP g a7 G7 (k + 43) := (hP7.mv (fun j q1 q2 => CA7 j (by omega)) (fun j q1 q2 => CB7 j (by omega) (by omega)))
  refine J_iconst d_X_init_87 ?_
  refine J_istore_n (lv' := [(1, .int (iI 0)), (0, .ref (a7 k))]) d_X_init_88 rfl (by decide) rfl ?_
  have loop : ∀ (fuel i : Nat) (b : Nat → Nat) (M : Nat) (E : Nat → va_E) (h : Nat → Option Nat), 8 - i < fuel → i ≤ 8 → M = k + 58 + 5 * i → (∀ j, j < k + 58 → b j = a7 j) → (∀ j, j < k + 58 → j ≠ k + 1 → E j = G7 j) → E (k + 1) = .inl (g 4, 8, .inr (.inr (.inr (.inr h)))) → (∀ j, j < i → h j = some (b (k + 58 + 5 * j)) ∧ numP g b E (k + 58 + 5 * j)) → J l rn_X (97, 1729) "NumberTower" b_X_init 2 (Option.none : Option FieldType) D jCl (jTys g) A (fun s me => me.name = y_X_init.name ∧ va_AO "NumberTower$Num" s) (jnw ad F k 98 (clsP g)) b M (57 + 5 * i) (1409 + 40 * i) 89 [(1, .int (iI (i : Int))), (0, .ref (b k))] [] E := by
    intro fuel
    induction fuel with
    | zero => intro i b M E h hf; exact absurd hf (Nat.not_lt_zero _)
    | succ fuel ih =>
      intro i b M E h hf hi hM hA hB h1 hn
      have hE0 : E k = .inr (0, [.ref (b (k + 1)), .ref (b (k + 2)), .ref (b (k + 7)), .ref (b (k + 9)), .ref (b (k + 41)), .ref (b (k + 42)), .ref (b (k + 43))]) := by rw [hB k (by omega) (by omega), hQ0, hA (k + 1) (by omega), hA (k + 2) (by omega), hA (k + 7) (by omega), hA (k + 9) (by omega), hA (k + 41) (by omega), hA (k + 42) (by omega), hA (k + 43) (by omega)]
      refine J_iload_n 0 d_X_init_89 rfl rfl ?_
      refine J_bipush d_X_init_90 (i8_ok (by decide)) ?_
      refine J_if_icmpge (tgt := 114) d_X_init_92 (by decide) ⟨by omega, by omega⟩ ⟨by omega, by omega⟩ (fun c92 => ?_) (fun c92 => ?_)
      · refine J_vret rfl d_X_init_114 ⟨by show 57 + 5 * i ≤ 97; omega, by show 1409 + 40 * i ≤ 1729; omega⟩ ?_
        exact ⟨rfl, by omega, fun j hj => (hA j (by omega)).trans (CA0 j (by omega)), fun j hj => (hB j (by omega) (by omega)).trans (CB0 j (by omega) (by omega)), hE0, ⟨h, h1, fun j hj => hn j (by omega)⟩, hQ2.mv (fun j q1 q2 => hA j (by omega)) (fun j q1 q2 => hB j (by omega) (by omega)), hQ3.mv (fun j q1 q2 => hA j (by omega)) (fun j q1 q2 => hB j (by omega) (by omega)), hQ4.mv (fun j q1 q2 => hA j (by omega)) (fun j q1 q2 => hB j (by omega) (by omega)), (by rw [hB (k + 41) (by omega) (by omega), hQ5, hA (k + 7) (by omega)]), (by rw [hB (k + 42) (by omega) (by omega), hQ6, hA (k + 7) (by omega)]), hQ7.mv (fun j q1 q2 => hA j (by omega)) (fun j q1 q2 => hB j (by omega) (by omega))⟩
      · refine J_aload_n 1 d_X_init_95 rfl rfl ?_
        refine gf_X_11 (by omega) hE0 rfl d_X_init_96 ?_
        refine J_iload_n 0 d_X_init_99 rfl rfl ?_
        refine J_new (C := "NumberTower$Num") (T := F_U) (n := 4) (ci := 3) (fs := [.int (iI 0), .int (iI 0), .null, .null]) in_U tt_U tt_U_ok rfl wd_28 wd_30 wd_2 df_U ⟨by show 57 + 5 * i + 1 ≤ 97; omega, by show 1409 + 40 * i + 4 ≤ 1729; omega⟩ d_X_init_100 (fun b2 hb2 => ?_)
        subst hM
        rw [← hb2 k (by omega), ← hb2 (k + 1) (by omega)]
        refine J_dup d_X_init_103 rfl ?_
        refine J_callI cw_X_15 rfl nh_U_init pn_U_init rfl (As := []) (rest := [.ref (b2 (k + 58 + 5 * i)), .int (iI (i : Int)), .ref (b2 (k + 1))]) rfl (Nat.le_of_ble_eq_true rfl) ⟨by decide, by decide⟩ ⟨by show 57 + 5 * i + 1 + 4 ≤ 97; omega, by show 1409 + 40 * i + 4 + 36 ≤ 1729; omega⟩ d_X_init_104 (c_U_init hfl (k := k + 58 + 5 * i) (ad := b2) (F := va_up E (k + 58 + 5 * i) (.inr (3, [.int (iI 0), .int (iI 0), .null, .null]))) (va_up_self ..)) (fun v b3 M3 E3 hq => ?_) (fun _ _ _ _ hq => by obtain ⟨hv, -⟩ := hq; cases hv)
        obtain ⟨hv, hM3, hA3, hE3, hP3⟩ := hq
        cases hv
        rw [← hA3 k (by omega), ← hA3 (k + 1) (by omega), ← hA3 (k + 58 + 5 * i) (by omega)]
        have hE31 : E3 (k + 1) = .inl (g 4, 8, .inr (.inr (.inr (.inr h)))) := (hE3 (k + 1) (by omega)).trans ((va_up_ne _ _ (by omega)).trans h1)
        refine J_aastore (r := ("NumberTower$Num", F_U, 4)) 4 rfl (by omega) hE31 (by omega) hP3.1 rfl ⟨by omega, by omega, by omega⟩ d_X_init_107 ?_
        refine J_iinc (j := 0) (b := ((i + 1 : Nat) : Int)) (lv' := [(1, .int (iI ((i + 1 : Nat) : Int))), (0, .ref (b3 k))]) d_X_init_108 rfl (by omega) (by decide) rfl ?_
        refine J_goto (tgt := 89) d_X_init_111 (by decide) ?_
        refine J_widen (kc' := 57 + 5 * (i + 1)) (ks' := 1409 + 40 * (i + 1)) (by show 57 + 5 * i + 1 + 4 ≤ 57 + 5 * (i + 1); omega) (by show 1409 + 40 * i + 4 + 36 ≤ 1409 + 40 * (i + 1); omega) ?_
        have hAb : ∀ j, j < k + 58 + 5 * i → b3 j = b j := fun j hj => (hA3 j (by omega)).trans (hb2 j (by omega))
        have hBb : ∀ j, j < k + 58 + 5 * i → E3 j = E j := fun j hj => (hE3 j hj).trans (va_up_ne _ _ (by omega))
        exact ih (i + 1) b3 M3 (va_up E3 (k + 1) (.inl (g 4, 8, .inr (.inr (.inr (.inr (va_up h (i : Int).toNat (some (b3 (k + 58 + 5 * i))))))))) ) (va_up h (i : Int).toNat (some (b3 (k + 58 + 5 * i)))) (by omega) (by omega) (by omega)
          (fun j hj => (hAb j (by omega)).trans (hA j hj)) (fun j hj hj1 => (va_up_ne _ _ hj1).trans ((hBb j (by omega)).trans (hB j hj hj1))) (va_up_self ..)
          (fun j hj => by
            by_cases c : j = i
            · subst c
              refine ⟨by rw [Int.toNat_natCast]; exact va_up_self .., hP3.mv (fun _ _ _ => rfl) (fun q q1 q2 => va_up_ne _ _ (by omega))⟩
            · obtain ⟨g1, g2⟩ := hn j (by omega)
              refine ⟨by rw [Int.toNat_natCast, va_up_ne _ _ c, g1, hAb _ (by omega)], g2.mv (fun q q1 q2 => hAb q (by omega)) (fun q q1 q2 => (va_up_ne _ _ (by omega)).trans (hBb q (by omega)))⟩)
  refine J_widen (kc' := 57 + 5 * 0) (ks' := 1409 + 40 * 0) (by decide) (by decide) ?_
  exact loop 9 0 a7 (k + 58) G7 (fun _ => none) (by decide) (by decide) (by omega) (fun _ _ => rfl) (fun _ _ _ => rfl) ((CB1 (k + 1) (by omega) (by omega)).trans hP1) (fun j hj => absurd hj (Nat.not_lt_zero _))
def modP (g : Nat → ClassId) (ad : Nat → Nat) (F : Nat → va_E) (k : Nat) : Prop := F k = .inr (8, [.ref (ad (k + 1)), .ref (ad (k + 2)), .ref (ad (k + 3)), .ref (ad (k + 4)), .ref (ad (k + 5)), .int (iI 0), .int (iI 0), .int (iI 0), .int (iI 0), .double 0, .int (iI 0), .ref (ad (k + 6)), .int (iI 0), .ref (ad (k + 7)), .int (iI 0), .ref (ad (k + 8)), .int (iI 0), .ref (ad (k + 9)), .int (iI 0), .int (iI 0), .int (iI 0), .int (iI 0), .int (iI 0), .int (iI 0), .int (iI 0), .int (iI 0), .int (iI 0), .int (iI 0), .int (iI 0), .int (iI 0)]) ∧ F (k + 1) = .inl (g 0, 858, .inl (aI fun _ => 0)) ∧ F (k + 2) = .inl (g 0, 33, .inl (aI fun _ => 0)) ∧ F (k + 3) = .inl (g 0, 8, .inl (aI (va_up (va_up (va_up (va_up (va_up (va_up (va_up (va_up (fun _ => 0) 0 (-1)) 1 (-1)) 2 (-1)) 3 (-1)) 4 (-1)) 5 (-1)) 6 (-1)) 7 (-1)))) ∧ F (k + 4) = .inl (g 2, 8, .inl (aI fun _ => 0)) ∧ F (k + 5) = .inl (g 3, 8, .inr (.inr (.inr (.inl fun _ => 0)))) ∧ F (k + 6) = .inl (g 0, 40, .inl (aI fun _ => 0)) ∧ F (k + 7) = .inl (g 0, 260, .inl (aI fun _ => 0)) ∧ F (k + 8) = .inl (g 0, 200, .inl (aI fun _ => 0)) ∧ F (k + 9) = .inl (g 0, 260, .inl (aI fun _ => 0))
set_option maxRecDepth 100000 in
set_option maxHeartbeats 4000000 in
theorem c_M_init {l : Launch} (hfl : l.flags = flags0) {D : va_G} {g : Nat → ClassId} {ad : Nat → Nat} {k : Nat} {F : Nat → va_E} (hF : F k = .inr (8, [.null, .null, .null, .null, .null, .int (iI 0), .int (iI 0), .int (iI 0), .int (iI 0), .double 0, .int (iI 0), .null, .int (iI 0), .null, .int (iI 0), .null, .int (iI 0), .null, .int (iI 0), .int (iI 0), .int (iI 0), .int (iI 0), .int (iI 0), .int (iI 0), .int (iI 0), .int (iI 0), .int (iI 0), .int (iI 0), .int (iI 0), .int (iI 0)])) :
    JC l y_M_init b_M_init 1 (Option.none : Option FieldType) rn_M (9, 1675) D jCl (jTys g) ad (k + 1) F [.ref (ad k)] (jnw ad F k 10 (modP g)) := by
  refine JC.go hfl (own := "NumberTowerModel") (lv := [(0, .ref (ad k))]) rfl (by decide +kernel) (Nat.le_of_ble_eq_true rfl) rfl (fun A => ?_)
  refine J_aload_n 0 d_M_init_0 rfl rfl ?_
  refine J_objInit wd_984 (by decide) (by decide) d_M_init_1 ?_
  refine J_aload_n 0 d_M_init_4 rfl rfl ?_
  refine J_sipush d_M_init_5 (i16_ok (by decide)) ?_
  refine J_newarr (n := 858) (cA := g 0) (a0 := (858, .inl (aI fun _ => 0))) 0 rfl rfl (fun _ _ h => h) (fun _ => rfl) wd_52 (by decide) (by decide) ⟨by decide, by decide⟩ d_M_init_8 (fun a1 h1 => ?_)
  rw [← h1 k (by omega)]
  obtain ⟨E1, hEE1⟩ : ∃ G, G = va_up F (k + 1) (.inl (g 0, 858, .inl (aI fun _ => 0))) := ⟨_, rfl⟩
  refine J_eqF (F2 := E1) hEE1.symm ?_
  have hk1a : E1 k = .inr (8, [.null, .null, .null, .null, .null, .int (iI 0), .int (iI 0), .int (iI 0), .int (iI 0), .double 0, .int (iI 0), .null, .int (iI 0), .null, .int (iI 0), .null, .int (iI 0), .null, .int (iI 0), .int (iI 0), .int (iI 0), .int (iI 0), .int (iI 0), .int (iI 0), .int (iI 0), .int (iI 0), .int (iI 0), .int (iI 0), .int (iI 0), .int (iI 0)]) := by rw [hEE1]; exact ((va_up_ne _ _ (by omega)).trans hF)
  have hP1a : E1 (k + 1) = .inl (g 0, 858, .inl (aI fun _ => 0)) := by rw [hEE1]; exact va_up_self ..
  have hfr1 : ∀ j, j ≠ k + 1 → E1 j = F j := fun j hj => by rw [hEE1]; exact va_up_ne _ _ hj
  refine pf_M_7 (by omega) hk1a (Nat.le_of_ble_eq_true rfl) rfl (fun _ _ h => h) d_M_init_10 ?_
  obtain ⟨G1, hG1⟩ : ∃ G, G = va_up E1 k (.inr (8, [.ref (a1 (k + 1)), .null, .null, .null, .null, .int (iI 0), .int (iI 0), .int (iI 0), .int (iI 0), .double 0, .int (iI 0), .null, .int (iI 0), .null, .int (iI 0), .null, .int (iI 0), .null, .int (iI 0), .int (iI 0), .int (iI 0), .int (iI 0), .int (iI 0), .int (iI 0), .int (iI 0), .int (iI 0), .int (iI 0), .int (iI 0), .int (iI 0), .int (iI 0)])) := ⟨_, rfl⟩
  refine J_eqF (F2 := G1) hG1.symm ?_
  have hk1 : G1 k = .inr (8, [.ref (a1 (k + 1)), .null, .null, .null, .null, .int (iI 0), .int (iI 0), .int (iI 0), .int (iI 0), .double 0, .int (iI 0), .null, .int (iI 0), .null, .int (iI 0), .null, .int (iI 0), .null, .int (iI 0), .int (iI 0), .int (iI 0), .int (iI 0), .int (iI 0), .int (iI 0), .int (iI 0), .int (iI 0), .int (iI 0), .int (iI 0), .int (iI 0), .int (iI 0)]) := by rw [hG1]; exact va_up_self ..
  have A1 : ∀ j, j < k + 1 → a1 j = ad j := fun j hj => h1 j (by omega)
  have B1 : ∀ j, j < k + 1 → j ≠ k → G1 j = F j := fun j hj hjk => by
    rw [hG1, va_up_ne _ _ hjk]
    exact hfr1 j (by omega)
  have hP1 : G1 (k + 1) = .inl (g 0, 858, .inl (aI fun _ => 0)) := by rw [hG1]; exact (va_up_ne _ _ (by omega)).trans hP1a
  refine J_aload_n 0 d_M_init_13 rfl rfl ?_
  refine J_bipush d_M_init_14 (i8_ok (by decide)) ?_
  refine J_newarr (n := 33) (cA := g 0) (a0 := (33, .inl (aI fun _ => 0))) 0 rfl rfl (fun _ _ h => h) (fun _ => rfl) wd_52 (by decide) (by decide) ⟨by decide, by decide⟩ d_M_init_16 (fun a2 h2 => ?_)
  rw [← h2 k (by omega)]
  obtain ⟨E2, hEE2⟩ : ∃ G, G = va_up G1 (k + 2) (.inl (g 0, 33, .inl (aI fun _ => 0))) := ⟨_, rfl⟩
  refine J_eqF (F2 := E2) hEE2.symm ?_
  have hk2a : E2 k = .inr (8, [.ref (a1 (k + 1)), .null, .null, .null, .null, .int (iI 0), .int (iI 0), .int (iI 0), .int (iI 0), .double 0, .int (iI 0), .null, .int (iI 0), .null, .int (iI 0), .null, .int (iI 0), .null, .int (iI 0), .int (iI 0), .int (iI 0), .int (iI 0), .int (iI 0), .int (iI 0), .int (iI 0), .int (iI 0), .int (iI 0), .int (iI 0), .int (iI 0), .int (iI 0)]) := by rw [hEE2]; exact ((va_up_ne _ _ (by omega)).trans hk1)
  have hP2a : E2 (k + 2) = .inl (g 0, 33, .inl (aI fun _ => 0)) := by rw [hEE2]; exact va_up_self ..
  have hfr2 : ∀ j, j ≠ k + 2 → E2 j = G1 j := fun j hj => by rw [hEE2]; exact va_up_ne _ _ hj
  refine pf_M_13 (by omega) hk2a (Nat.le_of_ble_eq_true rfl) rfl (fun _ _ h => h) d_M_init_18 ?_
  obtain ⟨G2, hG2⟩ : ∃ G, G = va_up E2 k (.inr (8, [.ref (a1 (k + 1)), .ref (a2 (k + 2)), .null, .null, .null, .int (iI 0), .int (iI 0), .int (iI 0), .int (iI 0), .double 0, .int (iI 0), .null, .int (iI 0), .null, .int (iI 0), .null, .int (iI 0), .null, .int (iI 0), .int (iI 0), .int (iI 0), .int (iI 0), .int (iI 0), .int (iI 0), .int (iI 0), .int (iI 0), .int (iI 0), .int (iI 0), .int (iI 0), .int (iI 0)])) := ⟨_, rfl⟩
  refine J_eqF (F2 := G2) hG2.symm ?_
  have hk2 : G2 k = .inr (8, [.ref (a1 (k + 1)), .ref (a2 (k + 2)), .null, .null, .null, .int (iI 0), .int (iI 0), .int (iI 0), .int (iI 0), .double 0, .int (iI 0), .null, .int (iI 0), .null, .int (iI 0), .null, .int (iI 0), .null, .int (iI 0), .int (iI 0), .int (iI 0), .int (iI 0), .int (iI 0), .int (iI 0), .int (iI 0), .int (iI 0), .int (iI 0), .int (iI 0), .int (iI 0), .int (iI 0)]) := by rw [hG2]; exact va_up_self ..
  have A2 : ∀ j, j < k + 2 → a2 j = a1 j := fun j hj => h2 j (by omega)
  have B2 : ∀ j, j < k + 2 → j ≠ k → G2 j = G1 j := fun j hj hjk => by
    rw [hG2, va_up_ne _ _ hjk]
    exact hfr2 j (by omega)
  have hP2 : G2 (k + 2) = .inl (g 0, 33, .inl (aI fun _ => 0)) := by rw [hG2]; exact (va_up_ne _ _ (by omega)).trans hP2a
  refine J_aload_n 0 d_M_init_21 rfl rfl ?_
  refine J_bipush d_M_init_22 (i8_ok (by decide)) ?_
  refine J_newarr (n := 8) (cA := g 0) (a0 := (8, .inl (aI fun _ => 0))) 0 rfl rfl (fun _ _ h => h) (fun _ => rfl) wd_52 (by decide) (by decide) ⟨by decide, by decide⟩ d_M_init_24 (fun a3 h3 => ?_)
  rw [← h3 k (by omega)]
  obtain ⟨E3, hEE3⟩ : ∃ G, G = va_up G2 (k + 3) (.inl (g 0, 8, .inl (aI fun _ => 0))) := ⟨_, rfl⟩
  refine J_eqF (F2 := E3) hEE3.symm ?_
  have hk3a : E3 k = .inr (8, [.ref (a1 (k + 1)), .ref (a2 (k + 2)), .null, .null, .null, .int (iI 0), .int (iI 0), .int (iI 0), .int (iI 0), .double 0, .int (iI 0), .null, .int (iI 0), .null, .int (iI 0), .null, .int (iI 0), .null, .int (iI 0), .int (iI 0), .int (iI 0), .int (iI 0), .int (iI 0), .int (iI 0), .int (iI 0), .int (iI 0), .int (iI 0), .int (iI 0), .int (iI 0), .int (iI 0)]) := by rw [hEE3]; exact ((va_up_ne _ _ (by omega)).trans hk2)
  have hP3a : E3 (k + 3) = .inl (g 0, 8, .inl (aI fun _ => 0)) := by rw [hEE3]; exact va_up_self ..
  have hfr3 : ∀ j, j ≠ k + 3 → E3 j = G2 j := fun j hj => by rw [hEE3]; exact va_up_ne _ _ hj
  refine J_dup d_M_init_26 rfl ?_
  refine J_iconst d_M_init_27 ?_
  refine J_iconst d_M_init_28 ?_
  refine J_iastore 0 rfl (by omega) hP3a ⟨by decide, by decide, by decide⟩ d_M_init_29 ?_
  obtain ⟨E3_0, hE3_0⟩ : ∃ G, G = va_up E3 (k + 3) (.inl (g 0, 8, .inl (aI (va_up (fun _ => 0) 0 (-1))))) := ⟨_, rfl⟩
  refine J_eqF (F2 := E3_0) hE3_0.symm ?_
  have hk3_0 : E3_0 k = .inr (8, [.ref (a1 (k + 1)), .ref (a2 (k + 2)), .null, .null, .null, .int (iI 0), .int (iI 0), .int (iI 0), .int (iI 0), .double 0, .int (iI 0), .null, .int (iI 0), .null, .int (iI 0), .null, .int (iI 0), .null, .int (iI 0), .int (iI 0), .int (iI 0), .int (iI 0), .int (iI 0), .int (iI 0), .int (iI 0), .int (iI 0), .int (iI 0), .int (iI 0), .int (iI 0), .int (iI 0)]) := by rw [hE3_0]; exact (va_up_ne _ _ (by omega)).trans hk3a
  have hP3_0 : E3_0 (k + 3) = .inl (g 0, 8, .inl (aI (va_up (fun _ => 0) 0 (-1)))) := by rw [hE3_0]; exact va_up_self ..
  have hf3_0 : ∀ j, j ≠ k + 3 → E3_0 j = G2 j := fun j hj => by rw [hE3_0]; exact (va_up_ne _ _ hj).trans (hfr3 j hj)
  refine J_dup d_M_init_30 rfl ?_
  refine J_iconst d_M_init_31 ?_
  refine J_iconst d_M_init_32 ?_
  refine J_iastore 0 rfl (by omega) hP3_0 ⟨by decide, by decide, by decide⟩ d_M_init_33 ?_
  obtain ⟨E3_1, hE3_1⟩ : ∃ G, G = va_up E3_0 (k + 3) (.inl (g 0, 8, .inl (aI (va_up (va_up (fun _ => 0) 0 (-1)) 1 (-1))))) := ⟨_, rfl⟩
  refine J_eqF (F2 := E3_1) hE3_1.symm ?_
  have hk3_1 : E3_1 k = .inr (8, [.ref (a1 (k + 1)), .ref (a2 (k + 2)), .null, .null, .null, .int (iI 0), .int (iI 0), .int (iI 0), .int (iI 0), .double 0, .int (iI 0), .null, .int (iI 0), .null, .int (iI 0), .null, .int (iI 0), .null, .int (iI 0), .int (iI 0), .int (iI 0), .int (iI 0), .int (iI 0), .int (iI 0), .int (iI 0), .int (iI 0), .int (iI 0), .int (iI 0), .int (iI 0), .int (iI 0)]) := by rw [hE3_1]; exact (va_up_ne _ _ (by omega)).trans hk3_0
  have hP3_1 : E3_1 (k + 3) = .inl (g 0, 8, .inl (aI (va_up (va_up (fun _ => 0) 0 (-1)) 1 (-1)))) := by rw [hE3_1]; exact va_up_self ..
  have hf3_1 : ∀ j, j ≠ k + 3 → E3_1 j = G2 j := fun j hj => by rw [hE3_1]; exact (va_up_ne _ _ hj).trans (hf3_0 j hj)
  refine J_dup d_M_init_34 rfl ?_
  refine J_iconst d_M_init_35 ?_
  refine J_iconst d_M_init_36 ?_
  refine J_iastore 0 rfl (by omega) hP3_1 ⟨by decide, by decide, by decide⟩ d_M_init_37 ?_
  obtain ⟨E3_2, hE3_2⟩ : ∃ G, G = va_up E3_1 (k + 3) (.inl (g 0, 8, .inl (aI (va_up (va_up (va_up (fun _ => 0) 0 (-1)) 1 (-1)) 2 (-1))))) := ⟨_, rfl⟩
  refine J_eqF (F2 := E3_2) hE3_2.symm ?_
  have hk3_2 : E3_2 k = .inr (8, [.ref (a1 (k + 1)), .ref (a2 (k + 2)), .null, .null, .null, .int (iI 0), .int (iI 0), .int (iI 0), .int (iI 0), .double 0, .int (iI 0), .null, .int (iI 0), .null, .int (iI 0), .null, .int (iI 0), .null, .int (iI 0), .int (iI 0), .int (iI 0), .int (iI 0), .int (iI 0), .int (iI 0), .int (iI 0), .int (iI 0), .int (iI 0), .int (iI 0), .int (iI 0), .int (iI 0)]) := by rw [hE3_2]; exact (va_up_ne _ _ (by omega)).trans hk3_1
  have hP3_2 : E3_2 (k + 3) = .inl (g 0, 8, .inl (aI (va_up (va_up (va_up (fun _ => 0) 0 (-1)) 1 (-1)) 2 (-1)))) := by rw [hE3_2]; exact va_up_self ..
  have hf3_2 : ∀ j, j ≠ k + 3 → E3_2 j = G2 j := fun j hj => by rw [hE3_2]; exact (va_up_ne _ _ hj).trans (hf3_1 j hj)
  refine J_dup d_M_init_38 rfl ?_
  refine J_iconst d_M_init_39 ?_
  refine J_iconst d_M_init_40 ?_
  refine J_iastore 0 rfl (by omega) hP3_2 ⟨by decide, by decide, by decide⟩ d_M_init_41 ?_
  obtain ⟨E3_3, hE3_3⟩ : ∃ G, G = va_up E3_2 (k + 3) (.inl (g 0, 8, .inl (aI (va_up (va_up (va_up (va_up (fun _ => 0) 0 (-1)) 1 (-1)) 2 (-1)) 3 (-1))))) := ⟨_, rfl⟩
  refine J_eqF (F2 := E3_3) hE3_3.symm ?_
  have hk3_3 : E3_3 k = .inr (8, [.ref (a1 (k + 1)), .ref (a2 (k + 2)), .null, .null, .null, .int (iI 0), .int (iI 0), .int (iI 0), .int (iI 0), .double 0, .int (iI 0), .null, .int (iI 0), .null, .int (iI 0), .null, .int (iI 0), .null, .int (iI 0), .int (iI 0), .int (iI 0), .int (iI 0), .int (iI 0), .int (iI 0), .int (iI 0), .int (iI 0), .int (iI 0), .int (iI 0), .int (iI 0), .int (iI 0)]) := by rw [hE3_3]; exact (va_up_ne _ _ (by omega)).trans hk3_2
  have hP3_3 : E3_3 (k + 3) = .inl (g 0, 8, .inl (aI (va_up (va_up (va_up (va_up (fun _ => 0) 0 (-1)) 1 (-1)) 2 (-1)) 3 (-1)))) := by rw [hE3_3]; exact va_up_self ..
  have hf3_3 : ∀ j, j ≠ k + 3 → E3_3 j = G2 j := fun j hj => by rw [hE3_3]; exact (va_up_ne _ _ hj).trans (hf3_2 j hj)
  refine J_dup d_M_init_42 rfl ?_
  refine J_iconst d_M_init_43 ?_
  refine J_iconst d_M_init_44 ?_
  refine J_iastore 0 rfl (by omega) hP3_3 ⟨by decide, by decide, by decide⟩ d_M_init_45 ?_
  obtain ⟨E3_4, hE3_4⟩ : ∃ G, G = va_up E3_3 (k + 3) (.inl (g 0, 8, .inl (aI (va_up (va_up (va_up (va_up (va_up (fun _ => 0) 0 (-1)) 1 (-1)) 2 (-1)) 3 (-1)) 4 (-1))))) := ⟨_, rfl⟩
  refine J_eqF (F2 := E3_4) hE3_4.symm ?_
  have hk3_4 : E3_4 k = .inr (8, [.ref (a1 (k + 1)), .ref (a2 (k + 2)), .null, .null, .null, .int (iI 0), .int (iI 0), .int (iI 0), .int (iI 0), .double 0, .int (iI 0), .null, .int (iI 0), .null, .int (iI 0), .null, .int (iI 0), .null, .int (iI 0), .int (iI 0), .int (iI 0), .int (iI 0), .int (iI 0), .int (iI 0), .int (iI 0), .int (iI 0), .int (iI 0), .int (iI 0), .int (iI 0), .int (iI 0)]) := by rw [hE3_4]; exact (va_up_ne _ _ (by omega)).trans hk3_3
  have hP3_4 : E3_4 (k + 3) = .inl (g 0, 8, .inl (aI (va_up (va_up (va_up (va_up (va_up (fun _ => 0) 0 (-1)) 1 (-1)) 2 (-1)) 3 (-1)) 4 (-1)))) := by rw [hE3_4]; exact va_up_self ..
  have hf3_4 : ∀ j, j ≠ k + 3 → E3_4 j = G2 j := fun j hj => by rw [hE3_4]; exact (va_up_ne _ _ hj).trans (hf3_3 j hj)
  refine J_dup d_M_init_46 rfl ?_
  refine J_iconst d_M_init_47 ?_
  refine J_iconst d_M_init_48 ?_
  refine J_iastore 0 rfl (by omega) hP3_4 ⟨by decide, by decide, by decide⟩ d_M_init_49 ?_
  obtain ⟨E3_5, hE3_5⟩ : ∃ G, G = va_up E3_4 (k + 3) (.inl (g 0, 8, .inl (aI (va_up (va_up (va_up (va_up (va_up (va_up (fun _ => 0) 0 (-1)) 1 (-1)) 2 (-1)) 3 (-1)) 4 (-1)) 5 (-1))))) := ⟨_, rfl⟩
  refine J_eqF (F2 := E3_5) hE3_5.symm ?_
  have hk3_5 : E3_5 k = .inr (8, [.ref (a1 (k + 1)), .ref (a2 (k + 2)), .null, .null, .null, .int (iI 0), .int (iI 0), .int (iI 0), .int (iI 0), .double 0, .int (iI 0), .null, .int (iI 0), .null, .int (iI 0), .null, .int (iI 0), .null, .int (iI 0), .int (iI 0), .int (iI 0), .int (iI 0), .int (iI 0), .int (iI 0), .int (iI 0), .int (iI 0), .int (iI 0), .int (iI 0), .int (iI 0), .int (iI 0)]) := by rw [hE3_5]; exact (va_up_ne _ _ (by omega)).trans hk3_4
  have hP3_5 : E3_5 (k + 3) = .inl (g 0, 8, .inl (aI (va_up (va_up (va_up (va_up (va_up (va_up (fun _ => 0) 0 (-1)) 1 (-1)) 2 (-1)) 3 (-1)) 4 (-1)) 5 (-1)))) := by rw [hE3_5]; exact va_up_self ..
  have hf3_5 : ∀ j, j ≠ k + 3 → E3_5 j = G2 j := fun j hj => by rw [hE3_5]; exact (va_up_ne _ _ hj).trans (hf3_4 j hj)
  refine J_dup d_M_init_50 rfl ?_
  refine J_bipush d_M_init_51 (i8_ok (by decide)) ?_
  refine J_iconst d_M_init_53 ?_
  refine J_iastore 0 rfl (by omega) hP3_5 ⟨by decide, by decide, by decide⟩ d_M_init_54 ?_
  obtain ⟨E3_6, hE3_6⟩ : ∃ G, G = va_up E3_5 (k + 3) (.inl (g 0, 8, .inl (aI (va_up (va_up (va_up (va_up (va_up (va_up (va_up (fun _ => 0) 0 (-1)) 1 (-1)) 2 (-1)) 3 (-1)) 4 (-1)) 5 (-1)) 6 (-1))))) := ⟨_, rfl⟩
  refine J_eqF (F2 := E3_6) hE3_6.symm ?_
  have hk3_6 : E3_6 k = .inr (8, [.ref (a1 (k + 1)), .ref (a2 (k + 2)), .null, .null, .null, .int (iI 0), .int (iI 0), .int (iI 0), .int (iI 0), .double 0, .int (iI 0), .null, .int (iI 0), .null, .int (iI 0), .null, .int (iI 0), .null, .int (iI 0), .int (iI 0), .int (iI 0), .int (iI 0), .int (iI 0), .int (iI 0), .int (iI 0), .int (iI 0), .int (iI 0), .int (iI 0), .int (iI 0), .int (iI 0)]) := by rw [hE3_6]; exact (va_up_ne _ _ (by omega)).trans hk3_5
  have hP3_6 : E3_6 (k + 3) = .inl (g 0, 8, .inl (aI (va_up (va_up (va_up (va_up (va_up (va_up (va_up (fun _ => 0) 0 (-1)) 1 (-1)) 2 (-1)) 3 (-1)) 4 (-1)) 5 (-1)) 6 (-1)))) := by rw [hE3_6]; exact va_up_self ..
  have hf3_6 : ∀ j, j ≠ k + 3 → E3_6 j = G2 j := fun j hj => by rw [hE3_6]; exact (va_up_ne _ _ hj).trans (hf3_5 j hj)
  refine J_dup d_M_init_55 rfl ?_
  refine J_bipush d_M_init_56 (i8_ok (by decide)) ?_
  refine J_iconst d_M_init_58 ?_
  refine J_iastore 0 rfl (by omega) hP3_6 ⟨by decide, by decide, by decide⟩ d_M_init_59 ?_
  obtain ⟨E3_7, hE3_7⟩ : ∃ G, G = va_up E3_6 (k + 3) (.inl (g 0, 8, .inl (aI (va_up (va_up (va_up (va_up (va_up (va_up (va_up (va_up (fun _ => 0) 0 (-1)) 1 (-1)) 2 (-1)) 3 (-1)) 4 (-1)) 5 (-1)) 6 (-1)) 7 (-1))))) := ⟨_, rfl⟩
  refine J_eqF (F2 := E3_7) hE3_7.symm ?_
  have hk3_7 : E3_7 k = .inr (8, [.ref (a1 (k + 1)), .ref (a2 (k + 2)), .null, .null, .null, .int (iI 0), .int (iI 0), .int (iI 0), .int (iI 0), .double 0, .int (iI 0), .null, .int (iI 0), .null, .int (iI 0), .null, .int (iI 0), .null, .int (iI 0), .int (iI 0), .int (iI 0), .int (iI 0), .int (iI 0), .int (iI 0), .int (iI 0), .int (iI 0), .int (iI 0), .int (iI 0), .int (iI 0), .int (iI 0)]) := by rw [hE3_7]; exact (va_up_ne _ _ (by omega)).trans hk3_6
  have hP3_7 : E3_7 (k + 3) = .inl (g 0, 8, .inl (aI (va_up (va_up (va_up (va_up (va_up (va_up (va_up (va_up (fun _ => 0) 0 (-1)) 1 (-1)) 2 (-1)) 3 (-1)) 4 (-1)) 5 (-1)) 6 (-1)) 7 (-1)))) := by rw [hE3_7]; exact va_up_self ..
  have hf3_7 : ∀ j, j ≠ k + 3 → E3_7 j = G2 j := fun j hj => by rw [hE3_7]; exact (va_up_ne _ _ hj).trans (hf3_6 j hj)
  refine pf_M_16 (by omega) hk3_7 (Nat.le_of_ble_eq_true rfl) rfl (fun _ _ h => h) d_M_init_60 ?_
  obtain ⟨G3, hG3⟩ : ∃ G, G = va_up E3_7 k (.inr (8, [.ref (a1 (k + 1)), .ref (a2 (k + 2)), .ref (a3 (k + 3)), .null, .null, .int (iI 0), .int (iI 0), .int (iI 0), .int (iI 0), .double 0, .int (iI 0), .null, .int (iI 0), .null, .int (iI 0), .null, .int (iI 0), .null, .int (iI 0), .int (iI 0), .int (iI 0), .int (iI 0), .int (iI 0), .int (iI 0), .int (iI 0), .int (iI 0), .int (iI 0), .int (iI 0), .int (iI 0), .int (iI 0)])) := ⟨_, rfl⟩
  refine J_eqF (F2 := G3) hG3.symm ?_
  have hk3 : G3 k = .inr (8, [.ref (a1 (k + 1)), .ref (a2 (k + 2)), .ref (a3 (k + 3)), .null, .null, .int (iI 0), .int (iI 0), .int (iI 0), .int (iI 0), .double 0, .int (iI 0), .null, .int (iI 0), .null, .int (iI 0), .null, .int (iI 0), .null, .int (iI 0), .int (iI 0), .int (iI 0), .int (iI 0), .int (iI 0), .int (iI 0), .int (iI 0), .int (iI 0), .int (iI 0), .int (iI 0), .int (iI 0), .int (iI 0)]) := by rw [hG3]; exact va_up_self ..
  have A3 : ∀ j, j < k + 3 → a3 j = a2 j := fun j hj => h3 j (by omega)
  have B3 : ∀ j, j < k + 3 → j ≠ k → G3 j = G2 j := fun j hj hjk => by
    rw [hG3, va_up_ne _ _ hjk]
    exact hf3_7 j (by omega)
  have hP3 : G3 (k + 3) = .inl (g 0, 8, .inl (aI (va_up (va_up (va_up (va_up (va_up (va_up (va_up (va_up (fun _ => 0) 0 (-1)) 1 (-1)) 2 (-1)) 3 (-1)) 4 (-1)) 5 (-1)) 6 (-1)) 7 (-1)))) := by rw [hG3]; exact (va_up_ne _ _ (by omega)).trans hP3_7
  refine J_aload_n 0 d_M_init_63 rfl rfl ?_
  refine J_bipush d_M_init_64 (i8_ok (by decide)) ?_
  refine J_newarr (n := 8) (cA := g 2) (a0 := (8, .inl (aI fun _ => 0))) 2 rfl rfl (fun _ _ h => h) (fun _ => rfl) wd_1076 (by decide) (by decide) ⟨by decide, by decide⟩ d_M_init_66 (fun a4 h4 => ?_)
  rw [← h4 k (by omega)]
  obtain ⟨E4, hEE4⟩ : ∃ G, G = va_up G3 (k + 4) (.inl (g 2, 8, .inl (aI fun _ => 0))) := ⟨_, rfl⟩
  refine J_eqF (F2 := E4) hEE4.symm ?_
  have hk4a : E4 k = .inr (8, [.ref (a1 (k + 1)), .ref (a2 (k + 2)), .ref (a3 (k + 3)), .null, .null, .int (iI 0), .int (iI 0), .int (iI 0), .int (iI 0), .double 0, .int (iI 0), .null, .int (iI 0), .null, .int (iI 0), .null, .int (iI 0), .null, .int (iI 0), .int (iI 0), .int (iI 0), .int (iI 0), .int (iI 0), .int (iI 0), .int (iI 0), .int (iI 0), .int (iI 0), .int (iI 0), .int (iI 0), .int (iI 0)]) := by rw [hEE4]; exact ((va_up_ne _ _ (by omega)).trans hk3)
  have hP4a : E4 (k + 4) = .inl (g 2, 8, .inl (aI fun _ => 0)) := by rw [hEE4]; exact va_up_self ..
  have hfr4 : ∀ j, j ≠ k + 4 → E4 j = G3 j := fun j hj => by rw [hEE4]; exact va_up_ne _ _ hj
  refine pf_M_19 (by omega) hk4a (Nat.le_of_ble_eq_true rfl) rfl (fun _ _ h => h) d_M_init_68 ?_
  obtain ⟨G4, hG4⟩ : ∃ G, G = va_up E4 k (.inr (8, [.ref (a1 (k + 1)), .ref (a2 (k + 2)), .ref (a3 (k + 3)), .ref (a4 (k + 4)), .null, .int (iI 0), .int (iI 0), .int (iI 0), .int (iI 0), .double 0, .int (iI 0), .null, .int (iI 0), .null, .int (iI 0), .null, .int (iI 0), .null, .int (iI 0), .int (iI 0), .int (iI 0), .int (iI 0), .int (iI 0), .int (iI 0), .int (iI 0), .int (iI 0), .int (iI 0), .int (iI 0), .int (iI 0), .int (iI 0)])) := ⟨_, rfl⟩
  refine J_eqF (F2 := G4) hG4.symm ?_
  have hk4 : G4 k = .inr (8, [.ref (a1 (k + 1)), .ref (a2 (k + 2)), .ref (a3 (k + 3)), .ref (a4 (k + 4)), .null, .int (iI 0), .int (iI 0), .int (iI 0), .int (iI 0), .double 0, .int (iI 0), .null, .int (iI 0), .null, .int (iI 0), .null, .int (iI 0), .null, .int (iI 0), .int (iI 0), .int (iI 0), .int (iI 0), .int (iI 0), .int (iI 0), .int (iI 0), .int (iI 0), .int (iI 0), .int (iI 0), .int (iI 0), .int (iI 0)]) := by rw [hG4]; exact va_up_self ..
  have A4 : ∀ j, j < k + 4 → a4 j = a3 j := fun j hj => h4 j (by omega)
  have B4 : ∀ j, j < k + 4 → j ≠ k → G4 j = G3 j := fun j hj hjk => by
    rw [hG4, va_up_ne _ _ hjk]
    exact hfr4 j (by omega)
  have hP4 : G4 (k + 4) = .inl (g 2, 8, .inl (aI fun _ => 0)) := by rw [hG4]; exact (va_up_ne _ _ (by omega)).trans hP4a
  refine J_aload_n 0 d_M_init_71 rfl rfl ?_
  refine J_bipush d_M_init_72 (i8_ok (by decide)) ?_
  refine J_newarr (n := 8) (cA := g 3) (a0 := (8, .inr (.inr (.inr (.inl fun _ => 0))))) 3 rfl rfl (fun _ _ h => h) (fun _ => rfl) wd_1077 (by decide) (by decide) ⟨by decide, by decide⟩ d_M_init_74 (fun a5 h5 => ?_)
  rw [← h5 k (by omega)]
  obtain ⟨E5, hEE5⟩ : ∃ G, G = va_up G4 (k + 5) (.inl (g 3, 8, .inr (.inr (.inr (.inl fun _ => 0))))) := ⟨_, rfl⟩
  refine J_eqF (F2 := E5) hEE5.symm ?_
  have hk5a : E5 k = .inr (8, [.ref (a1 (k + 1)), .ref (a2 (k + 2)), .ref (a3 (k + 3)), .ref (a4 (k + 4)), .null, .int (iI 0), .int (iI 0), .int (iI 0), .int (iI 0), .double 0, .int (iI 0), .null, .int (iI 0), .null, .int (iI 0), .null, .int (iI 0), .null, .int (iI 0), .int (iI 0), .int (iI 0), .int (iI 0), .int (iI 0), .int (iI 0), .int (iI 0), .int (iI 0), .int (iI 0), .int (iI 0), .int (iI 0), .int (iI 0)]) := by rw [hEE5]; exact ((va_up_ne _ _ (by omega)).trans hk4)
  have hP5a : E5 (k + 5) = .inl (g 3, 8, .inr (.inr (.inr (.inl fun _ => 0)))) := by rw [hEE5]; exact va_up_self ..
  have hfr5 : ∀ j, j ≠ k + 5 → E5 j = G4 j := fun j hj => by rw [hEE5]; exact va_up_ne _ _ hj
  refine pf_M_23 (by omega) hk5a (Nat.le_of_ble_eq_true rfl) rfl (fun _ _ h => h) d_M_init_76 ?_
  obtain ⟨G5, hG5⟩ : ∃ G, G = va_up E5 k (.inr (8, [.ref (a1 (k + 1)), .ref (a2 (k + 2)), .ref (a3 (k + 3)), .ref (a4 (k + 4)), .ref (a5 (k + 5)), .int (iI 0), .int (iI 0), .int (iI 0), .int (iI 0), .double 0, .int (iI 0), .null, .int (iI 0), .null, .int (iI 0), .null, .int (iI 0), .null, .int (iI 0), .int (iI 0), .int (iI 0), .int (iI 0), .int (iI 0), .int (iI 0), .int (iI 0), .int (iI 0), .int (iI 0), .int (iI 0), .int (iI 0), .int (iI 0)])) := ⟨_, rfl⟩
  refine J_eqF (F2 := G5) hG5.symm ?_
  have hk5 : G5 k = .inr (8, [.ref (a1 (k + 1)), .ref (a2 (k + 2)), .ref (a3 (k + 3)), .ref (a4 (k + 4)), .ref (a5 (k + 5)), .int (iI 0), .int (iI 0), .int (iI 0), .int (iI 0), .double 0, .int (iI 0), .null, .int (iI 0), .null, .int (iI 0), .null, .int (iI 0), .null, .int (iI 0), .int (iI 0), .int (iI 0), .int (iI 0), .int (iI 0), .int (iI 0), .int (iI 0), .int (iI 0), .int (iI 0), .int (iI 0), .int (iI 0), .int (iI 0)]) := by rw [hG5]; exact va_up_self ..
  have A5 : ∀ j, j < k + 5 → a5 j = a4 j := fun j hj => h5 j (by omega)
  have B5 : ∀ j, j < k + 5 → j ≠ k → G5 j = G4 j := fun j hj hjk => by
    rw [hG5, va_up_ne _ _ hjk]
    exact hfr5 j (by omega)
  have hP5 : G5 (k + 5) = .inl (g 3, 8, .inr (.inr (.inr (.inl fun _ => 0)))) := by rw [hG5]; exact (va_up_ne _ _ (by omega)).trans hP5a
  refine J_aload_n 0 d_M_init_79 rfl rfl ?_
  refine J_bipush d_M_init_80 (i8_ok (by decide)) ?_
  refine J_newarr (n := 40) (cA := g 0) (a0 := (40, .inl (aI fun _ => 0))) 0 rfl rfl (fun _ _ h => h) (fun _ => rfl) wd_52 (by decide) (by decide) ⟨by decide, by decide⟩ d_M_init_82 (fun a6 h6 => ?_)
  rw [← h6 k (by omega)]
  obtain ⟨E6, hEE6⟩ : ∃ G, G = va_up G5 (k + 6) (.inl (g 0, 40, .inl (aI fun _ => 0))) := ⟨_, rfl⟩
  refine J_eqF (F2 := E6) hEE6.symm ?_
  have hk6a : E6 k = .inr (8, [.ref (a1 (k + 1)), .ref (a2 (k + 2)), .ref (a3 (k + 3)), .ref (a4 (k + 4)), .ref (a5 (k + 5)), .int (iI 0), .int (iI 0), .int (iI 0), .int (iI 0), .double 0, .int (iI 0), .null, .int (iI 0), .null, .int (iI 0), .null, .int (iI 0), .null, .int (iI 0), .int (iI 0), .int (iI 0), .int (iI 0), .int (iI 0), .int (iI 0), .int (iI 0), .int (iI 0), .int (iI 0), .int (iI 0), .int (iI 0), .int (iI 0)]) := by rw [hEE6]; exact ((va_up_ne _ _ (by omega)).trans hk5)
  have hP6a : E6 (k + 6) = .inl (g 0, 40, .inl (aI fun _ => 0)) := by rw [hEE6]; exact va_up_self ..
  have hfr6 : ∀ j, j ≠ k + 6 → E6 j = G5 j := fun j hj => by rw [hEE6]; exact va_up_ne _ _ hj
  refine pf_M_27 (by omega) hk6a (Nat.le_of_ble_eq_true rfl) rfl (fun _ _ h => h) d_M_init_84 ?_
  obtain ⟨G6, hG6⟩ : ∃ G, G = va_up E6 k (.inr (8, [.ref (a1 (k + 1)), .ref (a2 (k + 2)), .ref (a3 (k + 3)), .ref (a4 (k + 4)), .ref (a5 (k + 5)), .int (iI 0), .int (iI 0), .int (iI 0), .int (iI 0), .double 0, .int (iI 0), .ref (a6 (k + 6)), .int (iI 0), .null, .int (iI 0), .null, .int (iI 0), .null, .int (iI 0), .int (iI 0), .int (iI 0), .int (iI 0), .int (iI 0), .int (iI 0), .int (iI 0), .int (iI 0), .int (iI 0), .int (iI 0), .int (iI 0), .int (iI 0)])) := ⟨_, rfl⟩
  refine J_eqF (F2 := G6) hG6.symm ?_
  have hk6 : G6 k = .inr (8, [.ref (a1 (k + 1)), .ref (a2 (k + 2)), .ref (a3 (k + 3)), .ref (a4 (k + 4)), .ref (a5 (k + 5)), .int (iI 0), .int (iI 0), .int (iI 0), .int (iI 0), .double 0, .int (iI 0), .ref (a6 (k + 6)), .int (iI 0), .null, .int (iI 0), .null, .int (iI 0), .null, .int (iI 0), .int (iI 0), .int (iI 0), .int (iI 0), .int (iI 0), .int (iI 0), .int (iI 0), .int (iI 0), .int (iI 0), .int (iI 0), .int (iI 0), .int (iI 0)]) := by rw [hG6]; exact va_up_self ..
  have A6 : ∀ j, j < k + 6 → a6 j = a5 j := fun j hj => h6 j (by omega)
  have B6 : ∀ j, j < k + 6 → j ≠ k → G6 j = G5 j := fun j hj hjk => by
    rw [hG6, va_up_ne _ _ hjk]
    exact hfr6 j (by omega)
  have hP6 : G6 (k + 6) = .inl (g 0, 40, .inl (aI fun _ => 0)) := by rw [hG6]; exact (va_up_ne _ _ (by omega)).trans hP6a
  refine J_aload_n 0 d_M_init_87 rfl rfl ?_
  refine J_sipush d_M_init_88 (i16_ok (by decide)) ?_
  refine J_newarr (n := 260) (cA := g 0) (a0 := (260, .inl (aI fun _ => 0))) 0 rfl rfl (fun _ _ h => h) (fun _ => rfl) wd_52 (by decide) (by decide) ⟨by decide, by decide⟩ d_M_init_91 (fun a7 h7 => ?_)
  rw [← h7 k (by omega)]
  obtain ⟨E7, hEE7⟩ : ∃ G, G = va_up G6 (k + 7) (.inl (g 0, 260, .inl (aI fun _ => 0))) := ⟨_, rfl⟩
  refine J_eqF (F2 := E7) hEE7.symm ?_
  have hk7a : E7 k = .inr (8, [.ref (a1 (k + 1)), .ref (a2 (k + 2)), .ref (a3 (k + 3)), .ref (a4 (k + 4)), .ref (a5 (k + 5)), .int (iI 0), .int (iI 0), .int (iI 0), .int (iI 0), .double 0, .int (iI 0), .ref (a6 (k + 6)), .int (iI 0), .null, .int (iI 0), .null, .int (iI 0), .null, .int (iI 0), .int (iI 0), .int (iI 0), .int (iI 0), .int (iI 0), .int (iI 0), .int (iI 0), .int (iI 0), .int (iI 0), .int (iI 0), .int (iI 0), .int (iI 0)]) := by rw [hEE7]; exact ((va_up_ne _ _ (by omega)).trans hk6)
  have hP7a : E7 (k + 7) = .inl (g 0, 260, .inl (aI fun _ => 0)) := by rw [hEE7]; exact va_up_self ..
  have hfr7 : ∀ j, j ≠ k + 7 → E7 j = G6 j := fun j hj => by rw [hEE7]; exact va_up_ne _ _ hj
  refine pf_M_30 (by omega) hk7a (Nat.le_of_ble_eq_true rfl) rfl (fun _ _ h => h) d_M_init_93 ?_
  obtain ⟨G7, hG7⟩ : ∃ G, G = va_up E7 k (.inr (8, [.ref (a1 (k + 1)), .ref (a2 (k + 2)), .ref (a3 (k + 3)), .ref (a4 (k + 4)), .ref (a5 (k + 5)), .int (iI 0), .int (iI 0), .int (iI 0), .int (iI 0), .double 0, .int (iI 0), .ref (a6 (k + 6)), .int (iI 0), .ref (a7 (k + 7)), .int (iI 0), .null, .int (iI 0), .null, .int (iI 0), .int (iI 0), .int (iI 0), .int (iI 0), .int (iI 0), .int (iI 0), .int (iI 0), .int (iI 0), .int (iI 0), .int (iI 0), .int (iI 0), .int (iI 0)])) := ⟨_, rfl⟩
  refine J_eqF (F2 := G7) hG7.symm ?_
  have hk7 : G7 k = .inr (8, [.ref (a1 (k + 1)), .ref (a2 (k + 2)), .ref (a3 (k + 3)), .ref (a4 (k + 4)), .ref (a5 (k + 5)), .int (iI 0), .int (iI 0), .int (iI 0), .int (iI 0), .double 0, .int (iI 0), .ref (a6 (k + 6)), .int (iI 0), .ref (a7 (k + 7)), .int (iI 0), .null, .int (iI 0), .null, .int (iI 0), .int (iI 0), .int (iI 0), .int (iI 0), .int (iI 0), .int (iI 0), .int (iI 0), .int (iI 0), .int (iI 0), .int (iI 0), .int (iI 0), .int (iI 0)]) := by rw [hG7]; exact va_up_self ..
  have A7 : ∀ j, j < k + 7 → a7 j = a6 j := fun j hj => h7 j (by omega)
  have B7 : ∀ j, j < k + 7 → j ≠ k → G7 j = G6 j := fun j hj hjk => by
    rw [hG7, va_up_ne _ _ hjk]
    exact hfr7 j (by omega)
  have hP7 : G7 (k + 7) = .inl (g 0, 260, .inl (aI fun _ => 0)) := by rw [hG7]; exact (va_up_ne _ _ (by omega)).trans hP7a
  refine J_aload_n 0 d_M_init_96 rfl rfl ?_
  refine J_sipush d_M_init_97 (i16_ok (by decide)) ?_
  refine J_newarr (n := 200) (cA := g 0) (a0 := (200, .inl (aI fun _ => 0))) 0 rfl rfl (fun _ _ h => h) (fun _ => rfl) wd_52 (by decide) (by decide) ⟨by decide, by decide⟩ d_M_init_100 (fun a8 h8 => ?_)
  rw [← h8 k (by omega)]
  obtain ⟨E8, hEE8⟩ : ∃ G, G = va_up G7 (k + 8) (.inl (g 0, 200, .inl (aI fun _ => 0))) := ⟨_, rfl⟩
  refine J_eqF (F2 := E8) hEE8.symm ?_
  have hk8a : E8 k = .inr (8, [.ref (a1 (k + 1)), .ref (a2 (k + 2)), .ref (a3 (k + 3)), .ref (a4 (k + 4)), .ref (a5 (k + 5)), .int (iI 0), .int (iI 0), .int (iI 0), .int (iI 0), .double 0, .int (iI 0), .ref (a6 (k + 6)), .int (iI 0), .ref (a7 (k + 7)), .int (iI 0), .null, .int (iI 0), .null, .int (iI 0), .int (iI 0), .int (iI 0), .int (iI 0), .int (iI 0), .int (iI 0), .int (iI 0), .int (iI 0), .int (iI 0), .int (iI 0), .int (iI 0), .int (iI 0)]) := by rw [hEE8]; exact ((va_up_ne _ _ (by omega)).trans hk7)
  have hP8a : E8 (k + 8) = .inl (g 0, 200, .inl (aI fun _ => 0)) := by rw [hEE8]; exact va_up_self ..
  have hfr8 : ∀ j, j ≠ k + 8 → E8 j = G7 j := fun j hj => by rw [hEE8]; exact va_up_ne _ _ hj
  refine pf_M_33 (by omega) hk8a (Nat.le_of_ble_eq_true rfl) rfl (fun _ _ h => h) d_M_init_102 ?_
  obtain ⟨G8, hG8⟩ : ∃ G, G = va_up E8 k (.inr (8, [.ref (a1 (k + 1)), .ref (a2 (k + 2)), .ref (a3 (k + 3)), .ref (a4 (k + 4)), .ref (a5 (k + 5)), .int (iI 0), .int (iI 0), .int (iI 0), .int (iI 0), .double 0, .int (iI 0), .ref (a6 (k + 6)), .int (iI 0), .ref (a7 (k + 7)), .int (iI 0), .ref (a8 (k + 8)), .int (iI 0), .null, .int (iI 0), .int (iI 0), .int (iI 0), .int (iI 0), .int (iI 0), .int (iI 0), .int (iI 0), .int (iI 0), .int (iI 0), .int (iI 0), .int (iI 0), .int (iI 0)])) := ⟨_, rfl⟩
  refine J_eqF (F2 := G8) hG8.symm ?_
  have hk8 : G8 k = .inr (8, [.ref (a1 (k + 1)), .ref (a2 (k + 2)), .ref (a3 (k + 3)), .ref (a4 (k + 4)), .ref (a5 (k + 5)), .int (iI 0), .int (iI 0), .int (iI 0), .int (iI 0), .double 0, .int (iI 0), .ref (a6 (k + 6)), .int (iI 0), .ref (a7 (k + 7)), .int (iI 0), .ref (a8 (k + 8)), .int (iI 0), .null, .int (iI 0), .int (iI 0), .int (iI 0), .int (iI 0), .int (iI 0), .int (iI 0), .int (iI 0), .int (iI 0), .int (iI 0), .int (iI 0), .int (iI 0), .int (iI 0)]) := by rw [hG8]; exact va_up_self ..
  have A8 : ∀ j, j < k + 8 → a8 j = a7 j := fun j hj => h8 j (by omega)
  have B8 : ∀ j, j < k + 8 → j ≠ k → G8 j = G7 j := fun j hj hjk => by
    rw [hG8, va_up_ne _ _ hjk]
    exact hfr8 j (by omega)
  have hP8 : G8 (k + 8) = .inl (g 0, 200, .inl (aI fun _ => 0)) := by rw [hG8]; exact (va_up_ne _ _ (by omega)).trans hP8a
  refine J_aload_n 0 d_M_init_105 rfl rfl ?_
  refine J_sipush d_M_init_106 (i16_ok (by decide)) ?_
  refine J_newarr (n := 260) (cA := g 0) (a0 := (260, .inl (aI fun _ => 0))) 0 rfl rfl (fun _ _ h => h) (fun _ => rfl) wd_52 (by decide) (by decide) ⟨by decide, by decide⟩ d_M_init_109 (fun a9 h9 => ?_)
  rw [← h9 k (by omega)]
  obtain ⟨E9, hEE9⟩ : ∃ G, G = va_up G8 (k + 9) (.inl (g 0, 260, .inl (aI fun _ => 0))) := ⟨_, rfl⟩
  refine J_eqF (F2 := E9) hEE9.symm ?_
  have hk9a : E9 k = .inr (8, [.ref (a1 (k + 1)), .ref (a2 (k + 2)), .ref (a3 (k + 3)), .ref (a4 (k + 4)), .ref (a5 (k + 5)), .int (iI 0), .int (iI 0), .int (iI 0), .int (iI 0), .double 0, .int (iI 0), .ref (a6 (k + 6)), .int (iI 0), .ref (a7 (k + 7)), .int (iI 0), .ref (a8 (k + 8)), .int (iI 0), .null, .int (iI 0), .int (iI 0), .int (iI 0), .int (iI 0), .int (iI 0), .int (iI 0), .int (iI 0), .int (iI 0), .int (iI 0), .int (iI 0), .int (iI 0), .int (iI 0)]) := by rw [hEE9]; exact ((va_up_ne _ _ (by omega)).trans hk8)
  have hP9a : E9 (k + 9) = .inl (g 0, 260, .inl (aI fun _ => 0)) := by rw [hEE9]; exact va_up_self ..
  have hfr9 : ∀ j, j ≠ k + 9 → E9 j = G8 j := fun j hj => by rw [hEE9]; exact va_up_ne _ _ hj
  refine pf_M_36 (by omega) hk9a (Nat.le_of_ble_eq_true rfl) rfl (fun _ _ h => h) d_M_init_111 ?_
  obtain ⟨G9, hG9⟩ : ∃ G, G = va_up E9 k (.inr (8, [.ref (a1 (k + 1)), .ref (a2 (k + 2)), .ref (a3 (k + 3)), .ref (a4 (k + 4)), .ref (a5 (k + 5)), .int (iI 0), .int (iI 0), .int (iI 0), .int (iI 0), .double 0, .int (iI 0), .ref (a6 (k + 6)), .int (iI 0), .ref (a7 (k + 7)), .int (iI 0), .ref (a8 (k + 8)), .int (iI 0), .ref (a9 (k + 9)), .int (iI 0), .int (iI 0), .int (iI 0), .int (iI 0), .int (iI 0), .int (iI 0), .int (iI 0), .int (iI 0), .int (iI 0), .int (iI 0), .int (iI 0), .int (iI 0)])) := ⟨_, rfl⟩
  refine J_eqF (F2 := G9) hG9.symm ?_
  have hk9 : G9 k = .inr (8, [.ref (a1 (k + 1)), .ref (a2 (k + 2)), .ref (a3 (k + 3)), .ref (a4 (k + 4)), .ref (a5 (k + 5)), .int (iI 0), .int (iI 0), .int (iI 0), .int (iI 0), .double 0, .int (iI 0), .ref (a6 (k + 6)), .int (iI 0), .ref (a7 (k + 7)), .int (iI 0), .ref (a8 (k + 8)), .int (iI 0), .ref (a9 (k + 9)), .int (iI 0), .int (iI 0), .int (iI 0), .int (iI 0), .int (iI 0), .int (iI 0), .int (iI 0), .int (iI 0), .int (iI 0), .int (iI 0), .int (iI 0), .int (iI 0)]) := by rw [hG9]; exact va_up_self ..
  have A9 : ∀ j, j < k + 9 → a9 j = a8 j := fun j hj => h9 j (by omega)
  have B9 : ∀ j, j < k + 9 → j ≠ k → G9 j = G8 j := fun j hj hjk => by
    rw [hG9, va_up_ne _ _ hjk]
    exact hfr9 j (by omega)
  have hP9 : G9 (k + 9) = .inl (g 0, 260, .inl (aI fun _ => 0)) := by rw [hG9]; exact (va_up_ne _ _ (by omega)).trans hP9a
  refine J_vret rfl d_M_init_114 ⟨by decide, by decide⟩ ?_
  have CA9 : ∀ j, j < k + 10 → a9 j = a9 j := fun _ _ => rfl
  have CB9 : ∀ j, j < k + 10 → j ≠ k → G9 j = G9 j := fun _ _ _ => rfl
  have CA8 : ∀ j, j < k + 9 → a9 j = a8 j := fun j h => (CA9 j (by omega)).trans (A9 j h)
  have CB8 : ∀ j, j < k + 9 → j ≠ k → G9 j = G8 j := fun j h q => (CB9 j (by omega) q).trans (B9 j h q)
  have CA7 : ∀ j, j < k + 8 → a9 j = a7 j := fun j h => (CA8 j (by omega)).trans (A8 j h)
  have CB7 : ∀ j, j < k + 8 → j ≠ k → G9 j = G7 j := fun j h q => (CB8 j (by omega) q).trans (B8 j h q)
  have CA6 : ∀ j, j < k + 7 → a9 j = a6 j := fun j h => (CA7 j (by omega)).trans (A7 j h)
  have CB6 : ∀ j, j < k + 7 → j ≠ k → G9 j = G6 j := fun j h q => (CB7 j (by omega) q).trans (B7 j h q)
  have CA5 : ∀ j, j < k + 6 → a9 j = a5 j := fun j h => (CA6 j (by omega)).trans (A6 j h)
  have CB5 : ∀ j, j < k + 6 → j ≠ k → G9 j = G5 j := fun j h q => (CB6 j (by omega) q).trans (B6 j h q)
  have CA4 : ∀ j, j < k + 5 → a9 j = a4 j := fun j h => (CA5 j (by omega)).trans (A5 j h)
  have CB4 : ∀ j, j < k + 5 → j ≠ k → G9 j = G4 j := fun j h q => (CB5 j (by omega) q).trans (B5 j h q)
  have CA3 : ∀ j, j < k + 4 → a9 j = a3 j := fun j h => (CA4 j (by omega)).trans (A4 j h)
  have CB3 : ∀ j, j < k + 4 → j ≠ k → G9 j = G3 j := fun j h q => (CB4 j (by omega) q).trans (B4 j h q)
  have CA2 : ∀ j, j < k + 3 → a9 j = a2 j := fun j h => (CA3 j (by omega)).trans (A3 j h)
  have CB2 : ∀ j, j < k + 3 → j ≠ k → G9 j = G2 j := fun j h q => (CB3 j (by omega) q).trans (B3 j h q)
  have CA1 : ∀ j, j < k + 2 → a9 j = a1 j := fun j h => (CA2 j (by omega)).trans (A2 j h)
  have CB1 : ∀ j, j < k + 2 → j ≠ k → G9 j = G1 j := fun j h q => (CB2 j (by omega) q).trans (B2 j h q)
  have CA0 : ∀ j, j < k + 1 → a9 j = ad j := fun j h => (CA1 j (by omega)).trans (A1 j h)
  have CB0 : ∀ j, j < k + 1 → j ≠ k → G9 j = F j := fun j h q => (CB1 j (by omega) q).trans (B1 j h q)
  exact ⟨rfl, rfl, fun j hj => CA0 j (by omega), fun j hj => CB0 j (by omega) (by omega), by rw [hk9, CA1 (k + 1) (by omega), CA2 (k + 2) (by omega), CA3 (k + 3) (by omega), CA4 (k + 4) (by omega), CA5 (k + 5) (by omega), CA6 (k + 6) (by omega), CA7 (k + 7) (by omega), CA8 (k + 8) (by omega), CA9 (k + 9) (by omega)], (CB1 (k + 1) (by omega) (by omega)).trans hP1, (CB2 (k + 2) (by omega) (by omega)).trans hP2, (CB3 (k + 3) (by omega) (by omega)).trans hP3, (CB4 (k + 4) (by omega) (by omega)).trans hP4, (CB5 (k + 5) (by omega) (by omega)).trans hP5, (CB6 (k + 6) (by omega) (by omega)).trans hP6, (CB7 (k + 7) (by omega) (by omega)).trans hP7, (CB8 (k + 8) (by omega) (by omega)).trans hP8, (CB9 (k + 9) (by omega) (by omega)).trans hP9⟩
