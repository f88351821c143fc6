/-! the class writes: floors, and the shortest between bounds -/

def exV (A B : Nat) : Nat := if A % B = 0 then 1 else 0
theorem exV_b (A B : Nat) : exV A B ≤ 1 := by unfold exV; split <;> omega
theorem exV_1 {A B : Nat} : exV A B = 1 ↔ A % B = 0 := by unfold exV; split <;> omega
theorem nrB_b {below unit mid ex : Nat} : nrB below unit mid ex = below ∨ nrB below unit mid ex = below + unit := by
  unfold nrB
  split
  · split
    · exact Or.inl rfl
    · exact Or.inr rfl
  · split
    · exact Or.inl rfl
    · exact Or.inr rfl
/-- the bounds and the middle, as the class makes them -/
theorem shW_mk {u d M : Nat} {e0 E : Int} (hu : 0 < u) (hd : 0 < d) (hM : 4503599627370496 ≤ M ∧ M < 9007199254740992) (he0 : -152 ≤ e0 ∧ e0 ≤ 47) (hr0 : su M e0 * d = u * sd 1 e0) (hlu : u = lowu (su M e0) (sd 1 e0)) (hld : d = lowd (su M e0) (sd 1 e0))
    (hr : 4 * M * 2 ^ (e0 - 2).toNat * d = u * 2 ^ (-(e0 - 2)).toNat) (hX : isX u d E) {ev : Nat} (hev : ev = if M % 2 = 0 then 1 else 0) :
    shW u d E (loB (sfA (LM M) (e0 - 2) (17 - E)) (sfB (e0 - 2) (17 - E)) ev) (hiB (sfA (4 * M + 2) (e0 - 2) (17 - E)) (sfB (e0 - 2) (17 - E)) ev) (sfA (4 * M) (e0 - 2) (17 - E) / sfB (e0 - 2) (17 - E)) (exV (sfA (4 * M) (e0 - 2) (17 - E)) (sfB (e0 - 2) (17 - E)))
    ∧ 10 ^ 17 ≤ sfA (4 * M) (e0 - 2) (17 - E) / sfB (e0 - 2) (17 - E) ∧ sfA (4 * M) (e0 - 2) (17 - E) / sfB (e0 - 2) (17 - E) < 10 ^ 18 := by
  have hev1 : ev = 0 ∨ ev = 1 := by rw [hev]; split <;> omega
  have hB := sfB_pos (e0 - 2) (17 - E)
  have hY0 : 0 < d * 10 ^ (-(17 - E)).toNat := Nat.mul_pos hd (Nat.pow_pos (by decide))
  have hcr : sfA (4 * M) (e0 - 2) (17 - E) * (d * 10 ^ (-(17 - E)).toNat) = u * 10 ^ (17 - E).toNat * sfB (e0 - 2) (17 - E) := by
    have h1 := sf_x (n := 4 * M) (te := 17 - E) hr
    apply Nat.eq_of_mul_eq_mul_left (show 0 < 4 * M by omega)
    have a1 : 4 * M * (sfA (4 * M) (e0 - 2) (17 - E) * (d * 10 ^ (-(17 - E)).toNat)) = sfA (4 * M) (e0 - 2) (17 - E) * (4 * M * (d * 10 ^ (-(17 - E)).toNat)) := by ac_rfl
    rw [a1, h1, Nat.mul_assoc]
  obtain ⟨q1, q2⟩ := div_ratio hB hY0 hcr
  have hm := isX_m (m := 18) hd hX (by decide)
  rw [show ((18 : Nat) : Int) - 1 - E = 17 - E by omega] at hm
  have hdm := Nat.div_add_mod (sfA (4 * M) (e0 - 2) (17 - E)) (sfB (e0 - 2) (17 - E))
  have hlt := Nat.mod_lt (sfA (4 * M) (e0 - 2) (17 - E)) hB
  have hmono : ∀ {x y : Nat}, x < y → sfA x (e0 - 2) (17 - E) < sfA y (e0 - 2) (17 - E) := by
    intro x y h
    unfold sfA
    exact Nat.mul_lt_mul_of_pos_right (Nat.mul_lt_mul_of_pos_right h (Nat.pow_pos (by decide))) (Nat.two_pow_pos _)
  have h2 := hmono (show 4 * M < 4 * M + 2 by omega)
  have h3 : sfA (LM M) (e0 - 2) (17 - E) < sfA (4 * M) (e0 - 2) (17 - E) := hmono (by unfold LM; split <;> omega)
  have hmb : 10 ^ 17 ≤ sfA (4 * M) (e0 - 2) (17 - E) / sfB (e0 - 2) (17 - E) := by rw [q1]; exact hm.1
  have hA : sfB (e0 - 2) (17 - E) ≤ sfA (4 * M + 2) (e0 - 2) (17 - E) := by
    have h9 : sfB (e0 - 2) (17 - E) * 1 ≤ sfB (e0 - 2) (17 - E) * (sfA (4 * M) (e0 - 2) (17 - E) / sfB (e0 - 2) (17 - E)) := Nat.mul_le_mul_left _ (by omega)
    omega
  refine ⟨⟨fun G hG => ?_, q1, ?_, ?_, fun G hG => ?_⟩, hmb, by rw [q1]; exact hm.2.1⟩
  · have := lead_lh (q := E - 17) (ev := ev) hG hu hd hM he0 hr0 hlu hld hev hr (by rw [show -(E - 17) = 17 - E by omega]; exact hA)
    rw [show -(E - 17) = 17 - E by omega] at this
    exact this
  · unfold exV
    have hz : sfA (4 * M) (e0 - 2) (17 - E) % sfB (e0 - 2) (17 - E) = 0 ↔ u * 10 ^ (17 - E).toNat % (d * 10 ^ (-(17 - E)).toNat) = 0 := by
      constructor
      · intro w
        rw [w, Nat.zero_mul] at q2
        rcases Nat.mul_eq_zero.mp q2.symm with w2 | w2
        · exact w2
        · omega
      · intro w
        rw [w, Nat.zero_mul] at q2
        rcases Nat.mul_eq_zero.mp q2 with w2 | w2
        · exact w2
        · omega
    by_cases c : sfA (4 * M) (e0 - 2) (17 - E) % sfB (e0 - 2) (17 - E) = 0
    · rw [if_pos c, if_pos (hz.mp c)]
    · rw [if_neg c, if_neg (fun w => c (hz.mpr w))]
  · rw [hiB_le hB hev1 hA]
    left
    rw [Nat.mul_comm]
    omega
  · rw [loB_le hB hev1]
    left
    have h9 : sfB (e0 - 2) (17 - E) * (sfA (4 * M) (e0 - 2) (17 - E) / sfB (e0 - 2) (17 - E) + 1) ≤ sfB (e0 - 2) (17 - E) * G := Nat.mul_le_mul_left _ (by omega)
    rw [Nat.mul_add, Nat.mul_one, Nat.mul_comm _ G] at h9
    omega
/-- what the search finds -/
theorem shG_ex {u d : Nat} {E : Int} : ∀ f m, (∃ j, m ≤ j ∧ j < m + f ∧ shN u d E j ≠ none) → ∃ j H, m ≤ j ∧ j < m + f ∧ shN u d E j = some H ∧ shG u d E f m = (j, H) := by
  intro f
  induction f with
  | zero => rintro m ⟨j, h1, h2, h3⟩; omega
  | succ f ih =>
    rintro m ⟨j, h1, h2, h3⟩
    cases hs : shN u d E m with
    | some H => exact ⟨m, H, by omega, by omega, hs, shF_s hs⟩
    | none =>
      rw [shF_n hs]
      obtain ⟨j2, H, g1, g2, g3, g4⟩ := ih (m + 1) ⟨j, by
        by_cases c : j = m
        · rw [c] at h3; exact absurd hs h3
        · omega, by omega, h3⟩
      exact ⟨j2, H, by omega, by omega, g3, g4⟩
theorem shN_rng {u d m H : Nat} {E : Int} (hd : 0 < d) (hX : isX u d E) (hm : 1 ≤ m) (h : shN u d E m = some H) : 10 ^ (m - 1) ≤ H ∧ H ≤ 10 ^ m := by
  obtain ⟨b1, b2, -⟩ := isX_m hd hX hm
  unfold shN at h
  dsimp only at h
  generalize u * 10 ^ ((m : Int) - 1 - E).toNat / (d * 10 ^ (-((m : Int) - 1 - E)).toNat) = G at *
  split at h
  · injection h with h; omega
  · split at h
    · injection h with h; omega
    · exact absurd h (by simp)
/-- zeros at the end, and shifted digits -/
theorem zr_lz : ∀ n f H, 0 < H → H ≤ f → lzF f H ≤ n → zr H n = lzF f H := by
  intro n
  induction n with
  | zero => intro f H h1 h2 h3; show 0 = _; omega
  | succ n ih =>
    intro f H h1 h2 h3
    obtain ⟨f, rfl⟩ : ∃ f2, f = f2 + 1 := ⟨f - 1, by omega⟩
    show (if H % 10 = 0 then zr (H / 10) n + 1 else 0) = (if H % 10 = 0 then lzF f (H / 10) + 1 else 0)
    by_cases c : H % 10 = 0
    · rw [if_pos c, if_pos c, ih f (H / 10) (by omega) (by omega) (by
        have h4 : (if H % 10 = 0 then lzF f (H / 10) + 1 else 0) ≤ n + 1 := h3
        rw [if_pos c] at h4
        omega)]
    · rw [if_neg c, if_neg c]
theorem zr_shift (H n : Nat) : ∀ k, zr (H * 10 ^ k) (k + n) = k + zr H n := by
  intro k
  induction k with
  | zero => rw [Nat.pow_zero, Nat.mul_one, Nat.zero_add, Nat.zero_add]
  | succ k ih =>
    have e1 : H * 10 ^ (k + 1) = H * 10 ^ k * 10 := by rw [Nat.pow_succ, Nat.mul_assoc]
    rw [show k + 1 + n = (k + n) + 1 by omega]
    show (if H * 10 ^ (k + 1) % 10 = 0 then zr (H * 10 ^ (k + 1) / 10) (k + n) + 1 else 0) = _
    rw [e1, if_pos (Nat.mul_mod_left _ _), Nat.mul_div_cancel _ (by decide), ih]
    omega
theorem dgv_shift (H k j : Nat) : dgv 10 (H * 10 ^ k) (j + k) = dgv 10 H j := by
  unfold dgv
  rw [Nat.pow_add, Nat.mul_comm (10 ^ j), ← Nat.div_div_eq_div_mul, Nat.mul_div_cancel _ (Nat.pow_pos (by decide))]
theorem sgr_shift {H k : Nat} {cap : Int} {grp to : Nat} : ∀ n, sgr (dgv 10 (H * 10 ^ k)) cap grp 0 (to + k) n = sgr (dgv 10 H) cap grp 0 to n := by
  intro n
  induction n with
  | zero => rfl
  | succ n ih => rw [sgr_n (by omega), sgr_n (by omega), ih, show to + k + n = to + n + k by omega, dgv_shift]
theorem ndg_shift {H k : Nat} (hH : 0 < H) : ndg 10 (H * 10 ^ k) = ndg 10 H + k := by
  have a1 : ndg 10 (H * 10 ^ k) ≤ ndg 10 H + k := by
    rw [ndg_le (by decide), Nat.pow_add]
    exact Nat.mul_lt_mul_of_pos_right (ndg_lt (by decide)) (Nat.pow_pos (by decide))
  have hp := ndg_pos (b := 10) (by decide) hH
  have a2 : ¬ ndg 10 (H * 10 ^ k) ≤ ndg 10 H - 1 + k := by
    intro w
    have h2 := (ndg_le (b := 10) (by decide)).mp w
    rw [Nat.pow_add] at h2
    have h3 := Nat.lt_of_mul_lt_mul_right h2
    have h4 := (ndg_le (b := 10) (by decide)).mpr h3
    omega
  omega
theorem ndg_rng {H m : Nat} (hm : 1 ≤ m) (h : 10 ^ (m - 1) ≤ H ∧ H ≤ 10 ^ m) : ndg 10 H = m ∨ ndg 10 H = m + 1 := by
  have hlt : 10 ^ m < 10 ^ (m + 1) := Nat.pow_lt_pow_right (by decide) (by omega)
  have a1 : ndg 10 H ≤ m + 1 := (ndg_le (by decide)).mpr (by omega)
  have a2 : ¬ ndg 10 H ≤ m - 1 := fun w => by
    have := (ndg_le (b := 10) (by decide)).mp w
    omega
  omega
/-- the digits that are left -/
theorem dgR_cut {H m c : Nat} (hm : 1 ≤ m ∧ m ≤ 17) (h : 10 ^ (m - 1) ≤ H ∧ H ≤ 10 ^ m) (hc : c = ndm 10 1 (H * 10 ^ (18 - m))) : sgr (dgv 10 (H * 10 ^ (18 - m))) 0 3 0 (zr (H * 10 ^ (18 - m)) 18) (c - zr (H * 10 ^ (18 - m)) 18) = dgR H ∧ c = ndg 10 H + (18 - m) ∧ zr (H * 10 ^ (18 - m)) 18 ≤ c := by
  have hH : 0 < H := Nat.lt_of_lt_of_le (Nat.pow_pos (by decide)) h.1
  have hV : 0 < H * 10 ^ (18 - m) := Nat.mul_pos hH (Nat.pow_pos (by decide))
  have hlz := lz_lt hH
  have hr := ndg_rng hm.1 h
  have hz : zr (H * 10 ^ (18 - m)) 18 = 18 - m + lz10 H := by
    have h1 := zr_shift H m (18 - m)
    rw [show 18 - m + m = 18 by omega] at h1
    rw [h1, zr_lz m H H hH (Nat.le_refl _) (by unfold lz10 at hlz; omega)]
    rfl
  have hc2 : c = ndg 10 H + (18 - m) := by rw [hc, ndm_pos (by decide) hV, ndg_shift hH]
  refine ⟨?_, hc2, by omega⟩
  rw [hz, hc2, show 18 - m + lz10 H = lz10 H + (18 - m) by omega, sgr_shift]
  unfold dgR
  congr 1
  omega
set_option maxRecDepth 100000 in
set_option maxHeartbeats 4000000 in
theorem c_P_scaledFloor {l : Launch} (hfl : l.flags = flags0) {D : va_G} {g : Nat → ClassId} {ad : Nat → Nat} {N : Nat} {F0 : Nat → va_E} {W : Nat → Nat} {K S : Nat → Int} {ex : Int}  {n : Nat} {tw te : Int}
    (hN : 109 ≤ N) (hW : bW W) (hPn : F0 43 = oP ad ex)  (hn : n < 2 ^ 56) (hte : -60 ≤ te ∧ te ≤ 60) (htw : -160 ≤ tw ∧ tw ≤ 60) (hz : sfA n tw te / sfB tw te < 9000000000000000000) :
    JC l y_P_scaledFloor b_P_scaledFloor 5 (Option.some Jvm.ClassFile.FieldType.long) rm_P_scaledFloor (0, 0) D jCl (jTys g) ad N (cF ad g F0 W K S) [.ref (ad 43), .long (lI (n : Int)), .int (iI tw), .int (iI te)] (jl ad N (fun z F' => z = ((sfA n tw te / sfB tw te : Nat) : Int) ∧ ∃ W' : Nat → Nat, bW W' ∧ (∀ j, j ≠ 52 → j ≠ 54 → j ≠ 56 → W' j = W j) ∧ F' = cF ad g (va_up F0 43 (oP ad ((exV (sfA n tw te) (sfB tw te) : Nat) : Int))) W' K S)) := by
  have hA1 : n * 10 ^ te.toNat < 2 ^ 256 := Nat.lt_of_lt_of_le (Nat.mul_lt_mul_of_lt_of_le hn (Nat.pow_le_pow_right (by decide) (show te.toNat ≤ 60 by omega)) (Nat.pow_pos (by decide))) (by decide +kernel)
  have hA2 : n * 10 ^ te.toNat * 2 ^ tw.toNat < 2 ^ 450 := Nat.lt_of_lt_of_le (Nat.mul_lt_mul_of_lt_of_le hA1 (Nat.pow_le_pow_right (by decide) (show tw.toNat ≤ 60 by omega)) (Nat.two_pow_pos _)) (by decide +kernel)
  have hB1 : 1 * 10 ^ (-te).toNat < 2 ^ 256 := Nat.lt_of_le_of_lt (Nat.mul_le_mul_left 1 (Nat.pow_le_pow_right (by decide) (show (-te).toNat ≤ 60 by omega))) (by decide +kernel)
  have hB2 : 1 * 10 ^ (-te).toNat * 2 ^ (-tw).toNat < 2 ^ 450 := Nat.lt_of_lt_of_le (Nat.mul_lt_mul_of_lt_of_le hB1 (Nat.pow_le_pow_right (by decide) (show (-tw).toNat ≤ 160 by omega)) (Nat.two_pow_pos _)) (by decide +kernel)
  have hexb := exV_b (sfA n tw te) (sfB tw te)
  refine JC.go hfl (own := "NumberTower$Pen") (lv := [(0, .ref (ad 43)), (1, .long (lI (n : Int))), (3, .int (iI tw)), (4, .int (iI te))]) rfl (by decide +kernel) (Nat.le_of_ble_eq_true rfl) rfl (fun A => ?_)
  refine J_aload_n 0 d_P_scaledFloor_0 rfl rfl ?_
  refine gf_P_30 (by omega) ((cF_0 (by decide)).trans hPn) rfl d_P_scaledFloor_1 ?_
  refine J_lload_n 1 d_P_scaledFloor_4 rfl rfl ?_
  refine J_callVv cw_P_156 nh_N_set pn_N_set rfl rfl (by omega) (cF_N (by decide) rfl) (As := [.long (lI (n : Int))]) (rest := []) rfl (Nat.le_of_ble_eq_true rfl) ⟨by decide, by decide⟩ rfl ⟨by decide, by decide⟩ d_P_scaledFloor_5 (n_set hfl (F0 := F0) (W := W) (K := K) (S := S) (k := 52) (n := n) (hN := by omega) (hW := hW) (hk := (by decide)) (hn := (Nat.lt_trans hn (by decide)))) (fun  F4 hq => ?_)
  obtain ⟨hW2, eF3⟩ := hq
  refine J_eqF (F2 := cF ad g F0 (va_up W 52 n) K S) eF3 ?_
  refine J_aload_n 0 d_P_scaledFloor_8 rfl rfl ?_
  refine gf_P_34 (by omega) ((cF_0 (by decide)).trans hPn) rfl d_P_scaledFloor_9 ?_
  refine J_lconst (v := 1) d_P_scaledFloor_12 rfl ?_
  refine J_callVv cw_P_156 nh_N_set pn_N_set rfl rfl (by omega) (cF_N (by decide) (va_up_ne _ _ (by decide))) (As := [.long (lI 1)]) (rest := []) rfl (Nat.le_of_ble_eq_true rfl) ⟨by decide, by decide⟩ rfl ⟨by decide, by decide⟩ d_P_scaledFloor_13 (n_set hfl (F0 := F0) (W := va_up W 52 n) (K := K) (S := S) (k := 54) (n := 1) (hN := by omega) (hW := hW2) (hk := (by decide)) (hn := (by decide))) (fun  F8 hq => ?_)
  obtain ⟨hW6, eF7⟩ := hq
  refine J_eqF (F2 := cF ad g F0 (va_up (va_up W 52 n) 54 1) K S) eF7 ?_
  refine J_aload_n 0 d_P_scaledFloor_16 rfl rfl ?_
  refine gf_P_30 (by omega) ((cF_0 (by decide)).trans hPn) rfl d_P_scaledFloor_17 ?_
  refine J_iload 3 d_P_scaledFloor_20 rfl ?_
  refine J_callVv cw_P_168 nh_N_scaleTens pn_N_scaleTens rfl rfl (by omega) (cF_N (by decide) ((va_up_ne _ _ (by decide)).trans (va_up_self ..))) (As := [.int (iI te)]) (rest := []) rfl (Nat.le_of_ble_eq_true rfl) ⟨by decide, by decide⟩ rfl ⟨by decide, by decide⟩ d_P_scaledFloor_22 (n_scaleTens hfl (F0 := F0) (W := va_up (va_up W 52 n) 54 1) (K := K) (S := S) (k := 52) (n := te) (hN := by omega) (hW := hW6) (hk := (by decide)) (x := n) (hx := ((va_up_ne _ _ (by decide)).trans (va_up_self ..))) (hn := ⟨by omega, by omega⟩) (ht := Nat.lt_trans hA1 (by decide))) (fun  F12 hq => ?_)
  obtain ⟨hW10, eF11⟩ := hq
  have hW13 := (congrArg bW (up_in1 (by decide))).mp hW10
  refine J_eqF (F2 := cF ad g F0 (va_up (va_up W 52 (n * 10 ^ te.toNat)) 54 1) K S) (eF11.trans (congrArg (fun qq => cF ad g F0 qq K S) (up_in1 (by decide)))) ?_
  refine J_aload_n 0 d_P_scaledFloor_25 rfl rfl ?_
  refine gf_P_34 (by omega) ((cF_0 (by decide)).trans hPn) rfl d_P_scaledFloor_26 ?_
  refine J_iload 3 d_P_scaledFloor_29 rfl ?_
  refine J_ineg d_P_scaledFloor_31 ?_
  refine J_callVv cw_P_168 nh_N_scaleTens pn_N_scaleTens rfl rfl (by omega) (cF_N (by decide) (va_up_self ..)) (As := [.int (iI (-te))]) (rest := []) rfl (Nat.le_of_ble_eq_true rfl) ⟨by decide, by decide⟩ rfl ⟨by decide, by decide⟩ d_P_scaledFloor_32 (n_scaleTens hfl (F0 := F0) (W := va_up (va_up W 52 (n * 10 ^ te.toNat)) 54 1) (K := K) (S := S) (k := 54) (n := -te) (hN := by omega) (hW := hW13) (hk := (by decide)) (x := 1) (hx := (va_up_self ..)) (hn := ⟨by omega, by omega⟩) (ht := Nat.lt_trans hB1 (by decide))) (fun  F17 hq => ?_)
  obtain ⟨hW15, eF16⟩ := hq
  have hW18 := (congrArg bW (up_in0)).mp hW15
  refine J_eqF (F2 := cF ad g F0 (va_up (va_up W 52 (n * 10 ^ te.toNat)) 54 (1 * 10 ^ ((-te).toNat))) K S) (eF16.trans (congrArg (fun qq => cF ad g F0 qq K S) (up_in0))) ?_
  refine J_aload_n 0 d_P_scaledFloor_35 rfl rfl ?_
  refine gf_P_30 (by omega) ((cF_0 (by decide)).trans hPn) rfl d_P_scaledFloor_36 ?_
  refine J_iload_n 2 d_P_scaledFloor_39 rfl rfl ?_
  refine J_callVv cw_P_123 nh_N_shiftUp pn_N_shiftUp rfl rfl (by omega) (cF_N (by decide) ((va_up_ne _ _ (by decide)).trans (va_up_self ..))) (As := [.int (iI tw)]) (rest := []) rfl (Nat.le_of_ble_eq_true rfl) ⟨by decide, by decide⟩ rfl ⟨by decide, by decide⟩ d_P_scaledFloor_40 (n_shiftUp hfl (F0 := F0) (W := va_up (va_up W 52 (n * 10 ^ te.toNat)) 54 (1 * 10 ^ ((-te).toNat))) (K := K) (S := S) (k := 52) (n := tw) (hN := by omega) (hW := hW18) (hk := (by decide)) (x := n * 10 ^ te.toNat) (hx := ((va_up_ne _ _ (by decide)).trans (va_up_self ..))) (hn := ⟨by omega, by omega⟩) (ht := Nat.lt_trans hA2 (by decide))) (fun  F22 hq => ?_)
  obtain ⟨hW20, eF21⟩ := hq
  have hW23 := (congrArg bW (up_in1 (by decide))).mp hW20
  refine J_eqF (F2 := cF ad g F0 (va_up (va_up W 52 ((n * 10 ^ te.toNat) * 2 ^ tw.toNat)) 54 (1 * 10 ^ ((-te).toNat))) K S) (eF21.trans (congrArg (fun qq => cF ad g F0 qq K S) (up_in1 (by decide)))) ?_
  have hW24 := (congrArg (fun qq : Nat => bW (va_up (va_up W 52 qq) 54 (1 * 10 ^ ((-te).toNat)))) (show ((n * 10 ^ te.toNat) * 2 ^ tw.toNat) = (sfA n tw te) from rfl)).mp hW23
  refine J_eqF (F2 := cF ad g F0 (va_up (va_up W 52 (sfA n tw te)) 54 (1 * 10 ^ ((-te).toNat))) K S) (congrArg (fun qq : Nat => cF ad g F0 (va_up (va_up W 52 qq) 54 (1 * 10 ^ ((-te).toNat))) K S) (show ((n * 10 ^ te.toNat) * 2 ^ tw.toNat) = (sfA n tw te) from rfl)) ?_
  refine J_aload_n 0 d_P_scaledFloor_43 rfl rfl ?_
  refine gf_P_34 (by omega) ((cF_0 (by decide)).trans hPn) rfl d_P_scaledFloor_44 ?_
  refine J_iload_n 2 d_P_scaledFloor_47 rfl rfl ?_
  refine J_ineg d_P_scaledFloor_48 ?_
  refine J_callVv cw_P_123 nh_N_shiftUp pn_N_shiftUp rfl rfl (by omega) (cF_N (by decide) (va_up_self ..)) (As := [.int (iI (-tw))]) (rest := []) rfl (Nat.le_of_ble_eq_true rfl) ⟨by decide, by decide⟩ rfl ⟨by decide, by decide⟩ d_P_scaledFloor_49 (n_shiftUp hfl (F0 := F0) (W := va_up (va_up W 52 (sfA n tw te)) 54 (1 * 10 ^ ((-te).toNat))) (K := K) (S := S) (k := 54) (n := -tw) (hN := by omega) (hW := hW24) (hk := (by decide)) (x := 1 * 10 ^ ((-te).toNat)) (hx := (va_up_self ..)) (hn := ⟨by omega, by omega⟩) (ht := Nat.lt_trans hB2 (by decide))) (fun  F28 hq => ?_)
  obtain ⟨hW26, eF27⟩ := hq
  have hW29 := (congrArg bW (up_in0)).mp hW26
  refine J_eqF (F2 := cF ad g F0 (va_up (va_up W 52 (sfA n tw te)) 54 ((1 * 10 ^ ((-te).toNat)) * 2 ^ ((-tw).toNat))) K S) (eF27.trans (congrArg (fun qq => cF ad g F0 qq K S) (up_in0))) ?_
  have hW30 := (congrArg (fun qq : Nat => bW (va_up (va_up W 52 (sfA n tw te)) 54 qq)) (show ((1 * 10 ^ ((-te).toNat)) * 2 ^ ((-tw).toNat)) = (sfB tw te) from rfl)).mp hW29
  refine J_eqF (F2 := cF ad g F0 (va_up (va_up W 52 (sfA n tw te)) 54 (sfB tw te)) K S) (congrArg (fun qq : Nat => cF ad g F0 (va_up (va_up W 52 (sfA n tw te)) 54 qq) K S) (show ((1 * 10 ^ ((-te).toNat)) * 2 ^ ((-tw).toNat)) = (sfB tw te) from rfl)) ?_
  refine J_aload_n 0 d_P_scaledFloor_52 rfl rfl ?_
  refine gf_P_30 (by omega) ((cF_0 (by decide)).trans hPn) rfl d_P_scaledFloor_53 ?_
  refine J_aload_n 0 d_P_scaledFloor_56 rfl rfl ?_
  refine gf_P_34 (by omega) ((cF_0 (by decide)).trans hPn) rfl d_P_scaledFloor_57 ?_
  refine J_aload_n 0 d_P_scaledFloor_60 rfl rfl ?_
  refine gf_P_37 (by omega) ((cF_0 (by decide)).trans hPn) rfl d_P_scaledFloor_61 ?_
  refine J_callVv cw_P_171 nh_N_divide pn_N_divide rfl rfl (by omega) (cF_N (by decide) ((va_up_ne _ _ (by decide)).trans (va_up_self ..))) (As := [.ref (ad 54), .ref (ad 56)]) (rest := []) rfl (Nat.le_of_ble_eq_true rfl) ⟨by decide, by decide⟩ rfl ⟨by decide, by decide⟩ d_P_scaledFloor_64 (n_divide hfl (F0 := F0) (W := va_up (va_up W 52 (sfA n tw te)) 54 (sfB tw te)) (K := K) (S := S) (k := 52) (m := 54) (p := 56) (hN := by omega) (hW := hW30) (hk := (by decide)) (hm := (by decide)) (hp := (by decide)) (x := sfA n tw te) (hx := ((va_up_ne _ _ (by decide)).trans (va_up_self ..))) (y := sfB tw te) (hy := (va_up_self ..)) (hd := (by decide)) (hd1 := (by decide)) (hd2 := (by decide)) (hx4 := hA2) (hy4 := hB2)) (fun  F34 hq => ?_)
  obtain ⟨hW32, eF33⟩ := hq
  have hW35 := (congrArg bW (up_in2 (by decide) (by decide))).mp hW32
  refine J_eqF (F2 := cF ad g F0 (va_up (va_up (va_up W 52 ((sfA n tw te) % (sfB tw te))) 54 (sfB tw te)) 56 ((sfA n tw te) / (sfB tw te))) K S) (eF33.trans (congrArg (fun qq => cF ad g F0 qq K S) (up_in2 (by decide) (by decide)))) ?_
  refine J_aload_n 0 d_P_scaledFloor_67 rfl rfl ?_
  refine J_aload_n 0 d_P_scaledFloor_68 rfl rfl ?_
  refine gf_P_30 (by omega) ((cF_0 (by decide)).trans hPn) rfl d_P_scaledFloor_69 ?_
  refine J_callVi cw_P_95 nh_N_isZero pn_N_isZero rfl rfl (by omega) (cF_N (by decide) ((va_up_ne _ _ (by decide)).trans ((va_up_ne _ _ (by decide)).trans (va_up_self ..)))) (As := []) (rest := [.ref (ad 43)]) rfl (Nat.le_of_ble_eq_true rfl) ⟨by decide, by decide⟩ rfl ⟨by decide, by decide⟩ d_P_scaledFloor_72 (n_isZero hfl (F0 := F0) (W := va_up (va_up (va_up W 52 ((sfA n tw te) % (sfB tw te))) 54 (sfB tw te)) 56 ((sfA n tw te) / (sfB tw te))) (K := K) (S := S) (k := 52) (hN := by omega) (hW := hW35) (hk := (by decide)) (x := (sfA n tw te) % (sfB tw te)) (hx := ((va_up_ne _ _ (by decide)).trans ((va_up_ne _ _ (by decide)).trans (va_up_self ..))))) (fun z36 F1 hq => ?_)
  obtain ⟨hz36, eF1⟩ := hq
  refine J_eqF eF1 ?_
  refine J_topi (r := ((exV (sfA n tw te) (sfB tw te) : Nat) : Int)) (congrArg iI (by unfold exV; split <;> omega)) ?_
  refine pf_P_142 (by omega) ((cF_0 (by decide)).trans hPn) (Nat.le_of_ble_eq_true rfl) (nb01 (by omega)) d_P_scaledFloor_75 ?_
  refine J_eqF (F2 := cF ad g (va_up F0 43 (.inr (4, [.ref (ad 44), .ref (ad 46), .ref (ad 48), .ref (ad 50), .ref (ad 52), .ref (ad 54), .ref (ad 56), .int (iI ((exV (sfA n tw te) (sfB tw te) : Nat) : Int))]))) (va_up (va_up (va_up W 52 ((sfA n tw te) % (sfB tw te))) 54 (sfB tw te)) 56 ((sfA n tw te) / (sfB tw te))) K S) (cF_up0 (by decide)) ?_
  refine J_aload_n 0 d_P_scaledFloor_78 rfl rfl ?_
  refine gf_P_37 (by omega) ((cF_0 (by decide)).trans (by rw [va_up_self])) rfl d_P_scaledFloor_79 ?_
  refine J_callVl cw_P_129 nh_N_toLong pn_N_toLong rfl rfl (by omega) (cF_N (by decide) (va_up_self ..)) (As := []) (rest := []) rfl (Nat.le_of_ble_eq_true rfl) ⟨by decide, by decide⟩ rfl ⟨by decide, by decide⟩ d_P_scaledFloor_82 (n_toLong hfl (F0 := va_up F0 43 (.inr (4, [.ref (ad 44), .ref (ad 46), .ref (ad 48), .ref (ad 50), .ref (ad 52), .ref (ad 54), .ref (ad 56), .int (iI ((exV (sfA n tw te) (sfB tw te) : Nat) : Int))]))) (W := va_up (va_up (va_up W 52 ((sfA n tw te) % (sfB tw te))) 54 (sfB tw te)) 56 ((sfA n tw te) / (sfB tw te))) (K := K) (S := S) (k := 56) (hN := by omega) (hW := hW35) (hk := (by decide)) (x := (sfA n tw te) / (sfB tw te)) (hx := (va_up_self ..)) (h63 := Nat.lt_trans hz (by decide))) (fun z37 F2 hq => ?_)
  obtain ⟨hz37, eF2⟩ := hq
  refine J_eqF eF2 ?_
  refine J_topl (r := (((sfA n tw te) / (sfB tw te) : Nat) : Int)) (congrArg lI hz37) ?_
  refine J_lret rfl d_P_scaledFloor_85 ⟨by decide, by decide⟩ ?_
  exact ⟨_, rfl, rfl, rfl, rfl, _, hW35, fun j h1 h2 h3 => (show (va_up (va_up (va_up W 52 ((sfA n tw te) % (sfB tw te))) 54 (sfB tw te)) 56 ((sfA n tw te) / (sfB tw te))) j = W j from by rw [va_up_ne _ _ (by assumption), va_up_ne _ _ (by assumption), va_up_ne _ _ (by assumption)]), rfl⟩
set_option maxRecDepth 100000 in
set_option maxHeartbeats 4000000 in
theorem c_P_nearerOf {l : Launch} (hfl : l.flags = flags0) {D : va_G} {g : Nat → ClassId} {ad : Nat → Nat} {N : Nat} {F0 : Nat → va_E} {W : Nat → Nat} {K S : Nat → Int}  {below unit mid ex : Nat}
    (hN : 109 ≤ N) (hW : bW W)  (hbm : below ≤ mid) (hmu : mid - below < 100000000000000000) (hu0 : 0 < unit ∧ unit ≤ 100000000000000000) (hb9 : below < 9000000000000000000) (hex : ex ≤ 1) :
    JC l y_P_nearerOf b_P_nearerOf 9 (Option.some Jvm.ClassFile.FieldType.long) rm_P_nearerOf (0, 0) D jCl (jTys g) ad N (cF ad g F0 W K S) [.long (lI (below : Int)), .long (lI (unit : Int)), .long (lI (mid : Int)), .int (iI (ex : Int))] (jl ad N (fun z F' => z = ((nrB below unit mid ex : Nat) : Int) ∧ F' = cF ad g F0 W K S)) := by
  refine JC.go hfl (own := "NumberTower$Pen") (lv := [(0, .long (lI (below : Int))), (2, .long (lI (unit : Int))), (4, .long (lI (mid : Int))), (6, .int (iI (ex : Int)))]) rfl (by decide +kernel) (Nat.le_of_ble_eq_true rfl) rfl (fun A => ?_)
  refine J_ldc2 (z := 2) d_P_nearerOf_0 wd_855 (by decide) ?_
  refine J_lload 2 d_P_nearerOf_3 rfl ?_
  refine J_lload_n 0 d_P_nearerOf_5 rfl rfl ?_
  refine J_lsub d_P_nearerOf_6 ?_
  refine J_lmul d_P_nearerOf_7 ?_
  refine J_topl (r := ((2 * (mid - below) : Nat) : Int)) (congrArg lI (by omega)) ?_
  refine J_lstore (lv' := [(7, .long (lI ((2 * (mid - below) : Nat) : Int))), (0, .long (lI (below : Int))), (2, .long (lI (unit : Int))), (4, .long (lI (mid : Int))), (6, .int (iI (ex : Int)))]) d_P_nearerOf_8 (by decide) rfl ?_
  refine J_lload_n 2 d_P_nearerOf_10 rfl rfl ?_
  refine J_lconst (v := 0) d_P_nearerOf_11 rfl ?_
  refine J_lcmple (tgt := 48) d_P_nearerOf_12 d_P_nearerOf_13 (by decide) ⟨by omega, by omega⟩ ⟨by omega, by omega⟩ (fun c12 => ?_) (fun c12 => ?_)
  · refine J_lload 0 d_P_nearerOf_48 rfl ?_
    refine J_lload_n 2 d_P_nearerOf_50 rfl rfl ?_
    refine J_lcmpge (tgt := 59) d_P_nearerOf_51 d_P_nearerOf_52 (by decide) ⟨by omega, by omega⟩ ⟨by omega, by omega⟩ (fun c51 => ?_) (fun c51 => ?_)
    · refine J_lload_n 1 d_P_nearerOf_59 rfl rfl ?_
      refine J_lload_n 2 d_P_nearerOf_60 rfl rfl ?_
      refine J_ladd d_P_nearerOf_61 ?_
      refine J_lret rfl d_P_nearerOf_62 ⟨by decide, by decide⟩ ?_
      exact ⟨_, rfl, rfl, rfl, (by unfold nrB; rw [if_neg (by omega), if_neg (by omega)]; omega), rfl⟩
    · refine J_lload_n 1 d_P_nearerOf_55 rfl rfl ?_
      refine J_goto (tgt := 62) d_P_nearerOf_56 (by decide) ?_
      refine J_lret rfl d_P_nearerOf_62 ⟨by decide, by decide⟩ ?_
      exact ⟨_, rfl, rfl, rfl, (by unfold nrB; rw [if_neg (by omega), if_pos (by omega)]), rfl⟩
  · refine J_lload 0 d_P_nearerOf_16 rfl ?_
    refine J_lload_n 2 d_P_nearerOf_18 rfl rfl ?_
    refine J_lcmpne (tgt := 48) d_P_nearerOf_19 d_P_nearerOf_20 (by decide) ⟨by omega, by omega⟩ ⟨by omega, by omega⟩ (fun c19 => ?_) (fun c19 => ?_)
    · refine J_lload 0 d_P_nearerOf_48 rfl ?_
      refine J_lload_n 2 d_P_nearerOf_50 rfl rfl ?_
      refine J_lcmpge (tgt := 59) d_P_nearerOf_51 d_P_nearerOf_52 (by decide) ⟨by omega, by omega⟩ ⟨by omega, by omega⟩ (fun c51 => ?_) (fun c51 => ?_)
      · refine J_lload_n 1 d_P_nearerOf_59 rfl rfl ?_
        refine J_lload_n 2 d_P_nearerOf_60 rfl rfl ?_
        refine J_ladd d_P_nearerOf_61 ?_
        refine J_lret rfl d_P_nearerOf_62 ⟨by decide, by decide⟩ ?_
        exact ⟨_, rfl, rfl, rfl, (by unfold nrB; rw [if_neg (by omega), if_neg (by omega)]; omega), rfl⟩
      · refine J_lload_n 1 d_P_nearerOf_55 rfl rfl ?_
        refine J_goto (tgt := 62) d_P_nearerOf_56 (by decide) ?_
        refine J_lret rfl d_P_nearerOf_62 ⟨by decide, by decide⟩ ?_
        exact ⟨_, rfl, rfl, rfl, (by unfold nrB; rw [if_neg (by omega), if_pos (by omega)]), rfl⟩
    · refine J_iload 4 d_P_nearerOf_23 rfl ?_
      refine J_ifeq (tgt := 48) d_P_nearerOf_25 (by decide) ⟨by omega, by omega⟩ (fun c25 => ?_) (fun c25 => ?_)
      · refine J_lload 0 d_P_nearerOf_48 rfl ?_
        refine J_lload_n 2 d_P_nearerOf_50 rfl rfl ?_
        refine J_lcmpge (tgt := 59) d_P_nearerOf_51 d_P_nearerOf_52 (by decide) ⟨by omega, by omega⟩ ⟨by omega, by omega⟩ (fun c51 => ?_) (fun c51 => ?_)
        · refine J_lload_n 1 d_P_nearerOf_59 rfl rfl ?_
          refine J_lload_n 2 d_P_nearerOf_60 rfl rfl ?_
          refine J_ladd d_P_nearerOf_61 ?_
          refine J_lret rfl d_P_nearerOf_62 ⟨by decide, by decide⟩ ?_
          exact ⟨_, rfl, rfl, rfl, (by unfold nrB; rw [if_neg (by omega), if_neg (by omega)]; omega), rfl⟩
        · refine J_lload_n 1 d_P_nearerOf_55 rfl rfl ?_
          refine J_goto (tgt := 62) d_P_nearerOf_56 (by decide) ?_
          refine J_lret rfl d_P_nearerOf_62 ⟨by decide, by decide⟩ ?_
          exact ⟨_, rfl, rfl, rfl, (by unfold nrB; rw [if_neg (by omega), if_pos (by omega)]), rfl⟩
      · refine J_lload_n 1 d_P_nearerOf_28 rfl rfl ?_
        refine J_lload_n 2 d_P_nearerOf_29 rfl rfl ?_
        refine J_ldivn d_P_nearerOf_30 (by omega) (by omega) ?_
        obtain ⟨qb, hqb⟩ : ∃ qb, qb = below / unit := ⟨_, rfl⟩
        have hqb9 : qb ≤ below := by rw [hqb]; exact Nat.div_le_self _ _
        refine J_topl (r := (qb : Int)) (congrArg lI (by rw [hqb]; rfl)) ?_
        refine J_ldc2 (z := 2) d_P_nearerOf_31 wd_855 (by decide) ?_
        refine J_lremn d_P_nearerOf_34 (by omega) (by omega) ?_
        refine J_lconst (v := 0) d_P_nearerOf_35 rfl ?_
        refine J_lcmpne (tgt := 44) d_P_nearerOf_36 d_P_nearerOf_37 (by decide) ⟨by omega, by omega⟩ ⟨by omega, by omega⟩ (fun c36 => ?_) (fun c36 => ?_)
        · refine J_lload_n 1 d_P_nearerOf_44 rfl rfl ?_
          refine J_lload_n 2 d_P_nearerOf_45 rfl rfl ?_
          refine J_ladd d_P_nearerOf_46 ?_
          refine J_lret rfl d_P_nearerOf_47 ⟨by decide, by decide⟩ ?_
          exact ⟨_, rfl, rfl, rfl, (by unfold nrB; rw [if_pos ⟨by omega, by omega, by omega⟩, ← hqb, if_neg (by omega)]; omega), rfl⟩
        · refine J_lload_n 1 d_P_nearerOf_40 rfl rfl ?_
          refine J_goto (tgt := 47) d_P_nearerOf_41 (by decide) ?_
          refine J_lret rfl d_P_nearerOf_47 ⟨by decide, by decide⟩ ?_
          exact ⟨_, rfl, rfl, rfl, (by unfold nrB; rw [if_pos ⟨by omega, by omega, by omega⟩, ← hqb, if_pos (by omega)]), rfl⟩
