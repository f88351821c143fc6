/-! the states at the start, and what leaves a state as it is -/
theorem txP_cg {ad : Nat → Nat} {g : Nat → ClassId} {k : Nat} {w : List Nat} {F0 F1 : Nat → va_E} (h : txP ad g k w F0) (h1 : F1 k = F0 k) (h2 : F1 (k + 1) = F0 (k + 1)) : txP ad g k w F1 := by
  obtain ⟨a1, a2, hh, a3, a4⟩ := h
  exact ⟨a1, h1.trans a2, hh, h2.trans a3, a4⟩
theorem cS_cg {ad : Nat → Nat} {g : Nat → ClassId} {ln sh : List Nat} {F0 F1 : Nat → va_E} (h : cS ad g ln sh F0) (hf : ∀ j, j < 98 → F1 j = F0 j) : cS ad g ln sh F1 := by
  obtain ⟨a0, ⟨rf, a1, a2⟩, a9, a7, a8, ⟨q1, q2, a41⟩, ⟨x1, x2, x3, x4, x5, x6, x7, x8, x9, x10, a42⟩, ⟨ex, a43⟩, a44, ⟨w6, a46⟩, ⟨w8, a48⟩, ⟨w5, a50⟩⟩ := h
  exact ⟨(hf 0 (by decide)).trans a0, ⟨rf, (hf 1 (by decide)).trans a1, a2⟩, (hf 9 (by decide)).trans a9, txP_cg a7 (hf 7 (by decide)) (hf 8 (by decide)), a8, ⟨q1, q2, (hf 41 (by decide)).trans a41⟩, ⟨x1, x2, x3, x4, x5, x6, x7, x8, x9, x10, (hf 42 (by decide)).trans a42⟩, ⟨ex, (hf 43 (by decide)).trans a43⟩,
    txP_cg a44 (hf 44 (by decide)) (hf 45 (by decide)), ⟨w6, txP_cg a46 (hf 46 (by decide)) (hf 47 (by decide))⟩, ⟨w8, txP_cg a48 (hf 48 (by decide)) (hf 49 (by decide))⟩, ⟨w5, txP_cg a50 (hf 50 (by decide)) (hf 51 (by decide))⟩⟩
/-- the class's state depends on the class's places alone -/
theorem cst_cg {ad : Nat → Nat} {g : Nat → ClassId} {R : Nat → Vn} {ln sh : List Nat} {F F' : Nat → va_E} (h : cst ad g R ln sh F) (hf : ∀ j, j < 98 → F' j = F j) : cst ad g R ln sh F' := by
  obtain ⟨F0, W, K, S, h1, h2, rfl⟩ := h
  refine ⟨fun j => if j < 98 then F0 j else F' j, W, K, S, cS_cg h1 (fun j hj => if_pos hj), h2, ?_⟩
  funext j
  by_cases c : j < 98
  · rw [hf j c]
    unfold cF
    split
    · rfl
    · split
      · rfl
      · split
        · rfl
        · exact (if_pos c).symm
  · rw [cF_98 (by omega)]
    exact (if_neg c).symm
theorem cst_0 {ad : Nat → Nat} {g : Nat → ClassId} {R : Nat → Vn} {ln sh : List Nat} {F : Nat → va_E} (h : cst ad g R ln sh F) : ∃ fs, F 0 = .inr (0, fs) := by
  obtain ⟨F0, W, K, S, h1, h2, rfl⟩ := h
  exact ⟨_, (cF_0 (by decide)).trans h1.1⟩
/-- the Model's state depends on the Model's places alone -/
theorem mst_cg {ad : Nat → Nat} {g : Nat → ClassId} {R : Nat → Vn} {ln sh : List Nat} {c : Int} {F F' : Nat → va_E} (h : mst ad g R ln sh c F) (hf : ∀ j, 98 ≤ j → j ≤ 107 → F' j = F j) : mst ad g R ln sh c F' := by
  obtain ⟨hh, ll, f, v, V, br, kk, bb, rr, lh, xh, dh, th, ⟨a1, a2, a3, a4, a5, a6, a7, a8, a9, b1, b2, b3, b4, b5⟩, hc⟩ := h
  exact ⟨hh, ll, f, v, V, br, kk, bb, rr, lh, xh, dh, th, ⟨(hf 98 (by decide) (by decide)).trans a1, (hf 99 (by decide) (by decide)).trans a2, (hf 100 (by decide) (by decide)).trans a3, a4, a5, (hf 101 (by decide) (by decide)).trans a6, (hf 102 (by decide) (by decide)).trans a7, (hf 103 (by decide) (by decide)).trans a8, a9, (hf 104 (by decide) (by decide)).trans b1, (hf 105 (by decide) (by decide)).trans b2, (hf 106 (by decide) (by decide)).trans b3, (hf 107 (by decide) (by decide)).trans b4, b5⟩, hc⟩
theorem mst_98 {ad : Nat → Nat} {g : Nat → ClassId} {R : Nat → Vn} {ln sh : List Nat} {c : Int} {F : Nat → va_E} (h : mst ad g R ln sh c F) : ∃ f v, F 98 = oM ad f v ∧ f 10 = c := by
  obtain ⟨hh, ll, f, v, V, br, kk, bb, rr, lh, xh, dh, th, hD, hc⟩ := h
  exact ⟨f, v, hD.1, hc⟩
theorem isU_all {k : Nat} (h : isU k) : k = 2 ∨ k = 10 ∨ k = 15 ∨ k = 20 ∨ (58 ≤ k ∧ k < 98 ∧ (k - 58) % 5 = 0) := by
  have q := uMask_lt h
  have : ∀ k, k < 94 → isU k → k = 2 ∨ k = 10 ∨ k = 15 ∨ k = 20 ∨ (58 ≤ k ∧ k < 98 ∧ (k - 58) % 5 = 0) := by decide
  exact this k q h
theorem isN_all {k : Nat} (h : isN k) : (k = 3 ∨ k = 5) ∨ (10 ≤ k ∧ k < 25 ∧ (k % 5 = 1 ∨ k % 5 = 3)) ∨ (25 ≤ k ∧ k < 41 ∧ k % 2 = 1) ∨ (k = 52 ∨ k = 54 ∨ k = 56) ∨ (58 ≤ k ∧ k < 98 ∧ ((k - 58) % 5 = 1 ∨ (k - 58) % 5 = 3)) := by
  have q := nMask_lt h
  have a1 : ∀ k, k < 25 → isN k → (k = 3 ∨ k = 5) ∨ (10 ≤ k ∧ (k % 5 = 1 ∨ k % 5 = 3)) := by decide
  have a2 : ∀ k, k < 58 → 25 ≤ k → isN k → (k < 41 ∧ k % 2 = 1) ∨ (k = 52 ∨ k = 54 ∨ k = 56) := by decide
  have a3 : ∀ k, k < 97 → 58 ≤ k → isN k → (k - 58) % 5 = 1 ∨ (k - 58) % 5 = 3 := by decide
  by_cases c1 : k < 25
  · have := a1 k c1 h; omega
  · by_cases c2 : k < 58
    · have := a2 k c2 (by omega) h; omega
    · have := a3 k q (by omega) h; omega
theorem clsP_cst {ad : Nat → Nat} {g : Nat → ClassId} {F : Nat → va_E} (h : clsP g ad F 0) : cst ad g (fun _ => (-1, 0, 0, 0)) [] [] F := by
  obtain ⟨h0, ⟨rf, h1, hr⟩, h2, h7, ⟨h9, d1, d2, d3, d4, d5, d6, d7, d8, d9, d10, d11⟩, h41, h42, ⟨h43, t1, t2, t3, t4, e1, e2, e3⟩⟩ := h
  have hN : ∀ k, isN k → natP g ad F k := by
    intro k hk
    rcases isN_all hk with (rfl | rfl) | ⟨q1, q2, q3⟩ | ⟨q1, q2, q3⟩ | (rfl | rfl | rfl) | ⟨q1, q2, q3⟩
    · exact h2.2.1
    · exact h2.2.2
    · obtain rfl | rfl | rfl | rfl | rfl | rfl : k = 11 ∨ k = 13 ∨ k = 16 ∨ k = 18 ∨ k = 21 ∨ k = 23 := by omega
      · exact d1.2.1
      · exact d1.2.2
      · exact d2.2.1
      · exact d2.2.2
      · exact d3.2.1
      · exact d3.2.2
    · obtain rfl | rfl | rfl | rfl | rfl | rfl | rfl | rfl : k = 25 ∨ k = 27 ∨ k = 29 ∨ k = 31 ∨ k = 33 ∨ k = 35 ∨ k = 37 ∨ k = 39 := by omega
      · exact d4
      · exact d5
      · exact d6
      · exact d7
      · exact d8
      · exact d9
      · exact d10
      · exact d11
    · exact e1
    · exact e2
    · exact e3
    · have h9 := (hr ((k - 58) / 5) (by omega)).2
      rcases q3 with q3 | q3
      · have e : 0 + 58 + 5 * ((k - 58) / 5) + 1 = k := by omega
        exact e ▸ h9.2.1
      · have e : 0 + 58 + 5 * ((k - 58) / 5) + 3 = k := by omega
        exact e ▸ h9.2.2
  have hU : ∀ k, isU k → F k = oU ad k (-1) 0 := by
    intro k hk
    rcases isU_all hk with rfl | rfl | rfl | rfl | ⟨q1, q2, q3⟩
    · exact h2.1
    · exact d1.1
    · exact d2.1
    · exact d3.1
    · have h9 := (hr ((k - 58) / 5) (by omega)).2
      have e : 0 + 58 + 5 * ((k - 58) / 5) = k := by omega
      exact e ▸ h9.1
  refine ⟨F, fun _ => 0, fun _ => -1, fun _ => 0, ⟨h0, ⟨rf, h1, fun j hj => ?_⟩, h9, ⟨by decide, h7.1, _, h7.2, tx_nil _⟩, ⟨by decide, fun c hc => absurd hc List.not_mem_nil⟩, ⟨0, 0, h41⟩, ⟨0, 0, 0, 0, 0, 0, 0, 0, 0, 0, h42⟩, ⟨0, h43⟩, ⟨by decide, t1.1, _, t1.2, tx_nil _⟩, ⟨[], by decide, t2.1, _, t2.2, tx_nil _⟩, ⟨[], by decide, t3.1, _, t3.2, tx_nil _⟩, ⟨[], by decide, t4.1, _, t4.2, tx_nil _⟩⟩, ⟨fun k => Nat.two_pow_pos _, ⟨rfl, rfl, rfl⟩, fun r hr => ⟨rfl, fun _ => ⟨rfl, rfl⟩, fun q => absurd rfl q⟩⟩, ?_⟩
  · have h9 := (hr j hj).1
    have e : 0 + 58 + 5 * j = 58 + 5 * j := by omega
    rw [e] at h9
    exact h9
  · funext k
    unfold cF
    split
    · rename_i c
      exact hU k c
    · split
      · rename_i c
        show F k = oN ad k ((lnw 30 0 : Nat) : Int)
        rw [lnw_0]
        exact (hN k c).1
      · split
        · rename_i c
          obtain ⟨c1, c2⟩ := c
          have h9 := (hN (k - 1) c2).2
          rw [Nat.sub_add_cancel c1] at h9
          rw [h9]
          show _ = aN g (dg 0)
          rw [dg_0]
        · rfl
theorem modP_mst {ad : Nat → Nat} {g : Nat → ClassId} {F : Nat → va_E} (h : modP g ad F 98) : mst ad g (fun _ => (-1, 0, 0, 0)) [] [] 0 F := by
  obtain ⟨h98, h99, h100, h101, h102, h103, h104, h105, h106, h107⟩ := h
  refine ⟨_, _, fun _ => 0, 0, fun _ => 0, fun _ => 0, _, _, _, _, _, _, _, ⟨h98, h99, h100, ?_, ⟨fun _ => Nat.zero_le _, fun _ _ _ => rfl⟩, h101, h102, h103, ?_, h104, h105, h106, h107, ⟨fun j hj => absurd hj (Nat.not_lt_zero _), rfl, Nat.zero_le _, fun c hc => absurd hc List.not_mem_nil⟩, ⟨fun j hj => absurd hj (Nat.not_lt_zero _), rfl, Nat.zero_le _, fun c hc => absurd hc List.not_mem_nil⟩⟩, rfl⟩
  · intro a ha
    refine ⟨fun _ => ⟨by rw [lnw_0]; rfl, by rw [lnw_0]; decide, fun j hj => ?_⟩, fun c hc => by have h9 : 0 = c + 2 := hc; omega⟩
    rw [lnw_0] at hj
    exact absurd hj (Nat.not_lt_zero _)
  · intro r hr
    refine ⟨Or.inl rfl, ?_, Or.inl rfl, fun q => absurd rfl q⟩
    match r, hr with
    | 0, _ => rfl
    | 1, _ => rfl
    | 2, _ => rfl
    | 3, _ => rfl
    | 4, _ => rfl
    | 5, _ => rfl
    | 6, _ => rfl
    | 7, _ => rfl
    | q + 8, h => exact absurd h (by omega)
set_option maxRecDepth 100000 in
set_option maxHeartbeats 4000000 in
theorem c_M_thrown {l : Launch} (hfl : l.flags = flags0) {D : va_G} {g : Nat → ClassId} {ad : Nat → Nat} {N : Nat} {F : Nat → va_E} {R : Nat → Vn} {ln sh : List Nat} {c : Int} (hN : 109 ≤ N) (hM : mst ad g R ln sh c F) :
    JC l y_M_thrown b_M_thrown 1 (Option.some Jvm.ClassFile.FieldType.int) rm_M_thrown (0, 0) D jCl (jTys g) ad N F [.ref (ad 98)] (ji ad N (fun z F' => z = c ∧ F' = F)) := by
  obtain ⟨f, v, hO, hc⟩ := mst_98 hM
  refine JC.go hfl (own := "NumberTowerModel") (lv := [(0, .ref (ad 98))]) rfl (by decide +kernel) (Nat.le_of_ble_eq_true rfl) rfl (fun A => ?_)
  refine J_aload_n 0 d_M_thrown_0 rfl rfl ?_
  refine gf_M_39 (by omega) hO rfl d_M_thrown_1 ?_
  refine J_iret rfl rfl d_M_thrown_4 ⟨by decide, by decide⟩ ?_
  exact ⟨f 10, rfl, rfl, rfl, hc, rfl⟩
