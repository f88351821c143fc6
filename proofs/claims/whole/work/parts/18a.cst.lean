/-! the class: its state -/

/-- a text of the class at a place -/
def txP (ad : Nat → Nat) (g : Nat → ClassId) (k : Nat) (w : List Nat) (F0 : Nat → va_E) : Prop := w.length ≤ 200 ∧ F0 k = oT ad k (w.length : Int) ∧ ∃ h : Nat → Int, F0 (k + 1) = aT g h ∧ tx h w
theorem txP_o {ad : Nat → Nat} {g : Nat → ClassId} {k j : Nat} {w : List Nat} {F0 : Nat → va_E} {c : va_E} (h : txP ad g k w F0) (h1 : k ≠ j) (h2 : k + 1 ≠ j) : txP ad g k w (va_up F0 j c) := by
  obtain ⟨h3, h4, hh, h5, h6⟩ := h
  exact ⟨h3, (va_up_ne _ _ h1).trans h4, hh, (va_up_ne _ _ h2).trans h5, h6⟩
theorem txP_u {ad : Nat → Nat} {g : Nat → ClassId} {k : Nat} {w : List Nat} {F0 : Nat → va_E} {hh : Nat → Int} (h : tx hh w) (hl : w.length ≤ 200) : txP ad g k w (va_up (va_up F0 (k + 1) (aT g hh)) k (oT ad k (w.length : Int))) :=
  ⟨hl, va_up_self .., hh, (va_up_ne _ _ (by omega)).trans (va_up_self ..), h⟩
/-- what is in the class's object, its texts and its tools -/
def cS (ad : Nat → Nat) (g : Nat → ClassId) (ln sh : List Nat) (F0 : Nat → va_E) : Prop :=
  F0 0 = .inr (0, [.ref (ad 1), .ref (ad 2), .ref (ad 7), .ref (ad 9), .ref (ad 41), .ref (ad 42), .ref (ad 43)]) ∧
  (∃ rf : Nat → Option Nat, F0 1 = .inl (g 4, 8, .inr (.inr (.inr (.inr rf)))) ∧ ∀ j, j < 8 → rf j = some (ad (58 + 5 * j))) ∧
  F0 9 = oD ad ∧ txP ad g 7 ln F0 ∧ (ln.length ≤ 40 ∧ ∀ c, c ∈ ln → 32 ≤ c ∧ c ≤ 126) ∧
  (∃ a t : Int, F0 41 = oR ad a t) ∧ (∃ x1 x2 x3 x4 x5 x6 x7 x8 x9 x10 : Int, F0 42 = oS ad x1 x2 x3 x4 x5 x6 x7 x8 x9 x10) ∧ (∃ ex : Int, F0 43 = oP ad ex) ∧
  txP ad g 44 sh F0 ∧ (∃ w, txP ad g 46 w F0) ∧ (∃ w, txP ad g 48 w F0) ∧ ∃ w, txP ad g 50 w F0
theorem cS_41 {ad : Nat → Nat} {g : Nat → ClassId} {ln sh : List Nat} {F0 : Nat → va_E} {a t : Int} (h : cS ad g ln sh F0) : cS ad g ln sh (va_up F0 41 (oR ad a t)) := by
  obtain ⟨a0, ⟨rf, a1, a2⟩, a9, a7, a8, -, a42, a43, a44, ⟨w6, a46⟩, ⟨w8, a48⟩, ⟨w5, a50⟩⟩ := h
  refine ⟨(va_up_ne _ _ (by decide)).trans a0, ⟨rf, (va_up_ne _ _ (by decide)).trans a1, a2⟩, (va_up_ne _ _ (by decide)).trans a9, txP_o a7 (by decide) (by decide), a8, ⟨a, t, va_up_self ..⟩, ?_, ?_, txP_o a44 (by decide) (by decide), ⟨w6, txP_o a46 (by decide) (by decide)⟩, ⟨w8, txP_o a48 (by decide) (by decide)⟩, ⟨w5, txP_o a50 (by decide) (by decide)⟩⟩
  · rw [va_up_ne _ _ (by decide)]; exact a42
  · rw [va_up_ne _ _ (by decide)]; exact a43
theorem cS_42 {ad : Nat → Nat} {g : Nat → ClassId} {ln sh : List Nat} {F0 : Nat → va_E} {x1 x2 x3 x4 x5 x6 x7 x8 x9 x10 : Int} (h : cS ad g ln sh F0) : cS ad g ln sh (va_up F0 42 (oS ad x1 x2 x3 x4 x5 x6 x7 x8 x9 x10)) := by
  obtain ⟨a0, ⟨rf, a1, a2⟩, a9, a7, a8, a41, -, a43, a44, ⟨w6, a46⟩, ⟨w8, a48⟩, ⟨w5, a50⟩⟩ := h
  refine ⟨(va_up_ne _ _ (by decide)).trans a0, ⟨rf, (va_up_ne _ _ (by decide)).trans a1, a2⟩, (va_up_ne _ _ (by decide)).trans a9, txP_o a7 (by decide) (by decide), a8, ?_, ⟨x1, x2, x3, x4, x5, x6, x7, x8, x9, x10, va_up_self ..⟩, ?_, txP_o a44 (by decide) (by decide), ⟨w6, txP_o a46 (by decide) (by decide)⟩, ⟨w8, txP_o a48 (by decide) (by decide)⟩, ⟨w5, txP_o a50 (by decide) (by decide)⟩⟩
  · rw [va_up_ne _ _ (by decide)]; exact a41
  · rw [va_up_ne _ _ (by decide)]; exact a43
theorem cS_43 {ad : Nat → Nat} {g : Nat → ClassId} {ln sh : List Nat} {F0 : Nat → va_E} {ex : Int} (h : cS ad g ln sh F0) : cS ad g ln sh (va_up F0 43 (oP ad ex)) := by
  obtain ⟨a0, ⟨rf, a1, a2⟩, a9, a7, a8, a41, a42, -, a44, ⟨w6, a46⟩, ⟨w8, a48⟩, ⟨w5, a50⟩⟩ := h
  refine ⟨(va_up_ne _ _ (by decide)).trans a0, ⟨rf, (va_up_ne _ _ (by decide)).trans a1, a2⟩, (va_up_ne _ _ (by decide)).trans a9, txP_o a7 (by decide) (by decide), a8, ?_, ?_, ⟨ex, va_up_self ..⟩, txP_o a44 (by decide) (by decide), ⟨w6, txP_o a46 (by decide) (by decide)⟩, ⟨w8, txP_o a48 (by decide) (by decide)⟩, ⟨w5, txP_o a50 (by decide) (by decide)⟩⟩
  · rw [va_up_ne _ _ (by decide)]; exact a41
  · rw [va_up_ne _ _ (by decide)]; exact a42
theorem cS_t {ad : Nat → Nat} {g : Nat → ClassId} {ln sh w : List Nat} {F0 : Nat → va_E} {k : Nat} {hh : Nat → Int} (hk : k = 44 ∨ k = 46 ∨ k = 48 ∨ k = 50) (h : cS ad g ln sh F0) (ht : tx hh w) (hl : w.length ≤ 200) : cS ad g ln (if k = 44 then w else sh) (va_up (va_up F0 (k + 1) (aT g hh)) k (oT ad k (w.length : Int))) := by
  obtain ⟨a0, ⟨rf, a1, a2⟩, a9, a7, a8, a41, a42, a43, a44, ⟨w6, a46⟩, ⟨w8, a48⟩, ⟨w5, a50⟩⟩ := h
  have ne : ∀ j, j < 44 → (va_up (va_up F0 (k + 1) (aT g hh)) k (oT ad k (w.length : Int))) j = F0 j := fun j hj => by rw [va_up_ne _ _ (by omega), va_up_ne _ _ (by omega)]
  refine ⟨(ne 0 (by decide)).trans a0, ⟨rf, (ne 1 (by decide)).trans a1, a2⟩, (ne 9 (by decide)).trans a9, txP_o (txP_o a7 (by omega) (by omega)) (by omega) (by omega), a8, ?_, ?_, ?_, ?_, ?_, ?_, ?_⟩
  · rw [ne 41 (by decide)]; exact a41
  · rw [ne 42 (by decide)]; exact a42
  · rw [ne 43 (by decide)]; exact a43
  · by_cases c : k = 44
    · subst c; rw [if_pos rfl]; exact txP_u ht hl
    · rw [if_neg c]; exact txP_o (txP_o a44 (by omega) (by omega)) (by omega) (by omega)
  · by_cases c : k = 46
    · subst c; exact ⟨w, txP_u ht hl⟩
    · exact ⟨w6, txP_o (txP_o a46 (by omega) (by omega)) (by omega) (by omega)⟩
  · by_cases c : k = 48
    · subst c; exact ⟨w, txP_u ht hl⟩
    · exact ⟨w8, txP_o (txP_o a48 (by omega) (by omega)) (by omega) (by omega)⟩
  · by_cases c : k = 50
    · subst c; exact ⟨w, txP_u ht hl⟩
    · exact ⟨w5, txP_o (txP_o a50 (by omega) (by omega)) (by omega) (by omega)⟩
theorem cS_44 {ad : Nat → Nat} {g : Nat → ClassId} {ln sh w : List Nat} {F0 : Nat → va_E} {hh : Nat → Int} (h : cS ad g ln sh F0) (ht : tx hh w) (hl : w.length ≤ 200) : cS ad g ln w (va_up (va_up F0 45 (aT g hh)) 44 (oT ad 44 (w.length : Int))) := cS_t (k := 44) (Or.inl rfl) h ht hl
theorem cS_46 {ad : Nat → Nat} {g : Nat → ClassId} {ln sh w : List Nat} {F0 : Nat → va_E} {hh : Nat → Int} (h : cS ad g ln sh F0) (ht : tx hh w) (hl : w.length ≤ 200) : cS ad g ln sh (va_up (va_up F0 47 (aT g hh)) 46 (oT ad 46 (w.length : Int))) := cS_t (k := 46) (by decide) h ht hl
theorem cS_48 {ad : Nat → Nat} {g : Nat → ClassId} {ln sh w : List Nat} {F0 : Nat → va_E} {hh : Nat → Int} (h : cS ad g ln sh F0) (ht : tx hh w) (hl : w.length ≤ 200) : cS ad g ln sh (va_up (va_up F0 49 (aT g hh)) 48 (oT ad 48 (w.length : Int))) := cS_t (k := 48) (by decide) h ht hl
theorem cS_50 {ad : Nat → Nat} {g : Nat → ClassId} {ln sh w : List Nat} {F0 : Nat → va_E} {hh : Nat → Int} (h : cS ad g ln sh F0) (ht : tx hh w) (hl : w.length ≤ 200) : cS ad g ln sh (va_up (va_up F0 51 (aT g hh)) 50 (oT ad 50 (w.length : Int))) := cS_t (k := 50) (by decide) h ht hl
theorem cS_7 {ad : Nat → Nat} {g : Nat → ClassId} {ln sh w : List Nat} {F0 : Nat → va_E} {hh : Nat → Int} (h : cS ad g ln sh F0) (ht : tx hh w) (hl : w.length ≤ 40 ∧ ∀ c, c ∈ w → 32 ≤ c ∧ c ≤ 126) : cS ad g w sh (va_up (va_up F0 8 (aT g hh)) 7 (oT ad 7 (w.length : Int))) := by
  obtain ⟨a0, ⟨rf, a1, a2⟩, a9, a7, a8, a41, a42, a43, a44, ⟨w6, a46⟩, ⟨w8, a48⟩, ⟨w5, a50⟩⟩ := h
  have ne : ∀ j, j ≠ 7 → j ≠ 8 → (va_up (va_up F0 8 (aT g hh)) 7 (oT ad 7 (w.length : Int))) j = F0 j := fun j h1 h2 => by rw [va_up_ne _ _ h1, va_up_ne _ _ h2]
  refine ⟨(ne 0 (by decide) (by decide)).trans a0, ⟨rf, (ne 1 (by decide) (by decide)).trans a1, a2⟩, (ne 9 (by decide) (by decide)).trans a9, txP_u (k := 7) ht (by omega), hl, ?_, ?_, ?_, txP_o (txP_o a44 (by decide) (by decide)) (by decide) (by decide), ⟨w6, txP_o (txP_o a46 (by decide) (by decide)) (by decide) (by decide)⟩, ⟨w8, txP_o (txP_o a48 (by decide) (by decide)) (by decide) (by decide)⟩, ⟨w5, txP_o (txP_o a50 (by decide) (by decide)) (by decide) (by decide)⟩⟩
  · rw [ne 41 (by decide) (by decide)]; exact a41
  · rw [ne 42 (by decide) (by decide)]; exact a42
  · rw [ne 43 (by decide) (by decide)]; exact a43
theorem cS_0 {ad : Nat → Nat} {g : Nat → ClassId} {ln sh : List Nat} {F0 : Nat → va_E} (h : cS ad g ln sh F0) : cS ad g [] sh (va_up F0 7 (oT ad 7 ((([] : List Nat).length : Nat) : Int))) := by
  have h2 := h
  obtain ⟨-, -, -, ⟨h3, h4, hh, h5, h6⟩, -⟩ := h2
  have h7 : va_up F0 7 (oT ad 7 ((([] : List Nat).length : Nat) : Int)) = va_up (va_up F0 8 (aT g hh)) 7 (oT ad 7 ((([] : List Nat).length : Nat) : Int)) := by rw [← up_same1 h5]
  rw [h7]
  exact cS_7 h (tx_nil hh) ⟨Nat.zero_le _, fun c hc => absurd hc (by simp)⟩
/-- the registers' numbers and the missing one -/
def cV (R : Nat → Vn) (W : Nat → Nat) (K S : Nat → Int) : Prop :=
  bW W ∧ (K 2 = -1 ∧ S 2 = 0 ∧ W 3 = 0) ∧ ∀ r, r < 8 → K (58 + 5 * r) = (R r).1 ∧ ((R r).1 = -1 → S (58 + 5 * r) = 0 ∧ W (58 + 5 * r + 1) = 0) ∧ ((R r).1 ≠ -1 → S (58 + 5 * r) = (R r).2.1 ∧ W (58 + 5 * r + 1) = (R r).2.2.1 ∧ W (58 + 5 * r + 3) = (R r).2.2.2)
theorem cV_fr {R : Nat → Vn} {W W' : Nat → Nat} {K S K' S' : Nat → Int} (h : cV R W K S) (hb : bW W') (hf : ∀ j, (j < 10 ∨ 57 < j) → W' j = W j ∧ K' j = K j ∧ S' j = S j) : cV R W' K' S' := by
  obtain ⟨h1, ⟨h2, h3, h4⟩, h5⟩ := h
  refine ⟨hb, ⟨(hf 2 (by decide)).2.1.trans h2, (hf 2 (by decide)).2.2.trans h3, (hf 3 (by decide)).1.trans h4⟩, fun r hr => ?_⟩
  rw [(hf (58 + 5 * r) (by omega)).2.1, (hf (58 + 5 * r) (by omega)).2.2, (hf (58 + 5 * r + 1) (by omega)).1, (hf (58 + 5 * r + 3) (by omega)).1]
  exact h5 r hr
theorem cV_put {R : Nat → Vn} {W : Nat → Nat} {K S : Nat → Int} {r u d : Nat} {kd s : Int} (h : cV R W K S) (hr : r < 8) (hb : bW (va_up (va_up W (58 + 5 * r + 1) u) (58 + 5 * r + 3) d)) (hk : kd ≠ -1) : cV (va_up R r (kd, s, u, d)) (va_up (va_up W (58 + 5 * r + 1) u) (58 + 5 * r + 3) d) (va_up K (58 + 5 * r) kd) (va_up S (58 + 5 * r) s) := by
  obtain ⟨h1, ⟨h2, h3, h4⟩, h5⟩ := h
  refine ⟨hb, ⟨(va_up_ne _ _ (by omega)).trans h2, (va_up_ne _ _ (by omega)).trans h3, ?_⟩, fun q hq => ?_⟩
  · rw [va_up_ne _ _ (by omega), va_up_ne _ _ (by omega)]; exact h4
  · by_cases c : q = r
    · subst c
      rw [va_up_self, va_up_self, va_up_self, va_up_self, va_up_ne _ _ (by omega), va_up_self]
      exact ⟨rfl, fun q => absurd q hk, fun _ => ⟨rfl, rfl, rfl⟩⟩
    · have e1 : va_up R r (kd, s, u, d) q = R q := va_up_ne _ _ c
      have e2 : va_up K (58 + 5 * r) kd (58 + 5 * q) = K (58 + 5 * q) := va_up_ne _ _ (by omega)
      have e3 : va_up S (58 + 5 * r) s (58 + 5 * q) = S (58 + 5 * q) := va_up_ne _ _ (by omega)
      have e4 : ∀ i, i = 1 ∨ i = 3 → va_up (va_up W (58 + 5 * r + 1) u) (58 + 5 * r + 3) d (58 + 5 * q + i) = W (58 + 5 * q + i) := fun i hi => by rw [va_up_ne _ _ (by omega), va_up_ne _ _ (by omega)]
      rw [e1, e2, e3, e4 1 (Or.inl rfl), e4 3 (Or.inr rfl)]
      exact h5 q hq
/-- the place of a register's number -/
def pA (a : Int) : Nat := if 0 ≤ a ∧ a ≤ 7 then 58 + 5 * a.toNat else 2
theorem isU_58 {r : Nat} (h : r < 8) : isU (58 + 5 * r) := by
  have : ∀ r, r < 8 → isU (58 + 5 * r) := by decide
  exact this r h
theorem cV_at {R : Nat → Vn} {W : Nat → Nat} {K S : Nat → Int} (h : cV R W K S) (hok : ∀ r, r < 8 → okv (R r)) (a : Int) : ∃ (p : Nat) (kd sx : Int) (ux dx : Nat), pA a = p ∧ isU p ∧ (p = 2 ∨ 58 ≤ p) ∧ W (p + 1) = ux ∧ W (p + 3) = dx ∧ K p = kd ∧ S p = sx ∧ (-1 ≤ sx ∧ sx ≤ 1 ∧ -1 ≤ kd ∧ kd ≤ 2) ∧ (sx = 0 ↔ ux = 0) ∧ kd = (regV R a).1 ∧ (kd = -1 ∨ (regV R a = (kd, sx, ux, dx) ∧ okv (kd, sx, ux, dx) ∧ 58 ≤ p)) := by
  obtain ⟨h1, ⟨h2, h3, h4⟩, h5⟩ := h
  by_cases c : 0 ≤ a ∧ a ≤ 7
  · obtain ⟨g1, g2, g4⟩ := h5 a.toNat (by omega)
    have ho := hok a.toNat (by omega)
    by_cases k : (R a.toNat).1 = -1
    · obtain ⟨e1, e2⟩ := g2 k
      exact ⟨_, _, _, _, _, if_pos c, isU_58 (by omega), by omega, rfl, rfl, rfl, rfl, ⟨by rw [e1]; decide, by rw [e1]; decide, by rw [g1, k]; decide, by rw [g1, k]; decide⟩, by rw [e1, e2]; decide, by rw [regV_in c]; exact g1, Or.inl (by rw [g1]; exact k)⟩
    · obtain ⟨e1, e2, e3⟩ := g4 k
      have e : R a.toNat = (K (58 + 5 * a.toNat), S (58 + 5 * a.toNat), W (58 + 5 * a.toNat + 1), W (58 + 5 * a.toNat + 3)) := by rw [g1, e1, e2, e3]
      have ho2 : okv (K (58 + 5 * a.toNat), S (58 + 5 * a.toNat), W (58 + 5 * a.toNat + 1), W (58 + 5 * a.toNat + 3)) := e ▸ ho
      obtain ⟨b1, -, b3, -, -, -, -, b8, -, -⟩ := okv_b ho2 (by rw [g1]; exact k)
      exact ⟨_, _, _, _, _, if_pos c, isU_58 (by omega), by omega, rfl, rfl, rfl, rfl, ⟨b3.1, b3.2, by omega, b1.2⟩, b8, by rw [regV_in c]; exact g1, Or.inr ⟨by rw [regV_in c]; exact e, ho2, by omega⟩⟩
  · refine ⟨2, -1, 0, 0, _, if_neg c, by decide, Or.inl rfl, h4, rfl, h2, h3, by decide, by decide, by rw [regV_out c], Or.inl rfl⟩
/-- the class's state -/
def cst (ad : Nat → Nat) (g : Nat → ClassId) (R : Nat → Vn) (ln sh : List Nat) (F : Nat → va_E) : Prop := ∃ (F0 : Nat → va_E) (W : Nat → Nat) (K S : Nat → Int), cS ad g ln sh F0 ∧ cV R W K S ∧ F = cF ad g F0 W K S
/-- nothing but the class's places has changed -/
def offC (F F' : Nat → va_E) : Prop := ∀ j, 98 ≤ j → F' j = F j
theorem cF_98 {ad : Nat → Nat} {g : Nat → ClassId} {F0 : Nat → va_E} {W : Nat → Nat} {K S : Nat → Int} {j : Nat} (h : 98 ≤ j) : cF ad g F0 W K S j = F0 j := by
  refine cF_0 ⟨fun w => ?_, fun w => ?_, fun w => ?_⟩
  · have := uMask_lt w; omega
  · have := nMask_lt w; omega
  · have := nMask_lt w.2; omega
theorem offC_c {ad : Nat → Nat} {g : Nat → ClassId} {F0 F1 : Nat → va_E} {W W1 : Nat → Nat} {K S K1 S1 : Nat → Int} (h : ∀ j, 98 ≤ j → F1 j = F0 j) : offC (cF ad g F0 W K S) (cF ad g F1 W1 K1 S1) := fun j hj => by rw [cF_98 hj, cF_98 hj, h j hj]
theorem offC_e {ad : Nat → Nat} {g : Nat → ClassId} {F F0 F1 : Nat → va_E} {W W1 : Nat → Nat} {K S K1 S1 : Nat → Int} (hF : F = cF ad g F0 W K S) (h : ∀ j, 98 ≤ j → F1 j = F0 j) : offC F (cF ad g F1 W1 K1 S1) := by rw [hF]; exact offC_c h
/-- what a storing operation of the class may end in -/
abbrev QX (ad : Nat → Nat) (N : Nat) (g : Nat → ClassId) (R : Nat → Vn) (ln sh : List Nat) (to : Int) (o : Sum Int Vn) (F : Nat → va_E) : JQ :=
  jix ad N (fun z F' => ∃ w, o = .inr w ∧ z = w.1 ∧ cst ad g (va_up R to.toNat w) ln sh F' ∧ offC F F') (fun k F' => o = .inl (k : Int) ∧ cst ad g R ln sh F' ∧ offC F F')
set_option maxRecDepth 100000 in
set_option maxHeartbeats 4000000 in
theorem c_X_isRegister {l : Launch} (hfl : l.flags = flags0) {D : va_G} {g : Nat → ClassId} {ad : Nat → Nat} {N : Nat} {F : Nat → va_E} {r : Int}
    (hr : inI r) :
    JC l y_X_isRegister b_X_isRegister 1 (Option.some Jvm.ClassFile.FieldType.boolean) rm_X_isRegister (0, 0) D jCl (jTys g) ad N F [.int (iI r)] (ji ad N (fun z F' => ((z = 1 ∧ (0 ≤ r ∧ r ≤ 7)) ∨ (z = 0 ∧ ¬(0 ≤ r ∧ r ≤ 7))) ∧ F' = F)) := by
  refine JC.go hfl (own := "NumberTower") (lv := [(0, .int (iI r))]) rfl (by decide +kernel) (Nat.le_of_ble_eq_true rfl) rfl (fun A => ?_)
  refine J_iload_n 0 d_X_isRegister_0 rfl rfl ?_
  refine J_iflt (tgt := 14) d_X_isRegister_1 (by decide) ⟨by omega, by omega⟩ (fun c1 => ?_) (fun c1 => ?_)
  · refine J_iconst d_X_isRegister_14 ?_
    refine J_iret rfl (nb01 (by omega)).1 d_X_isRegister_15 ⟨by decide, by decide⟩ ?_
    exact ⟨_, rfl, rfl, rfl, by omega, rfl⟩
  · refine J_iload_n 0 d_X_isRegister_4 rfl rfl ?_
    refine J_bipush d_X_isRegister_5 (i8_ok (by decide)) ?_
    refine J_if_icmpge (tgt := 14) d_X_isRegister_7 (by decide) ⟨by omega, by omega⟩ ⟨by omega, by omega⟩ (fun c7 => ?_) (fun c7 => ?_)
    · refine J_iconst d_X_isRegister_14 ?_
      refine J_iret rfl (nb01 (by omega)).1 d_X_isRegister_15 ⟨by decide, by decide⟩ ?_
      exact ⟨_, rfl, rfl, rfl, by omega, rfl⟩
    · refine J_iconst d_X_isRegister_10 ?_
      refine J_goto (tgt := 15) d_X_isRegister_11 (by decide) ?_
      refine J_iret rfl (nb01 (by omega)).1 d_X_isRegister_15 ⟨by decide, by decide⟩ ?_
      exact ⟨_, rfl, rfl, rfl, by omega, rfl⟩
set_option maxRecDepth 100000 in
set_option maxHeartbeats 4000000 in
theorem c_X_numberAt {l : Launch} (hfl : l.flags = flags0) {D : va_G} {g : Nat → ClassId} {ad : Nat → Nat} {N : Nat} {F0 : Nat → va_E} {W : Nat → Nat} {K S : Nat → Int} {rf : Nat → Option Nat} {r : Int} {p : Nat}
    (hN : 109 ≤ N) (hW : bW W) (hX0 : F0 0 = .inr (0, [.ref (ad 1), .ref (ad 2), .ref (ad 7), .ref (ad 9), .ref (ad 41), .ref (ad 42), .ref (ad 43)])) (hX1 : F0 1 = .inl (g 4, 8, .inr (.inr (.inr (.inr rf))))) (hrf : ∀ j, j < 8 → rf j = some (ad (58 + 5 * j))) (hr : inI r) (hp : pA r = p) :
    JC l y_X_numberAt b_X_numberAt 2 (Option.some (Jvm.ClassFile.FieldType.object "NumberTower$Num")) rm_X_numberAt (0, 0) D jCl (jTys g) ad N (cF ad g F0 W K S) [.ref (ad 0), .int (iI r)] (jr ad N (fun z F' => z = ad p ∧ F' = cF ad g F0 W K S)) := by
  refine JC.go hfl (own := "NumberTower") (lv := [(0, .ref (ad 0)), (1, .int (iI r))]) rfl (by decide +kernel) (Nat.le_of_ble_eq_true rfl) rfl (fun A => ?_)
  refine J_iload_n 1 d_X_numberAt_0 rfl rfl ?_
  refine J_callSi cw_X_75 nh_X_isRegister pn_X_isRegister rfl (As := [.int (iI r)]) (rest := []) rfl (Nat.le_of_ble_eq_true rfl) ⟨by decide, by decide⟩ rfl ⟨by decide, by decide⟩ d_X_numberAt_1 (c_X_isRegister hfl (r := r) (by omega)) (fun z1 F1 hq => ?_)
  obtain ⟨hz1, eF1⟩ := hq
  refine J_eqF eF1 ?_
  refine J_ifeq (tgt := 16) d_X_numberAt_4 (by decide) ⟨by omega, by omega⟩ (fun c4 => ?_) (fun c4 => ?_)
  · refine J_aload_n 0 d_X_numberAt_16 rfl rfl ?_
    refine gf_X_16 (by omega) ((cF_0 (by decide)).trans hX0) rfl d_X_numberAt_17 ?_
    refine J_aret rfl d_X_numberAt_20 ⟨by decide, by decide⟩ ?_
    exact ⟨_, rfl, rfl, rfl, (by rw [← hp]; unfold pA; rw [if_neg (by omega)]), rfl⟩
  · refine J_aload_n 0 d_X_numberAt_7 rfl rfl ?_
    refine gf_X_11 (by omega) ((cF_0 (by decide)).trans hX0) rfl d_X_numberAt_8 ?_
    refine J_iload_n 1 d_X_numberAt_11 rfl rfl ?_
    refine J_aaload 4 rfl (by omega) ((cF_0 (by decide)).trans hX1) (by omega) (hrf r.toNat (by omega)) d_X_numberAt_12 ?_
    refine J_goto (tgt := 20) d_X_numberAt_13 (by decide) ?_
    refine J_aret rfl d_X_numberAt_20 ⟨by decide, by decide⟩ ?_
    exact ⟨_, rfl, rfl, rfl, (by rw [← hp]; unfold pA; rw [if_pos (by omega)]), rfl⟩
set_option maxRecDepth 100000 in
set_option maxHeartbeats 4000000 in
theorem c_X_keep {l : Launch} (hfl : l.flags = flags0) {D : va_G} {g : Nat → ClassId} {ad : Nat → Nat} {N : Nat} {F0 : Nat → va_E} {W : Nat → Nat} {K S : Nat → Int} {rf : Nat → Option Nat} {to : Int} {r u d q : Nat} {kd sx : Int}
    (hN : 109 ≤ N) (hW : bW W) (hX0 : F0 0 = .inr (0, [.ref (ad 1), .ref (ad 2), .ref (ad 7), .ref (ad 9), .ref (ad 41), .ref (ad 42), .ref (ad 43)])) (hX1 : F0 1 = .inl (g 4, 8, .inr (.inr (.inr (.inr rf))))) (hrf : ∀ j, j < 8 → rf j = some (ad (58 + 5 * j))) (hDk : F0 9 = oD ad) (hto : 0 ≤ to ∧ to ≤ 7) (hrt : r = to.toNat) (hq : q = 58 + 5 * r) (h10 : K 10 = kd) (hs10 : S 10 = sx) (h11 : W 11 = u) (h13 : W 13 = d) :
    JC l y_X_keep b_X_keep 2 (Option.some Jvm.ClassFile.FieldType.int) rm_X_keep (0, 0) D jCl (jTys g) ad N (cF ad g F0 W K S) [.ref (ad 0), .int (iI to)] (ji ad N (fun z F' => z = kd ∧ bW (va_up (va_up W (q + 1) u) (q + 3) d) ∧ F' = cF ad g F0 (va_up (va_up W (q + 1) u) (q + 3) d) (va_up K q kd) (va_up S q sx))) := by
  have hr : r < 8 := by omega
  have hqU : isU q := by rw [hq]; exact isU_58 hr
  refine JC.go hfl (own := "NumberTower") (lv := [(0, .ref (ad 0)), (1, .int (iI to))]) rfl (by decide +kernel) (Nat.le_of_ble_eq_true rfl) rfl (fun A => ?_)
  refine J_iload_n 1 d_X_keep_0 rfl rfl ?_
  refine J_callSi cw_X_75 nh_X_isRegister pn_X_isRegister rfl (As := [.int (iI to)]) (rest := []) rfl (Nat.le_of_ble_eq_true rfl) ⟨by decide, by decide⟩ rfl ⟨by decide, by decide⟩ d_X_keep_1 (c_X_isRegister hfl (r := to) (by omega)) (fun z2 F1 hq => ?_)
  obtain ⟨hz2, eF1⟩ := hq
  refine J_eqF eF1 ?_
  refine J_ifne (tgt := 9) d_X_keep_4 (by decide) ⟨by omega, by omega⟩ (fun c4 => ?_) (fun c4 => ?_)
  · refine J_aload_n 0 d_X_keep_9 rfl rfl ?_
    refine gf_X_11 (by omega) ((cF_0 (by decide)).trans hX0) rfl d_X_keep_10 ?_
    refine J_iload_n 1 d_X_keep_13 rfl rfl ?_
    refine J_aaload 4 rfl (by omega) ((cF_0 (by decide)).trans hX1) (by omega) (show rf to.toNat = some (ad q) from by rw [hq, hrt]; exact hrf to.toNat (by omega)) d_X_keep_14 ?_
    refine J_aload_n 0 d_X_keep_15 rfl rfl ?_
    refine gf_X_30 (by omega) ((cF_0 (by decide)).trans hX0) rfl d_X_keep_16 ?_
    refine gf_X_68 (by omega) ((cF_0 (by decide)).trans hDk) rfl d_X_keep_19 ?_
    refine J_callVv cw_X_241 nh_U_become pn_U_become rfl rfl (by omega) (cF_U hqU rfl rfl) (As := [.ref (ad 10)]) (rest := []) rfl (Nat.le_of_ble_eq_true rfl) ⟨by decide, by decide⟩ rfl ⟨by decide, by decide⟩ d_X_keep_22 (u_become hfl (F0 := F0) (W := W) (K := K) (S := S) (k := q) (p := 10) (by omega) hW hqU (by decide) (by omega)) (fun  F5 hq => ?_)
    obtain ⟨hW3, eF4⟩ := hq
    rw [h11, h13] at hW3 eF4
    rw [h10, hs10] at eF4
    refine J_eqF (F2 := cF ad g F0 (va_up (va_up W (q + 1) u) (q + 3) d) (va_up K q kd) (va_up S q sx)) eF4 ?_
    refine J_aload_n 0 d_X_keep_25 rfl rfl ?_
    refine gf_X_30 (by omega) ((cF_0 (by decide)).trans hX0) rfl d_X_keep_26 ?_
    refine gf_X_68 (by omega) ((cF_0 (by decide)).trans hDk) rfl d_X_keep_29 ?_
    refine gf_X_157 (by omega) (cF_U (by decide) ((va_up_ne _ _ (by omega)).trans h10) ((va_up_ne _ _ (by omega)).trans hs10)) rfl d_X_keep_32 ?_
    refine J_iret rfl rfl d_X_keep_35 ⟨by decide, by decide⟩ ?_
    exact ⟨_, rfl, rfl, rfl, rfl, hW3, rfl⟩
  · exact absurd c4 (by omega)
