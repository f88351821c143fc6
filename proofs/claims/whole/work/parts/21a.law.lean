/-! the law's loop: what holds at its head; ends that all cases share -/
theorem rmA {kc c : Nat} (h : kc ≤ 1000) (hc : c ≤ 100) : kc + c ≤ room_1.cells := by
  show kc + c ≤ 601024
  omega
theorem rmB {kc c : Nat} (h : kc ≤ 10000) (hc : c ≤ 100) : kc + c ≤ room_1.slots := by
  show kc + c ≤ 7293034
  omega
/-- the common state of class and Model -/
def lwS (ad : Nat → Nat) (g : Nat → ClassId) (R : Nat → Vn) (ln sh : List Nat) (F : Nat → va_E) : Prop := cst ad g R ln sh F ∧ (∃ th, mst ad g R ln sh th F) ∧ (∀ r, r < 8 → okv (R r)) ∧ ∃ h : Nat → Int64, F 108 = .inl (g 5, 1, .inr (.inl h))
abbrev lvL (b : Nat) (ad : Nat → Nat) (i : Nat) : List (Nat × Value) := [(0, .ref b), (1, .ref (ad 0)), (2, .ref (ad 98)), (3, .ref (ad 108)), (4, .int (iI (i : Int)))]
abbrev JL (l : Launch) (D : va_G) (g : Nat → ClassId) (A : Nat → Prop) (X : State → Method → Prop) (Q : JQ) (ad : Nat → Nat) (kc ks pc : Nat) (lv : List (Nat × Value)) (st : List Value) (F : Nat → va_E) : Prop :=
  J l room_1 (601024, 7293034) "NumberTowerLaw" b_L_law 9 (Option.some FieldType.boolean) D jCl (jTys g) A X Q ad 109 kc ks pc lv st F
/-- the script -/
def lwE (A : Nat → Prop) (X : State → Method → Prop) (b L : Nat) (xs : Nat → Int32) (zs : Nat → Int) : Prop := (∀ s me, X s me → va_X b L xs s s.heap ∧ b < s.heap.size ∧ ¬ A b) ∧ (∀ j, xs j = iI (zs j)) ∧ ∀ j, inI (zs j)
/-- the law goes on behind a call -/
def lwN (l : Launch) (D : va_G) (g : Nat → ClassId) (A : Nat → Prop) (X : State → Method → Prop) (Q : JQ) (ad : Nat → Nat) (b i kc ks : Nat) : Prop := ∀ (kc' ks' : Nat) (R : Nat → Vn) (ln sh : List Nat) (F : Nat → va_E), kc' ≤ kc + 1 → ks' ≤ ks + 6 → lwS ad g R ln sh F → JL l D g A X Q ad kc' ks' 1088 (lvL b ad i) [] F
theorem regV_ok {R : Nat → Vn} (h : ∀ r, r < 8 → okv (R r)) (a : Int) : okv (regV R a) := by
  by_cases c : 0 ≤ a ∧ a ≤ 7
  · rw [regV_in c]; exact h _ (by omega)
  · rw [regV_out c]; exact Or.inl rfl
theorem okv_k {w : Vn} (h : okv w) : -1 ≤ w.1 ∧ w.1 ≤ 2 := by
  rcases h with h | ⟨h, -⟩ <;> omega
theorem okv_up {R : Nat → Vn} {r : Nat} {w : Vn} (h : ∀ r, r < 8 → okv (R r)) (hw : okv w) : ∀ q, q < 8 → okv (va_up R r w q) := by
  intro q hq
  by_cases c : q = r
  · rw [c, va_up_self]; exact hw
  · rw [va_up_ne _ _ c]; exact h q hq
theorem hashQ_b {w : Vn} {z : Int} (hok : okv w) (h : hashQ w z) : inL z := by
  rcases h with ⟨-, rfl⟩ | ⟨h1, amt, h2, -, h3⟩
  · decide
  · obtain ⟨kd, s, u, d⟩ := w
    obtain ⟨-, -, hs, -⟩ := okv_b hok h1
    have h4 : z = if s * (amt : Int) = -1 then -2 else s * (amt : Int) := h3
    obtain rfl | rfl | rfl : s = -1 ∨ s = 0 ∨ s = 1 := by omega
    · rw [h4]; split <;> omega
    · rw [h4]; split <;> omega
    · rw [h4]; split <;> omega
theorem partQ_b {w : Vn} {low k z : Int} (h : z = partQ w low k) : inL z := by
  unfold partQ at h
  split at h
  · omega
  · rename_i c
    have h1 : ((if low = 0 then w.2.2.1 else w.2.2.2) / 2 ^ (60 * k.toNat) % 2 ^ 60 : Nat) < 2 ^ 60 := Nat.mod_lt _ (Nat.two_pow_pos _)
    rw [h]
    generalize ((if low = 0 then w.2.2.1 else w.2.2.2) / 2 ^ (60 * k.toNat) % 2 ^ 60 : Nat) = q at h1
    have h2 : (2 : Nat) ^ 60 = 1152921504606846976 := by decide
    omega
theorem valQ_one {w : Vn} {x y : UInt64} (h1 : valQ w x) (h2 : valQ w y) : x = y := by
  rcases h1 with ⟨a1, rfl⟩ | ⟨a1, rfl⟩
  · rcases h2 with ⟨a2, rfl⟩ | ⟨a2, rfl⟩
    · rfl
    · exact absurd a1 a2
  · rcases h2 with ⟨a2, rfl⟩ | ⟨a2, rfl⟩
    · exact absurd a2 a1
    · rfl
theorem cmpQ_b {x y : Vn} (hx : okv x) (hy : okv y) : inI (cmpQ x y) := by
  unfold cmpQ
  split
  · decide
  · rename_i c
    split
    · obtain ⟨kd, s, u, d⟩ := x
      obtain ⟨-, -, hs, -⟩ := okv_b hx (fun q => c (Or.inl q))
      show inI (cmpN _ _ * s)
      have h1 : ∀ n m : Nat, cmpN n m = -1 ∨ cmpN n m = 0 ∨ cmpN n m = 1 := fun n m => by
        unfold cmpN
        split
        · exact Or.inl rfl
        · split
          · exact Or.inr (Or.inl rfl)
          · exact Or.inr (Or.inr rfl)
      rcases h1 (u * y.2.2.2) (y.2.2.1 * d) with h2 | h2 | h2
      · rw [h2]; omega
      · rw [h2]; omega
      · rw [h2]; omega
    · split <;> decide
theorem tat_b {w : List Nat} {k : Int} (h : ∀ c, c ∈ w → c < 65536) : inI (tat w k) := by
  unfold tat
  split
  · rename_i c
    have h1 : w.getD k.toNat 0 < 65536 := by
      have hk : k.toNat < w.length := by omega
      rw [List.getD_eq_getElem?_getD, List.getElem?_eq_getElem hk]
      exact h _ (List.getElem_mem hk)
    omega
  · decide
theorem readO_k {w : List Nat} {r k : Int} (h : readO w r = .inl k) : k = 0 ∨ k = 1 ∨ k = 2 := by
  unfold readO at h
  split at h
  · split at h
    · injection h with h; omega
    · split at h
      · injection h with h; omega
      · rename_i k' u d t _ _
        cases hr : readF k' (psv w) u d t with
        | none => rw [hr] at h; injection h with h; omega
        | some v => rw [hr] at h; cases h
  · injection h with h; omega
theorem optO_k {r : Option Vn} {k : Int} (h : optO r = .inl k) : k = 2 := by
  cases r with
  | none => injection h with h; exact h.symm
  | some v => cases h
theorem combO_k {R : Nat → Vn} {op a b to k : Int} (h : combO R op a b to = .inl k) : k = 0 ∨ k = 1 ∨ k = 2 := by
  unfold combO at h
  split at h
  · split at h
    · injection h with h; omega
    · exact Or.inr (Or.inr (optO_k h))
  · injection h with h; omega
theorem turnO_k {R : Nat → Vn} {what a to k : Int} (h : turnO R what a to = .inl k) : k = 0 ∨ k = 2 := by
  unfold turnO at h
  split at h
  · exact Or.inr (optO_k h)
  · injection h with h; omega
theorem roundO_k {R : Nat → Vn} {a n to k : Int} (h : roundO R a n to = .inl k) : k = 0 ∨ k = 2 := by
  unfold roundO at h
  split at h
  · exact Or.inr (optO_k h)
  · injection h with h; omega
theorem powR_k {X Y M : Vn} {to k : Int} (h : powR X Y M to (.inl k)) : k = 0 ∨ k = 1 := by
  rcases h with ⟨-, h⟩ | ⟨-, -, -, h⟩ | ⟨-, b, -, -, -, h⟩
  · injection h with h; omega
  · injection h with h; omega
  · cases h
theorem sumR_k {R : Nat → Vn} {set to k : Int} (h : sumR R set to (.inl k)) : k = 0 ∨ k = 2 := by
  rcases h with ⟨-, h⟩ | ⟨-, h⟩
  · injection h with h; omega
  · exact Or.inr (optO_k h.symm)
theorem showO_k {R : Nat → Vn} {a k : Int} (h : showO R a = .inl k) : k = 0 := by
  unfold showO at h
  split at h
  · injection h with h; omega
  · cases h
theorem formatO_k {w : List Nat} {R : Nat → Vn} {a k : Int} (h : formatO w R a = .inl k) : k = 0 := by
  unfold formatO at h
  split at h
  · cases h
  · injection h with h; omega
/-- both sides of an operation that stores -/
theorem lw_sto {ad : Nat → Nat} {g : Nat → ClassId} {R : Nat → Vn} {ln sh : List Nat} {P : Sum Int Vn → Prop} {mc : Int → Int} {to z y : Int} {h0 : Nat → Int64} {F F' F2 : Nat → va_E} (hP : ∀ o o', P o → P o' → o = o') (hmc : ∀ k, P (.inl k) → 1 ≤ mc k ∧ mc k ≤ 3)
    (hx : (z = 0 ∧ ∃ z1 F1, (∃ w, P (.inr w) ∧ z1 = w.1 ∧ cst ad g (va_up R to.toNat w) ln sh F1 ∧ offC F F1) ∧ F' = va_up F1 108 (.inl (g 5, 1, .inr (.inl (va_up h0 0 (lI (iI z1).toInt)))))) ∨ ∃ k : Nat, (P (.inl (k : Int)) ∧ cst ad g R ln sh F' ∧ offC F F') ∧ z = mc k)
    (hm : ∃ o, P o ∧ msto ad g R ln sh mc to o y F2) (hoff : offM F' F2) (hok : ∀ r, r < 8 → okv (R r)) (h108 : F 108 = .inl (g 5, 1, .inr (.inl h0))) :
    ∃ (R' : Nat → Vn) (h : Nat → Int64), cst ad g R' ln sh F2 ∧ mst ad g R' ln sh z F2 ∧ (∀ r, r < 8 → okv (R' r)) ∧ F2 108 = .inl (g 5, 1, .inr (.inl h)) ∧ (z = 0 → h 0 = lI y) ∧ inI y ∧ (0 ≤ z ∧ z ≤ 3) := by
  obtain ⟨o, ho, hm⟩ := hm
  rcases hx with ⟨rfl, z1, F1, ⟨w, hw, rfl, hc, ho1⟩, rfl⟩ | ⟨k, ⟨hk, hc, ho1⟩, rfl⟩
  · have e := hP _ _ hw ho
    subst e
    rcases hm with ⟨k, hk, -⟩ | ⟨w', hw', hok', rfl, hmm⟩
    · cases hk
    · injection hw' with hw'
      subst hw'
      have hkb := okv_k hok'
      refine ⟨_, va_up h0 0 (lI (iI w.1).toInt), cst_cg hc (fun j hj => (hoff j (Or.inl hj)).trans (va_up_ne _ _ (by omega))), hmm, okv_up hok hok', (hoff 108 (Or.inr (by decide))).trans (va_up_self ..), fun _ => ?_, by omega, by omega⟩
      rw [va_up_self, iI_toInt (by omega)]
  · have e := hP _ _ hk ho
    subst e
    rcases hm with ⟨k', hk', rfl, hmm⟩ | ⟨w', hw', -⟩
    · injection hk' with hk'
      subst hk'
      have h9 := hmc _ hk
      exact ⟨R, h0, cst_cg hc (fun j hj => hoff j (Or.inl hj)), hmm, hok, (hoff 108 (Or.inr (by decide))).trans ((ho1 108 (by decide)).trans h108), fun q => by omega, by decide, by omega⟩
    · cases hw'
/-- both sides of an operation that lays a sheet -/
theorem lw_shw {ad : Nat → Nat} {g : Nat → ClassId} {R : Nat → Vn} {ln sh : List Nat} {o : Sum Int (List Nat)} {z y : Int} {h0 : Nat → Int64} {F F' F2 : Nat → va_E} (hk0 : ∀ k, o = .inl k → k = 0)
    (hx : (z = 0 ∧ ∃ z1 F1, (∃ w, o = .inr w ∧ z1 = (w.length : Int) ∧ cst ad g R ln w F1 ∧ offC F F1) ∧ F' = va_up F1 108 (.inl (g 5, 1, .inr (.inl (va_up h0 0 (lI (iI z1).toInt)))))) ∨ ∃ k : Nat, (o = .inl (k : Int) ∧ cst ad g R ln sh F' ∧ offC F F') ∧ z = (k : Int) + 1)
    (hm : mshw ad g R ln sh o y F2) (hoff : offM F' F2) (h108 : F 108 = .inl (g 5, 1, .inr (.inl h0))) :
    ∃ (sh' : List Nat) (h : Nat → Int64), cst ad g R ln sh' F2 ∧ mst ad g R ln sh' z F2 ∧ F2 108 = .inl (g 5, 1, .inr (.inl h)) ∧ (z = 0 → h 0 = lI y) ∧ inI y ∧ (0 ≤ z ∧ z ≤ 3) := by
  rcases hx with ⟨rfl, z1, F1, ⟨w, rfl, rfl, hc, ho1⟩, rfl⟩ | ⟨k, ⟨rfl, hc, ho1⟩, rfl⟩
  · rcases hm with ⟨k, hk, -⟩ | ⟨w', hw', rfl, hT, hmm⟩
    · cases hk
    · injection hw' with hw'
      subst hw'
      have hl := hT.1
      refine ⟨_, va_up h0 0 (lI (iI (w.length : Int)).toInt), cst_cg hc (fun j hj => (hoff j (Or.inl hj)).trans (va_up_ne _ _ (by omega))), hmm, (hoff 108 (Or.inr (by decide))).trans (va_up_self ..), fun _ => ?_, by omega, by omega⟩
      rw [va_up_self, iI_toInt (by omega)]
  · rcases hm with ⟨k', hk', rfl, hmm⟩ | ⟨w', hw', -⟩
    · injection hk' with hk'
      subst hk'
      have h9 := hk0 _ rfl
      exact ⟨sh, h0, cst_cg hc (fun j hj => hoff j (Or.inl hj)), hmm, (hoff 108 (Or.inr (by decide))).trans ((ho1 108 (by decide)).trans h108), fun q => by omega, by decide, by omega⟩
    · cases hw'
set_option maxRecDepth 100000 in
set_option maxHeartbeats 4000000 in
/-- what was thrown is compared, then the answers -/
theorem lw_tail {l : Launch} (hfl : l.flags = flags0) {D : va_G} {g : Nat → ClassId} {A : Nat → Prop} {X : State → Method → Prop} {Q : JQ} {ad : Nat → Nat} {kc ks b i p : Nat} {off : Int} {R : Nat → Vn} {ln sh : List Nat} {F : Nat → va_E} {z y : Int} {h : Nat → Int64}
    (d0 : decode b_L_law p = .ok (.aload_n 2, 1)) (d1 : decode b_L_law (p + 1) = .ok (.invokevirtual 62, 3)) (d2 : decode b_L_law (p + 4) = .ok (.iload 5, 2)) (d3 : decode b_L_law (p + 6) = .ok (.if_icmp .eq 5, 3)) (d4 : decode b_L_law (p + 11) = .ok (.iload 5, 2)) (d5 : decode b_L_law (p + 13) = .ok (.ifCond .ne 15, 3)) (d6 : decode b_L_law (p + 16) = .ok (.aload_n 3, 1)) (d7 : decode b_L_law (p + 17) = .ok (.iconst 0, 1)) (d8 : decode b_L_law (p + 18) = .ok (.laload, 1)) (d9 : decode b_L_law (p + 19) = .ok (.iload 6, 2)) (d10 : decode b_L_law (p + 21) = .ok (.i2l, 1)) (d11 : decode b_L_law (p + 22) = .ok (.lcmp, 1)) (d12 : decode b_L_law (p + 23) = .ok (.ifCond .eq 5, 3)) (d13 : decode b_L_law (p + 28) = .ok (.goto off, 3)) (ho : ((p + 28 : Nat) : Int) + off = ((1088 : Nat) : Int))
    (hk : kc ≤ 1000) (hs : ks ≤ 10000) (hM : mst ad g R ln sh z F) (h108 : F 108 = .inl (g 5, 1, .inr (.inl h))) (hzy : z = 0 → h 0 = lI y) (hy : inI y) (hz : 0 ≤ z ∧ z ≤ 3)
    (next : JL l D g A X Q ad kc ks 1088 (lvL b ad i) [] F) :
    JL l D g A X Q ad kc ks p ((6, .int (iI y)) :: (5, .int (iI z)) :: lvL b ad i) [] F := by
  obtain ⟨f, v, hO, hfc⟩ := mst_98 hM
  have fin : JL l D g A X Q ad kc ks (p + 28) ((6, .int (iI y)) :: (5, .int (iI z)) :: lvL b ad i) [] F := by
    refine J_goto (tgt := 1088) d13 ho ?_
    exact J_pick [2, 3, 4, 5, 6] rfl next
  refine J_aload_n 4 d0 rfl rfl ?_
  refine J_callVi cw_L_62 nh_M_thrown pn_M_thrown rfl rfl (by decide) hO (As := []) (rest := []) rfl (by decide) ⟨by decide, by decide⟩ rfl ⟨rmA hk (by decide), rmB hs (by decide)⟩ d1 (c_M_thrown hfl (by decide) hM) (fun t F1 hq => ?_)
  obtain ⟨ht, hF⟩ := hq
  refine J_eqF hF ?_
  refine J_iload 1 d2 rfl ?_
  refine J_if_icmpeq (tgt := p + 11) d3 (by omega) ⟨by omega, by omega⟩ ⟨by omega, by omega⟩ (fun _ => ?_) (fun c => absurd ht c)
  refine J_iload 1 d4 rfl ?_
  refine J_ifne (tgt := p + 28) d5 (by omega) ⟨by omega, by omega⟩ (fun _ => fin) (fun c => ?_)
  refine J_aload_n 5 d6 rfl rfl ?_
  refine J_iconst d7 ?_
  refine J_laload 5 rfl (by decide) h108 ⟨by decide, by decide, by decide⟩ d8 ?_
  refine J_topl (r := y) (hzy c) ?_
  refine J_iload 0 d9 rfl ?_
  refine J_i2l d10 hy ?_
  refine J_lcmpeq (tgt := p + 28) d11 d12 (by omega) ⟨by omega, by omega⟩ ⟨by omega, by omega⟩ (fun _ => fin) (fun c => absurd rfl c)
