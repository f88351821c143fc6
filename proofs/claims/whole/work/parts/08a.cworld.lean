/-! the class's numbers in one world -/
def nMask : Nat := 102229887115181389227770587176
def uMask : Nat := 10222988711508681290259923972
/-- the places of the class's numbers (isU) and of their naturals (isN) -/
abbrev isU (k : Nat) : Prop := uMask.testBit k = true
abbrev isN (k : Nat) : Prop := nMask.testBit k = true
theorem nMask_lt {k : Nat} (h : isN k) : k < 97 := by
  apply Nat.lt_of_not_le
  intro q
  have : nMask.testBit k = false := Nat.testBit_lt_two_pow (Nat.lt_of_lt_of_le (by decide +kernel : nMask < 2 ^ 97) (Nat.pow_le_pow_right (by decide) q))
  rw [h] at this; exact absurd this (by decide)
theorem uMask_lt {k : Nat} (h : isU k) : k < 94 := by
  apply Nat.lt_of_not_le
  intro q
  have : uMask.testBit k = false := Nat.testBit_lt_two_pow (Nat.lt_of_lt_of_le (by decide +kernel : uMask < 2 ^ 94) (Nat.pow_le_pow_right (by decide) q))
  rw [h] at this; exact absurd this (by decide)
theorem isN_1 {k : Nat} (h : isN k) : k + 1 < 98 ∧ ¬ isU k ∧ ¬ isN (k + 1) ∧ ¬ isU (k + 1) := by
  have : ∀ k, k < 97 → isN k → k + 1 < 98 ∧ ¬ isU k ∧ ¬ isN (k + 1) ∧ ¬ isU (k + 1) := by decide +kernel
  exact this k (nMask_lt h) h
theorem isN_2 {k m : Nat} (h : isN k) (h2 : isN m) (h3 : k ≠ m) : k + 1 < m ∨ m + 1 < k := by
  have h4 : m ≠ k + 1 := fun e => (isN_1 h).2.2.1 (e ▸ h2)
  have h5 : k ≠ m + 1 := fun e => (isN_1 h2).2.2.1 (e ▸ h)
  omega
theorem isU_0 {k : Nat} (h : isU k) : k = 2 ∨ k = 10 ∨ k = 15 ∨ k = 20 ∨ (58 ≤ k ∧ k ≤ 93 ∧ k % 5 = 3) := by
  have : ∀ k, k < 94 → isU k → k = 2 ∨ k = 10 ∨ k = 15 ∨ k = 20 ∨ (58 ≤ k ∧ k ≤ 93 ∧ k % 5 = 3) := by decide +kernel
  exact this k (uMask_lt h) h
theorem isU_1 {k : Nat} (h : isU k) : k + 4 < 98 ∧ isN (k + 1) ∧ isN (k + 3) := by
  have : ∀ k, k < 94 → isU k → k + 4 < 98 ∧ isN (k + 1) ∧ isN (k + 3) := by decide +kernel
  exact this k (uMask_lt h) h
theorem isU_2 {k m : Nat} (h : isU k) (h2 : isU m) (h3 : k ≠ m) : k + 4 < m ∨ m + 4 < k := by
  have h4 := isU_0 h
  have h5 := isU_0 h2
  omega
def cF (ad : Nat → Nat) (g : Nat → ClassId) (F0 : Nat → va_E) (W : Nat → Nat) (K S : Nat → Int) : Nat → va_E := fun k =>
  if isU k then oU ad k (K k) (S k) else if isN k then oN ad k (lnw 30 (W k) : Int) else if 1 ≤ k ∧ isN (k - 1) then aN g (dg (W (k - 1))) else F0 k
def bW (W : Nat → Nat) : Prop := ∀ k, W k < 2 ^ 480
theorem bW_up {W : Nat → Nat} {k n : Nat} (h : bW W) (hn : n < 2 ^ 480) : bW (va_up W k n) := by
  intro j; simp only [va_up]; split
  · exact hn
  · exact h j
section CF
variable {ad : Nat → Nat} {g : Nat → ClassId} {F0 : Nat → va_E} {W : Nat → Nat} {K S : Nat → Int}
theorem cF_U {k : Nat} {a b : Int} (h : isU k) (hK : K k = a) (hS : S k = b) : cF ad g F0 W K S k = oU ad k a b := by
  subst hK hS; unfold cF; rw [if_pos h]
theorem cF_N {k x : Nat} (h : isN k) (hx : W k = x) : cF ad g F0 W K S k = oN ad k (lnw 30 x : Int) := by
  subst hx; unfold cF; rw [if_neg (isN_1 h).2.1, if_pos h]
theorem cF_A {k x : Nat} (h : isN k) (hx : W k = x) : cF ad g F0 W K S (k + 1) = aN g (dg x) := by
  subst hx; unfold cF; rw [if_neg (isN_1 h).2.2.2, if_neg (isN_1 h).2.2.1, if_pos ⟨by omega, by rw [Nat.add_sub_cancel]; exact h⟩, Nat.add_sub_cancel]
theorem cF_0 {k : Nat} (h : ¬ isU k ∧ ¬ isN k ∧ ¬ (1 ≤ k ∧ isN (k - 1))) : cF ad g F0 W K S k = F0 k := by
  unfold cF; rw [if_neg h.1, if_neg h.2.1, if_neg h.2.2]
theorem cF_upN {k n : Nat} (h : isN k) : upN ad g (cF ad g F0 W K S) k n = cF ad g F0 (va_up W k n) K S := by
  funext j
  show va_up (va_up (cF ad g F0 W K S) (k + 1) (aN g (dg n))) k (oN ad k (lnw 30 n : Int)) j = _
  by_cases e : j = k
  · subst e; rw [va_up_self, cF_N h (va_up_self ..)]
  · rw [va_up_ne _ _ e]
    by_cases e2 : j = k + 1
    · subst e2; rw [va_up_self, cF_A h (va_up_self ..)]
    · rw [va_up_ne _ _ e2]
      unfold cF
      by_cases q1 : isU j
      · rw [if_pos q1, if_pos q1]
      · rw [if_neg q1, if_neg q1]
        by_cases q2 : isN j
        · rw [if_pos q2, if_pos q2, va_up_ne _ _ e]
        · rw [if_neg q2, if_neg q2]
          by_cases q3 : 1 ≤ j ∧ isN (j - 1)
          · rw [if_pos q3, if_pos q3, va_up_ne _ _ (by omega)]
          · rw [if_neg q3, if_neg q3]
theorem cF_upU {k : Nat} {a b : Int} (h : isU k) : va_up (cF ad g F0 W K S) k (oU ad k a b) = cF ad g F0 W (va_up K k a) (va_up S k b) := by
  funext j
  by_cases e : j = k
  · subst e; rw [va_up_self, cF_U h (va_up_self ..) (va_up_self ..)]
  · rw [va_up_ne _ _ e]
    unfold cF
    rw [va_up_ne _ _ e, va_up_ne _ _ e]
theorem cF_up0 {k : Nat} {c : va_E} (h : ¬ isU k ∧ ¬ isN k ∧ ¬ (1 ≤ k ∧ isN (k - 1))) : va_up (cF ad g F0 W K S) k c = cF ad g (va_up F0 k c) W K S := by
  funext j
  by_cases e : j = k
  · subst e; rw [va_up_self, cF_0 h, va_up_self]
  · rw [va_up_ne _ _ e]
    unfold cF
    rw [va_up_ne _ _ e]
theorem cF_upUU {k n m : Nat} {a b : Int} (h : isU k) : upU ad g (cF ad g F0 W K S) k a b n m = cF ad g F0 (va_up (va_up W (k + 1) n) (k + 3) m) (va_up K k a) (va_up S k b) := by
  show upN ad g (upN ad g (va_up (cF ad g F0 W K S) k (oU ad k a b)) (k + 1) n) (k + 3) m = _
  rw [cF_upU h, cF_upN (isU_1 h).2.1, cF_upN (isU_1 h).2.2]
end CF
theorem n_clear {l : Launch} (hfl : l.flags = flags0) {D : va_G} {g : Nat → ClassId} {ad : Nat → Nat} {N : Nat} {F0 : Nat → va_E} {W : Nat → Nat} {K S : Nat → Int} {k : Nat}  (hN : 98 ≤ N) (hW : bW W) (hk : isN k)   :
    JC l y_N_clear b_N_clear 1 (Option.none : Option Jvm.ClassFile.FieldType) rm_N_clear (0, 0) D jCl (jTys g) ad N (cF ad g F0 W K S) [.ref (ad k)] (jv ad N (fun F' => bW (va_up W k 0) ∧ F' = cF ad g F0 (va_up W k 0) K S)) := by
  refine JC.mono (c_N_clear hfl (Nat.lt_of_lt_of_le (isN_1 hk).1 hN) (cF_N hk rfl) (cF_A hk rfl)) ?_
  rintro o ad' N' F' ⟨r1, r2, r3, r4⟩
  exact ⟨r1, r2, r3, bW_up hW (Nat.two_pow_pos _), r4.trans (cF_upN hk)⟩

theorem n_set {l : Launch} (hfl : l.flags = flags0) {D : va_G} {g : Nat → ClassId} {ad : Nat → Nat} {N : Nat} {F0 : Nat → va_E} {W : Nat → Nat} {K S : Nat → Int} {k : Nat} {n : Nat} (hN : 98 ≤ N) (hW : bW W) (hk : isN k)  (hn : n < 18446744073709551616) :
    JC l y_N_set b_N_set 3 (Option.none : Option Jvm.ClassFile.FieldType) rm_N_set (0, 0) D jCl (jTys g) ad N (cF ad g F0 W K S) [.ref (ad k), .long (lI (n : Int))] (jv ad N (fun F' => bW (va_up W k n) ∧ F' = cF ad g F0 (va_up W k n) K S)) := by
  refine JC.mono (c_N_set hfl (Nat.lt_of_lt_of_le (isN_1 hk).1 hN) (cF_N hk rfl) (cF_A hk rfl) hn) ?_
  rintro o ad' N' F' ⟨r1, r2, r3, r4⟩
  exact ⟨r1, r2, r3, bW_up hW (Nat.lt_trans hn (by decide)), r4.trans (cF_upN hk)⟩

theorem n_copyFrom {l : Launch} (hfl : l.flags = flags0) {D : va_G} {g : Nat → ClassId} {ad : Nat → Nat} {N : Nat} {F0 : Nat → va_E} {W : Nat → Nat} {K S : Nat → Int} {k m x : Nat}  (hN : 98 ≤ N) (hW : bW W) (hk : isN k) (hm : isN m) (hx : W m = x) (hd : k ≠ m) :
    JC l y_N_copyFrom b_N_copyFrom 2 (Option.none : Option Jvm.ClassFile.FieldType) rm_N_copyFrom (0, 0) D jCl (jTys g) ad N (cF ad g F0 W K S) [.ref (ad k), .ref (ad m)] (jv ad N (fun F' => bW (va_up W k x) ∧ F' = cF ad g F0 (va_up W k x) K S)) := by
  refine JC.mono (c_N_copyFrom hfl (Nat.lt_of_lt_of_le (isN_1 hk).1 hN) (cF_N hk rfl) (cF_A hk rfl) (hW k) (Nat.lt_of_lt_of_le (isN_1 hm).1 hN) (cF_N hm hx) (cF_A hm hx) (hx ▸ hW m) (isN_2 hk hm hd)) ?_
  rintro o ad' N' F' ⟨r1, r2, r3, r4⟩
  exact ⟨r1, r2, r3, bW_up hW (hx ▸ hW m), r4.trans (cF_upN hk)⟩

theorem n_isZero {l : Launch} (hfl : l.flags = flags0) {D : va_G} {g : Nat → ClassId} {ad : Nat → Nat} {N : Nat} {F0 : Nat → va_E} {W : Nat → Nat} {K S : Nat → Int} {k x : Nat}  (hN : 98 ≤ N) (hW : bW W) (hk : isN k) (hx : W k = x)  :
    JC l y_N_isZero b_N_isZero 1 (Option.some Jvm.ClassFile.FieldType.boolean) rm_N_isZero (0, 0) D jCl (jTys g) ad N (cF ad g F0 W K S) [.ref (ad k)] (ji ad N (fun z F' => ((z = 1 ∧ x = 0) ∨ (z = 0 ∧ ¬ x = 0)) ∧ F' = cF ad g F0 W K S)) := by
  refine JC.mono (c_N_isZero hfl (Nat.lt_of_lt_of_le (isN_1 hk).1 hN) (cF_N hk hx) (cF_A hk hx) (hx ▸ hW k)) ?_
  rintro o ad' N' F' ⟨z, r1, r2, r3, r5, r4⟩
  exact ⟨z, r1, r2, r3, r5, r4⟩

theorem n_isOne {l : Launch} (hfl : l.flags = flags0) {D : va_G} {g : Nat → ClassId} {ad : Nat → Nat} {N : Nat} {F0 : Nat → va_E} {W : Nat → Nat} {K S : Nat → Int} {k x : Nat}  (hN : 98 ≤ N) (hW : bW W) (hk : isN k) (hx : W k = x)  :
    JC l y_N_isOne b_N_isOne 1 (Option.some Jvm.ClassFile.FieldType.boolean) rm_N_isOne (0, 0) D jCl (jTys g) ad N (cF ad g F0 W K S) [.ref (ad k)] (ji ad N (fun z F' => ((z = 1 ∧ x = 1) ∨ (z = 0 ∧ ¬ x = 1)) ∧ F' = cF ad g F0 W K S)) := by
  refine JC.mono (c_N_isOne hfl (Nat.lt_of_lt_of_le (isN_1 hk).1 hN) (cF_N hk hx) (cF_A hk hx) (hx ▸ hW k)) ?_
  rintro o ad' N' F' ⟨z, r1, r2, r3, r5, r4⟩
  exact ⟨z, r1, r2, r3, r5, r4⟩

theorem n_isOdd {l : Launch} (hfl : l.flags = flags0) {D : va_G} {g : Nat → ClassId} {ad : Nat → Nat} {N : Nat} {F0 : Nat → va_E} {W : Nat → Nat} {K S : Nat → Int} {k x : Nat}  (hN : 98 ≤ N) (hW : bW W) (hk : isN k) (hx : W k = x)  :
    JC l y_N_isOdd b_N_isOdd 1 (Option.some Jvm.ClassFile.FieldType.boolean) rm_N_isOdd (0, 0) D jCl (jTys g) ad N (cF ad g F0 W K S) [.ref (ad k)] (ji ad N (fun z F' => ((z = 1 ∧ x % 2 = 1) ∨ (z = 0 ∧ x % 2 = 0)) ∧ F' = cF ad g F0 W K S)) := by
  refine JC.mono (c_N_isOdd hfl (Nat.lt_of_lt_of_le (isN_1 hk).1 hN) (cF_N hk hx) (cF_A hk hx) (hx ▸ hW k)) ?_
  rintro o ad' N' F' ⟨z, r1, r2, r3, r5, r4⟩
  exact ⟨z, r1, r2, r3, r5, r4⟩

theorem n_toLong {l : Launch} (hfl : l.flags = flags0) {D : va_G} {g : Nat → ClassId} {ad : Nat → Nat} {N : Nat} {F0 : Nat → va_E} {W : Nat → Nat} {K S : Nat → Int} {k x : Nat}  (hN : 98 ≤ N) (hW : bW W) (hk : isN k) (hx : W k = x) (h63 : x < 9223372036854775808) :
    JC l y_N_toLong b_N_toLong 1 (Option.some Jvm.ClassFile.FieldType.long) rm_N_toLong (0, 0) D jCl (jTys g) ad N (cF ad g F0 W K S) [.ref (ad k)] (jl ad N (fun z F' => (z = (x : Int)) ∧ F' = cF ad g F0 W K S)) := by
  refine JC.mono (c_N_toLong hfl (Nat.lt_of_lt_of_le (isN_1 hk).1 hN) (cF_N hk hx) (cF_A hk hx) (hx ▸ hW k) h63) ?_
  rintro o ad' N' F' ⟨z, r1, r2, r3, r5, r4⟩
  exact ⟨z, r1, r2, r3, r5, r4⟩

theorem n_sixtyBits {l : Launch} (hfl : l.flags = flags0) {D : va_G} {g : Nat → ClassId} {ad : Nat → Nat} {N : Nat} {F0 : Nat → va_E} {W : Nat → Nat} {K S : Nat → Int} {k x : Nat} {q : Nat} {i : Int} (hN : 98 ≤ N) (hW : bW W) (hk : isN k) (hx : W k = x) (hq : (q = 1 ∧ i = 1) ∨ (q = 0 ∧ i ≠ 1)) (hi : inI i) :
    JC l y_N_sixtyBits b_N_sixtyBits 3 (Option.some Jvm.ClassFile.FieldType.long) rm_N_sixtyBits (0, 0) D jCl (jTys g) ad N (cF ad g F0 W K S) [.ref (ad k), .int (iI i)] (jl ad N (fun z F' => (z = ((x / 2 ^ (60 * q) % 2 ^ 60 : Nat) : Int)) ∧ F' = cF ad g F0 W K S)) := by
  refine JC.mono (c_N_sixtyBits hfl (Nat.lt_of_lt_of_le (isN_1 hk).1 hN) (cF_N hk hx) (cF_A hk hx) (hx ▸ hW k) q i hq hi) ?_
  rintro o ad' N' F' ⟨z, r1, r2, r3, r5, r4⟩
  exact ⟨z, r1, r2, r3, r5, r4⟩

theorem n_bits {l : Launch} (hfl : l.flags = flags0) {D : va_G} {g : Nat → ClassId} {ad : Nat → Nat} {N : Nat} {F0 : Nat → va_E} {W : Nat → Nat} {K S : Nat → Int} {k x : Nat}  (hN : 98 ≤ N) (hW : bW W) (hk : isN k) (hx : W k = x)  :
    JC l y_N_bits b_N_bits 1 (Option.some Jvm.ClassFile.FieldType.int) rm_N_bits (0, 0) D jCl (jTys g) ad N (cF ad g F0 W K S) [.ref (ad k)] (ji ad N (fun z F' => (z = (blen x : Int)) ∧ F' = cF ad g F0 W K S)) := by
  refine JC.mono (c_N_bits hfl (Nat.lt_of_lt_of_le (isN_1 hk).1 hN) (cF_N hk hx) (cF_A hk hx) (hx ▸ hW k)) ?_
  rintro o ad' N' F' ⟨z, r1, r2, r3, r5, r4⟩
  exact ⟨z, r1, r2, r3, r5, r4⟩

theorem n_order {l : Launch} (hfl : l.flags = flags0) {D : va_G} {g : Nat → ClassId} {ad : Nat → Nat} {N : Nat} {F0 : Nat → va_E} {W : Nat → Nat} {K S : Nat → Int} {k m x y : Nat}  (hN : 98 ≤ N) (hW : bW W) (hk : isN k) (hm : isN m) (hx : W k = x) (hy : W m = y)  :
    JC l y_N_order b_N_order 3 (Option.some Jvm.ClassFile.FieldType.int) rm_N_order (0, 0) D jCl (jTys g) ad N (cF ad g F0 W K S) [.ref (ad k), .ref (ad m)] (ji ad N (fun z F' => (z = cmpN x y) ∧ F' = cF ad g F0 W K S)) := by
  refine JC.mono (c_N_order hfl (Nat.lt_of_lt_of_le (isN_1 hk).1 hN) (cF_N hk hx) (cF_A hk hx) (hx ▸ hW k) (Nat.lt_of_lt_of_le (isN_1 hm).1 hN) (cF_N hm hy) (cF_A hm hy) (hy ▸ hW m)) ?_
  rintro o ad' N' F' ⟨z, r1, r2, r3, r5, r4⟩
  exact ⟨z, r1, r2, r3, r5, r4⟩

theorem n_add {l : Launch} (hfl : l.flags = flags0) {D : va_G} {g : Nat → ClassId} {ad : Nat → Nat} {N : Nat} {F0 : Nat → va_E} {W : Nat → Nat} {K S : Nat → Int} {k m x y : Nat}  (hN : 98 ≤ N) (hW : bW W) (hk : isN k) (hm : isN m) (hx : W k = x) (hy : W m = y) (hd : k ≠ m) (ht : x + y < 2 ^ 480) :
    JC l y_N_add b_N_add 6 (Option.none : Option Jvm.ClassFile.FieldType) rm_N_add (0, 0) D jCl (jTys g) ad N (cF ad g F0 W K S) [.ref (ad k), .ref (ad m)] (jv ad N (fun F' => bW (va_up W k (x + y)) ∧ F' = cF ad g F0 (va_up W k (x + y)) K S)) := by
  refine JC.mono (c_N_add hfl (Nat.lt_of_lt_of_le (isN_1 hk).1 hN) (cF_N hk hx) (cF_A hk hx) (hx ▸ hW k) (Nat.lt_of_lt_of_le (isN_1 hm).1 hN) (cF_N hm hy) (cF_A hm hy) (hy ▸ hW m) (isN_2 hk hm hd) ht) ?_
  rintro o ad' N' F' ⟨r1, r2, r3, r4⟩
  exact ⟨r1, r2, r3, bW_up hW ht, r4.trans (cF_upN hk)⟩

theorem n_addSmall {l : Launch} (hfl : l.flags = flags0) {D : va_G} {g : Nat → ClassId} {ad : Nat → Nat} {N : Nat} {F0 : Nat → va_E} {W : Nat → Nat} {K S : Nat → Int} {k x : Nat} {n : Nat} (hN : 98 ≤ N) (hW : bW W) (hk : isN k) (hx : W k = x) (hn : n < 1073741824) (ht : x + n < 2 ^ 480) :
    JC l y_N_addSmall b_N_addSmall 5 (Option.none : Option Jvm.ClassFile.FieldType) rm_N_addSmall (0, 0) D jCl (jTys g) ad N (cF ad g F0 W K S) [.ref (ad k), .int (iI (n : Int))] (jv ad N (fun F' => bW (va_up W k (x + n)) ∧ F' = cF ad g F0 (va_up W k (x + n)) K S)) := by
  refine JC.mono (c_N_addSmall hfl (Nat.lt_of_lt_of_le (isN_1 hk).1 hN) (cF_N hk hx) (cF_A hk hx) (hx ▸ hW k) hn ht) ?_
  rintro o ad' N' F' ⟨r1, r2, r3, r4⟩
  exact ⟨r1, r2, r3, bW_up hW ht, r4.trans (cF_upN hk)⟩

theorem n_subtract {l : Launch} (hfl : l.flags = flags0) {D : va_G} {g : Nat → ClassId} {ad : Nat → Nat} {N : Nat} {F0 : Nat → va_E} {W : Nat → Nat} {K S : Nat → Int} {k m x y : Nat} {r : Nat} (hN : 98 ≤ N) (hW : bW W) (hk : isN k) (hm : isN m) (hx : W k = x) (hy : W m = y) (hd : k ≠ m) (hr : x = r + y) :
    JC l y_N_subtract b_N_subtract 5 (Option.none : Option Jvm.ClassFile.FieldType) rm_N_subtract (0, 0) D jCl (jTys g) ad N (cF ad g F0 W K S) [.ref (ad k), .ref (ad m)] (jv ad N (fun F' => bW (va_up W k r) ∧ F' = cF ad g F0 (va_up W k r) K S)) := by
  refine JC.mono (c_N_subtract hfl (Nat.lt_of_lt_of_le (isN_1 hk).1 hN) (cF_N hk hx) (cF_A hk hx) (hx ▸ hW k) (Nat.lt_of_lt_of_le (isN_1 hm).1 hN) (cF_N hm hy) (cF_A hm hy) (hy ▸ hW m) (isN_2 hk hm hd) hr) ?_
  rintro o ad' N' F' ⟨r1, r2, r3, r4⟩
  exact ⟨r1, r2, r3, bW_up hW (by have := hx ▸ hW k; omega), r4.trans (cF_upN hk)⟩

theorem n_setProduct {l : Launch} (hfl : l.flags = flags0) {D : va_G} {g : Nat → ClassId} {ad : Nat → Nat} {N : Nat} {F0 : Nat → va_E} {W : Nat → Nat} {K S : Nat → Int} {k m p x y : Nat}  (hN : 98 ≤ N) (hW : bW W) (hk : isN k) (hm : isN m) (hp : isN p) (hx : W m = x) (hy : W p = y) (hd : k ≠ m) (hd2 : k ≠ p) (ht : x * y < 2 ^ 480) :
    JC l y_N_setProduct b_N_setProduct 11 (Option.none : Option Jvm.ClassFile.FieldType) rm_N_setProduct (0, 0) D jCl (jTys g) ad N (cF ad g F0 W K S) [.ref (ad k), .ref (ad m), .ref (ad p)] (jv ad N (fun F' => bW (va_up W k (x * y)) ∧ F' = cF ad g F0 (va_up W k (x * y)) K S)) := by
  refine JC.mono (c_N_setProduct hfl (Nat.lt_of_lt_of_le (isN_1 hk).1 hN) (cF_N hk rfl) (cF_A hk rfl) (Nat.lt_of_lt_of_le (isN_1 hm).1 hN) (cF_N hm hx) (cF_A hm hx) (hx ▸ hW m) (Nat.lt_of_lt_of_le (isN_1 hp).1 hN) (cF_N hp hy) (cF_A hp hy) (hy ▸ hW p) (isN_2 hk hm hd) (isN_2 hk hp hd2) ht) ?_
  rintro o ad' N' F' ⟨r1, r2, r3, r4⟩
  exact ⟨r1, r2, r3, bW_up hW ht, r4.trans (cF_upN hk)⟩

theorem n_scale {l : Launch} (hfl : l.flags = flags0) {D : va_G} {g : Nat → ClassId} {ad : Nat → Nat} {N : Nat} {F0 : Nat → va_E} {W : Nat → Nat} {K S : Nat → Int} {k x : Nat} {n t : Nat} (hN : 98 ≤ N) (hW : bW W) (hk : isN k) (hx : W k = x) (hn : n < 1073741824) (hm : t < 1073741824) (ht : x * n + t < 2 ^ 480) :
    JC l y_N_scale b_N_scale 9 (Option.none : Option Jvm.ClassFile.FieldType) rm_N_scale (0, 0) D jCl (jTys g) ad N (cF ad g F0 W K S) [.ref (ad k), .int (iI (n : Int)), .int (iI (t : Int))] (jv ad N (fun F' => bW (va_up W k (x * n + t)) ∧ F' = cF ad g F0 (va_up W k (x * n + t)) K S)) := by
  refine JC.mono (c_N_scale hfl (Nat.lt_of_lt_of_le (isN_1 hk).1 hN) (cF_N hk hx) (cF_A hk hx) (hx ▸ hW k) hn hm ht) ?_
  rintro o ad' N' F' ⟨r1, r2, r3, r4⟩
  exact ⟨r1, r2, r3, bW_up hW ht, r4.trans (cF_upN hk)⟩

theorem n_scaleTens {l : Launch} (hfl : l.flags = flags0) {D : va_G} {g : Nat → ClassId} {ad : Nat → Nat} {N : Nat} {F0 : Nat → va_E} {W : Nat → Nat} {K S : Nat → Int} {k x : Nat} {n : Int} (hN : 98 ≤ N) (hW : bW W) (hk : isN k) (hx : W k = x) (hn : -100000 ≤ n ∧ n ≤ 150) (ht : x * 10 ^ n.toNat < 2 ^ 480) :
    JC l y_N_scaleTens b_N_scaleTens 4 (Option.none : Option Jvm.ClassFile.FieldType) rm_N_scaleTens (0, 0) D jCl (jTys g) ad N (cF ad g F0 W K S) [.ref (ad k), .int (iI n)] (jv ad N (fun F' => bW (va_up W k (x * 10 ^ n.toNat)) ∧ F' = cF ad g F0 (va_up W k (x * 10 ^ n.toNat)) K S)) := by
  refine JC.mono (c_N_scaleTens hfl (Nat.lt_of_lt_of_le (isN_1 hk).1 hN) (cF_N hk hx) (cF_A hk hx) hn ht) ?_
  rintro o ad' N' F' ⟨r1, r2, r3, r4⟩
  exact ⟨r1, r2, r3, bW_up hW ht, r4.trans (cF_upN hk)⟩

theorem n_shiftUp {l : Launch} (hfl : l.flags = flags0) {D : va_G} {g : Nat → ClassId} {ad : Nat → Nat} {N : Nat} {F0 : Nat → va_E} {W : Nat → Nat} {K S : Nat → Int} {k x : Nat} {n : Int} (hN : 98 ≤ N) (hW : bW W) (hk : isN k) (hx : W k = x) (hn : inI n) (ht : x * 2 ^ n.toNat < 2 ^ 480) :
    JC l y_N_shiftUp b_N_shiftUp 11 (Option.none : Option Jvm.ClassFile.FieldType) rm_N_shiftUp (0, 0) D jCl (jTys g) ad N (cF ad g F0 W K S) [.ref (ad k), .int (iI n)] (jv ad N (fun F' => bW (va_up W k (x * 2 ^ n.toNat)) ∧ F' = cF ad g F0 (va_up W k (x * 2 ^ n.toNat)) K S)) := by
  refine JC.mono (c_N_shiftUp hfl (Nat.lt_of_lt_of_le (isN_1 hk).1 hN) (cF_N hk hx) (cF_A hk hx) (hx ▸ hW k) hn ht) ?_
  rintro o ad' N' F' ⟨r1, r2, r3, r4⟩
  exact ⟨r1, r2, r3, bW_up hW ht, r4.trans (cF_upN hk)⟩

theorem n_shiftDown {l : Launch} (hfl : l.flags = flags0) {D : va_G} {g : Nat → ClassId} {ad : Nat → Nat} {N : Nat} {F0 : Nat → va_E} {W : Nat → Nat} {K S : Nat → Int} {k x : Nat} {n : Int} (hN : 98 ≤ N) (hW : bW W) (hk : isN k) (hx : W k = x) (hn : inI n) :
    JC l y_N_shiftDown b_N_shiftDown 10 (Option.none : Option Jvm.ClassFile.FieldType) rm_N_shiftDown (0, 0) D jCl (jTys g) ad N (cF ad g F0 W K S) [.ref (ad k), .int (iI n)] (jv ad N (fun F' => bW (va_up W k (x / 2 ^ n.toNat)) ∧ F' = cF ad g F0 (va_up W k (x / 2 ^ n.toNat)) K S)) := by
  refine JC.mono (c_N_shiftDown hfl (Nat.lt_of_lt_of_le (isN_1 hk).1 hN) (cF_N hk hx) (cF_A hk hx) (hx ▸ hW k) hn) ?_
  rintro o ad' N' F' ⟨r1, r2, r3, r4⟩
  exact ⟨r1, r2, r3, bW_up hW (Nat.lt_of_le_of_lt (Nat.div_le_self _ _) (hx ▸ hW k)), r4.trans (cF_upN hk)⟩

theorem n_divideSmall {l : Launch} (hfl : l.flags = flags0) {D : va_G} {g : Nat → ClassId} {ad : Nat → Nat} {N : Nat} {F0 : Nat → va_E} {W : Nat → Nat} {K S : Nat → Int} {k x : Nat} {d : Nat} (hN : 98 ≤ N) (hW : bW W) (hk : isN k) (hx : W k = x) (hd : 0 < d ∧ d < 1073741824) :
    JC l y_N_divideSmall b_N_divideSmall 7 (Option.some Jvm.ClassFile.FieldType.int) rm_N_divideSmall (0, 0) D jCl (jTys g) ad N (cF ad g F0 W K S) [.ref (ad k), .int (iI (d : Int))] (ji ad N (fun z F' => (z = ((x % d : Nat) : Int)) ∧ bW (va_up W k (x / d)) ∧ F' = cF ad g F0 (va_up W k (x / d)) K S)) := by
  refine JC.mono (c_N_divideSmall hfl (Nat.lt_of_lt_of_le (isN_1 hk).1 hN) (cF_N hk hx) (cF_A hk hx) (hx ▸ hW k) hd) ?_
  rintro o ad' N' F' ⟨z, r1, r2, r3, r5, r4⟩
  exact ⟨z, r1, r2, r3, r5, bW_up hW (Nat.lt_of_le_of_lt (Nat.div_le_self _ _) (hx ▸ hW k)), r4.trans (cF_upN hk)⟩

theorem n_divide {l : Launch} (hfl : l.flags = flags0) {D : va_G} {g : Nat → ClassId} {ad : Nat → Nat} {N : Nat} {F0 : Nat → va_E} {W : Nat → Nat} {K S : Nat → Int} {k m p x y : Nat}  (hN : 98 ≤ N) (hW : bW W) (hk : isN k) (hm : isN m) (hp : isN p) (hx : W k = x) (hy : W m = y) (hd : k ≠ m) (hd1 : k ≠ p) (hd2 : m ≠ p) (hx4 : x < 2 ^ 450) (hy4 : y < 2 ^ 450) :
    JC l y_N_divide b_N_divide 7 (Option.none : Option Jvm.ClassFile.FieldType) rm_N_divide (0, 0) D jCl (jTys g) ad N (cF ad g F0 W K S) [.ref (ad k), .ref (ad m), .ref (ad p)] (jv ad N (fun F' => bW (va_up (va_up W p (x / y)) k (x % y)) ∧ F' = cF ad g F0 (va_up (va_up W p (x / y)) k (x % y)) K S)) := by
  refine JC.mono (c_N_divide hfl (Nat.lt_of_lt_of_le (isN_1 hk).1 hN) (cF_N hk hx) (cF_A hk hx) hx4 (Nat.lt_of_lt_of_le (isN_1 hm).1 hN) (cF_N hm hy) (cF_A hm hy) hy4 (Nat.lt_of_lt_of_le (isN_1 hp).1 hN) (cF_N hp rfl) (cF_A hp rfl) (isN_2 hk hm hd) (isN_2 hk hp hd1) (isN_2 hm hp hd2)) ?_
  rintro o ad' N' F' ⟨r1, r2, r3, r4⟩
  exact ⟨r1, r2, r3, bW_up (bW_up hW (Nat.lt_of_le_of_lt (Nat.div_le_self _ _) (hx ▸ hW k))) (Nat.lt_of_le_of_lt (Nat.mod_le _ _) (hx ▸ hW k)), by rw [r4, cF_upN hp, cF_upN hk]⟩

theorem n_roundBy {l : Launch} (hfl : l.flags = flags0) {D : va_G} {g : Nat → ClassId} {ad : Nat → Nat} {N : Nat} {F0 : Nat → va_E} {W : Nat → Nat} {K S : Nat → Int} {k p m x r y : Nat}  (hN : 98 ≤ N) (hW : bW W) (hk : isN k) (hp : isN p) (hm : isN m) (hx : W k = x) (hr : W p = r) (hy : W m = y) (hd0 : k ≠ m) (hd1 : k ≠ p) (hd2 : m ≠ p) (hr4 : r < 2 ^ 470) (hq1 : x + 1 < 2 ^ 480) :
    JC l y_N_roundBy b_N_roundBy 4 (Option.none : Option Jvm.ClassFile.FieldType) rm_N_roundBy (0, 0) D jCl (jTys g) ad N (cF ad g F0 W K S) [.ref (ad k), .ref (ad p), .ref (ad m)] (jv ad N (fun F' => bW (va_up (va_up W p (r * 2)) k (rnd x r y)) ∧ F' = cF ad g F0 (va_up (va_up W p (r * 2)) k (rnd x r y)) K S)) := by
  refine JC.mono (c_N_roundBy hfl (Nat.lt_of_lt_of_le (isN_1 hk).1 hN) (cF_N hk hx) (cF_A hk hx) (hx ▸ hW k) (Nat.lt_of_lt_of_le (isN_1 hp).1 hN) (cF_N hp hr) (cF_A hp hr) hr4 (Nat.lt_of_lt_of_le (isN_1 hm).1 hN) (cF_N hm hy) (cF_A hm hy) (hy ▸ hW m) (isN_2 hk hm hd0) (isN_2 hk hp hd1) (isN_2 hm hp hd2) hq1) ?_
  rintro o ad' N' F' ⟨r1, r2, r3, r4⟩
  exact ⟨r1, r2, r3, bW_up (bW_up hW (by omega)) (by unfold rnd; split <;> omega), by rw [r4, cF_upN hp, cF_upN hk]⟩

theorem u_isThere {l : Launch} (hfl : l.flags = flags0) {D : va_G} {g : Nat → ClassId} {ad : Nat → Nat} {N : Nat} {F0 : Nat → va_E} {W : Nat → Nat} {K S : Nat → Int} {k : Nat}  (hN : 98 ≤ N) (hW : bW W) (hk : isU k) (hkd : inI (K k)) :
    JC l y_U_isThere b_U_isThere 1 (Option.some Jvm.ClassFile.FieldType.boolean) rm_U_isThere (0, 0) D jCl (jTys g) ad N (cF ad g F0 W K S) [.ref (ad k)] (ji ad N (fun z F' => ((z = 1 ∧ K k ≠ -1) ∨ (z = 0 ∧ K k = -1)) ∧ F' = cF ad g F0 W K S)) := by
  refine JC.mono (c_U_isThere hfl (Nat.lt_of_lt_of_le (isU_1 hk).1 hN) (cF_U hk rfl rfl) (cF_N (isU_1 hk).2.1 rfl) (cF_A (isU_1 hk).2.1 rfl) (hW _) (cF_N (isU_1 hk).2.2 rfl) (cF_A (isU_1 hk).2.2 rfl) (hW _) hkd) ?_
  exact fun _ _ _ _ h => h

theorem u_small {l : Launch} (hfl : l.flags = flags0) {D : va_G} {g : Nat → ClassId} {ad : Nat → Nat} {N : Nat} {F0 : Nat → va_E} {W : Nat → Nat} {K S : Nat → Int} {k : Nat}  (hN : 98 ≤ N) (hW : bW W) (hk : isU k)  :
    JC l y_U_small b_U_small 1 (Option.some Jvm.ClassFile.FieldType.int) rm_U_small (0, 0) D jCl (jTys g) ad N (cF ad g F0 W K S) [.ref (ad k)] (ji ad N (fun z F' => z = S k * dg (W (k + 1)) 0 ∧ F' = cF ad g F0 W K S)) := by
  refine JC.mono (c_U_small hfl (Nat.lt_of_lt_of_le (isU_1 hk).1 hN) (cF_U hk rfl rfl) (cF_N (isU_1 hk).2.1 rfl) (cF_A (isU_1 hk).2.1 rfl) (hW _) (cF_N (isU_1 hk).2.2 rfl) (cF_A (isU_1 hk).2.2 rfl) (hW _)) ?_
  exact fun _ _ _ _ h => h

theorem u_isWholeWithin {l : Launch} (hfl : l.flags = flags0) {D : va_G} {g : Nat → ClassId} {ad : Nat → Nat} {N : Nat} {F0 : Nat → va_E} {W : Nat → Nat} {K S : Nat → Int} {k : Nat} {a b : Int} (hN : 98 ≤ N) (hW : bW W) (hk : isU k) (hkd : inI (K k)) (hsg : -1 ≤ S k ∧ S k ≤ 1) (h0 : S k = 0 ↔ W (k + 1) = 0) (hab : -1073741823 ≤ a ∧ b ≤ 1073741823 ∧ inI a ∧ inI b) :
    JC l y_U_isWholeWithin b_U_isWholeWithin 3 (Option.some Jvm.ClassFile.FieldType.boolean) rm_U_isWholeWithin (0, 0) D jCl (jTys g) ad N (cF ad g F0 W K S) [.ref (ad k), .int (iI a), .int (iI b)] (ji ad N (fun z F' => ((z = 1 ∧ K k = 0 ∧ a ≤ S k * W (k + 1) ∧ S k * W (k + 1) ≤ b ∧ dg (W (k + 1)) 0 = W (k + 1)) ∨ (z = 0 ∧ ¬(K k = 0 ∧ a ≤ S k * W (k + 1) ∧ S k * W (k + 1) ≤ b))) ∧ F' = cF ad g F0 W K S)) := by
  refine JC.mono (c_U_isWholeWithin hfl (Nat.lt_of_lt_of_le (isU_1 hk).1 hN) (cF_U hk rfl rfl) (cF_N (isU_1 hk).2.1 rfl) (cF_A (isU_1 hk).2.1 rfl) (hW _) (cF_N (isU_1 hk).2.2 rfl) (cF_A (isU_1 hk).2.2 rfl) (hW _) hkd hsg h0 hab) ?_
  exact fun _ _ _ _ h => h

theorem u_become {l : Launch} (hfl : l.flags = flags0) {D : va_G} {g : Nat → ClassId} {ad : Nat → Nat} {N : Nat} {F0 : Nat → va_E} {W : Nat → Nat} {K S : Nat → Int} {k p : Nat}  (hN : 98 ≤ N) (hW : bW W) (hk : isU k) (hp : isU p) (hd : k ≠ p) :
    JC l y_U_become b_U_become 2 (Option.none : Option Jvm.ClassFile.FieldType) rm_U_become (0, 0) D jCl (jTys g) ad N (cF ad g F0 W K S) [.ref (ad k), .ref (ad p)] (jv ad N (fun F' => bW (va_up (va_up W (k + 1) (W (p + 1))) (k + 3) (W (p + 3))) ∧ F' = cF ad g F0 (va_up (va_up W (k + 1) (W (p + 1))) (k + 3) (W (p + 3))) (va_up K k (K p)) (va_up S k (S p)))) := by
  refine JC.mono (c_U_become hfl (Nat.lt_of_lt_of_le (isU_1 hk).1 hN) (cF_U hk rfl rfl) (cF_N (isU_1 hk).2.1 rfl) (cF_A (isU_1 hk).2.1 rfl) (hW _) (cF_N (isU_1 hk).2.2 rfl) (cF_A (isU_1 hk).2.2 rfl) (hW _) (Nat.lt_of_lt_of_le (isU_1 hp).1 hN) (cF_U hp rfl rfl) (cF_N (isU_1 hp).2.1 rfl) (cF_A (isU_1 hp).2.1 rfl) (hW _) (cF_N (isU_1 hp).2.2 rfl) (cF_A (isU_1 hp).2.2 rfl) (hW _) (isU_2 hk hp hd)) ?_
  rintro o ad' N' F' ⟨r1, r2, r3, r4⟩
  refine ⟨r1, r2, r3, bW_up (bW_up hW (hW _)) (hW _), ?_⟩
  rw [r4, cF_upUU hk]

theorem u_setWhole {l : Launch} (hfl : l.flags = flags0) {D : va_G} {g : Nat → ClassId} {ad : Nat → Nat} {N : Nat} {F0 : Nat → va_E} {W : Nat → Nat} {K S : Nat → Int} {k : Nat} {v : Int} (hN : 98 ≤ N) (hW : bW W) (hk : isU k) (hv : inL v) :
    JC l y_U_setWhole b_U_setWhole 3 (Option.none : Option Jvm.ClassFile.FieldType) rm_U_setWhole (0, 0) D jCl (jTys g) ad N (cF ad g F0 W K S) [.ref (ad k), .long (lI v)] (jv ad N (fun F' => bW (va_up (va_up W (k + 1) v.natAbs) (k + 3) 1) ∧ F' = cF ad g F0 (va_up (va_up W (k + 1) v.natAbs) (k + 3) 1) (va_up K k 0) (va_up S k v.sign))) := by
  refine JC.mono (c_U_setWhole hfl (Nat.lt_of_lt_of_le (isU_1 hk).1 hN) (cF_U hk rfl rfl) (cF_N (isU_1 hk).2.1 rfl) (cF_A (isU_1 hk).2.1 rfl) (cF_N (isU_1 hk).2.2 rfl) (cF_A (isU_1 hk).2.2 rfl) hv) ?_
  rintro o ad' N' F' ⟨r1, r2, r3, r4⟩
  refine ⟨r1, r2, r3, bW_up (bW_up hW (Nat.lt_of_le_of_lt (by omega : v.natAbs ≤ 9223372036854775808) (by decide))) (by decide), ?_⟩
  rw [r4, cF_upUU hk]

