/-! the Model's regions: quotients -/
theorem norm8 {d s : Nat} (h : d ≠ 0) (hs : s = 28 * lnw 28 d - blen d) : 28 * lnw 28 d = blen d + s ∧ s ≤ 27 ∧ lnw 28 (d * 2 ^ s) = lnw 28 d ∧ 134217728 ≤ dgt 28 (d * 2 ^ s) (lnw 28 d - 1) ∧ 2 ^ (28 * lnw 28 d - 1) ≤ d * 2 ^ s := by
  have h0 : lnw 28 d ≠ 0 := fun z => h (cn_eq08.mp z)
  have h1 : blen d ≤ 28 * lnw 28 d := blen_le.mpr (lnw_lt (by decide))
  have h2 := lnw28_ge h
  have h3 : 28 * (lnw 28 d - 1) < blen d := by
    apply Nat.lt_of_not_le
    intro q
    have := blen_le.mp q
    omega
  have h4 : 28 * lnw 28 d = blen d + s := by omega
  have h5 : blen (d * 2 ^ s) = 28 * lnw 28 d := by rw [blen_shl h, h4]
  have h6 : d * 2 ^ s ≠ 0 := Nat.mul_ne_zero h (Nat.ne_of_gt (Nat.two_pow_pos _))
  have h7 := blen_ge h6
  have h8 := blen_lt (d * 2 ^ s)
  rw [h5] at h7 h8
  refine ⟨h4, by omega, lnw28_eq h8 (Or.inr (Nat.le_trans (Nat.pow_le_pow_right (by decide) (by omega)) h7)), ?_, h7⟩
  unfold dgt
  rw [Nat.mod_eq_of_lt]
  · rw [Nat.le_div_iff_mul_le (Nat.two_pow_pos _), show (134217728 : Nat) = 2 ^ 27 by decide, ← Nat.pow_add]
    exact Nat.le_trans (Nat.pow_le_pow_right (by decide) (by omega)) h7
  · rw [Nat.div_lt_iff_lt_mul (Nat.two_pow_pos _), ← Nat.pow_add, show 28 + 28 * (lnw 28 d - 1) = 28 * lnw 28 d by omega]
    exact h8
theorem sg_fill {a lo hi : Nat} {A h : Nat → Int} (h1 : ∀ k, k < lo → h (26 * a + k) = A k) (h2 : ∀ k, lo ≤ k → A k = 0) : sg a lo hi (fun _ => 0) h = sg a 0 hi A h := by
  funext x
  simp only [sg]
  by_cases q : 26 * a + lo ≤ x ∧ x < 26 * a + hi
  · rw [if_pos q, if_pos (by omega), h2 _ (by omega)]
  · rw [if_neg q]
    by_cases q2 : 26 * a + 0 ≤ x ∧ x < 26 * a + hi
    · rw [if_pos q2, ← h1 (x - 26 * a) (by omega)]; congr 1; omega
    · rw [if_neg q2]
theorem sg_mid {a b t w lo hi : Nat} {A A' Q h : Nat → Int} (hw : w ≤ 26) (hh : hi ≤ 26) (hab : a ≠ b) (ht : t ≤ w) (he : ∀ k, t ≤ k → k < w → A' k = A k) : sg a 0 t A' (sg b lo hi Q (sg a 0 w A h)) = sg b lo hi Q (sg a 0 w A' h) := by
  funext x
  simp only [sg]
  by_cases q : 26 * b + lo ≤ x ∧ x < 26 * b + hi
  · rw [if_pos q, if_pos q, if_neg (by omega)]
  · rw [if_neg q, if_neg q]
    by_cases q2 : 26 * a + 0 ≤ x ∧ x < 26 * a + t
    · rw [if_pos q2, if_pos (by omega)]
    · rw [if_neg q2]
      by_cases q3 : 26 * a + 0 ≤ x ∧ x < 26 * a + w
      · rw [if_pos q3, if_pos q3, he _ (by omega) (by omega)]
      · rw [if_neg q3, if_neg q3]
theorem k_M_limb {l : Launch} (hfl : l.flags = flags0) {D : va_G} {g : Nat → ClassId} {ad : Nat → Nat} {N : Nat} {F : Nat → va_E} {a k : Nat} {hh ll : Nat → Int} {V : Nat → Nat} {br : Nat → Nat} {vs : List Value} {xa : Nat} (hxa : V a = xa)
    (hN : 109 ≤ N) (hO : F 98 = .inr (8, .ref (ad 99) :: .ref (ad 100) :: vs)) (hB : F 99 = aB g hh) (hL : F 100 = aL g ll) (hR : reg br hh ll V) (ha : a < 33) (bra : br a = 0) (hk : (k : Int) ≤ 1000) :
    JC l y_M_limb b_M_limb 3 (Option.some Jvm.ClassFile.FieldType.int) rm_M_limb (0, 0) D jCl (jTys g) ad N F [.ref (ad 98), .int (iI (a : Int)), .int (iI (k : Int))] (ji ad N (fun z F' => z = dg8 xa k ∧ F' = F)) := by
  subst hxa
  obtain ⟨h1, h2⟩ := reg_len hR ha bra
  refine JC.mono (c_M_limb hfl hN hO hB hL ha ⟨hk, by omega, by omega⟩) ?_
  rintro o ad' N' F' ⟨z, r1, r2, r3, r4, r5⟩
  exact ⟨z, r1, r2, r3, by rw [r4]; exact reg_limb hR ha bra (fun _ => rfl), r5⟩
theorem k_M_zero {l : Launch} (hfl : l.flags = flags0) {D : va_G} {g : Nat → ClassId} {ad : Nat → Nat} {N : Nat} {F : Nat → va_E} {a : Nat} {hh ll : Nat → Int} {V : Nat → Nat} {br : Nat → Nat} {vs : List Value} {xa : Nat} (hxa : V a = xa) (hN : 109 ≤ N) (hO : F 98 = .inr (8, .ref (ad 99) :: .ref (ad 100) :: vs)) (hB : F 99 = aB g hh) (hL : F 100 = aL g ll) (hR : reg br hh ll V) (ha : a < 33) (bra : br a = 0) :
    JC l y_M_zero b_M_zero 2 (Option.some Jvm.ClassFile.FieldType.boolean) rm_M_zero (0, 0) D jCl (jTys g) ad N F [.ref (ad 98), .int (iI (a : Int))] (ji ad N (fun z F' => ((z = 1 ∧ xa = 0) ∨ (z = 0 ∧ xa ≠ 0)) ∧ F' = F)) := by
  subst hxa
  exact c_M_zero hfl hN hO hB hL hR ha bra

theorem k_M_copy {l : Launch} (hfl : l.flags = flags0) {D : va_G} {g : Nat → ClassId} {ad : Nat → Nat} {N : Nat} {F : Nat → va_E} {a b : Nat} {hh ll : Nat → Int} {V : Nat → Nat} {br : Nat → Nat} {vs : List Value} {xa : Nat} (hxa : V a = xa) (hN : 109 ≤ N) (hO : F 98 = .inr (8, .ref (ad 99) :: .ref (ad 100) :: vs)) (hB : F 99 = aB g hh) (hL : F 100 = aL g ll) (hR : reg br hh ll V) (ha : a < 33) (hb : b < 33) (bra : br a = 0) :
    JC l y_M_copy b_M_copy 4 (Option.none : Option Jvm.ClassFile.FieldType) rm_M_copy (0, 0) D jCl (jTys g) ad N F [.ref (ad 98), .int (iI (a : Int)), .int (iI (b : Int))] (jv ad N (fun F' => ∃ hh' ll' : Nat → Int, reg (va_up br b 0) hh' ll' (va_up V b xa) ∧ F' = va_up (va_up F 99 (aB g hh')) 100 (aL g ll'))) := by
  subst hxa
  exact c_M_copy hfl hN hO hB hL hR ha hb bra

theorem k_M_put {l : Launch} (hfl : l.flags = flags0) {D : va_G} {g : Nat → ClassId} {ad : Nat → Nat} {N : Nat} {F : Nat → va_E} {a n : Nat} {hh ll : Nat → Int} {V : Nat → Nat} {br : Nat → Nat} {vs : List Value}   (hN : 109 ≤ N) (hO : F 98 = .inr (8, .ref (ad 99) :: .ref (ad 100) :: vs)) (hB : F 99 = aB g hh) (hL : F 100 = aL g ll) (hR : reg br hh ll V) (ha : a < 33) (hn : n < 18446744073709551616) :
    JC l y_M_put b_M_put 6 (Option.none : Option Jvm.ClassFile.FieldType) rm_M_put (0, 0) D jCl (jTys g) ad N F [.ref (ad 98), .int (iI (a : Int)), .long (lI (n : Int))] (jv ad N (fun F' => ∃ hh' ll' : Nat → Int, reg (va_up br a 0) hh' ll' (va_up V a n) ∧ F' = va_up (va_up F 99 (aB g hh')) 100 (aL g ll'))) := by
  exact c_M_put hfl hN hO hB hL hR ha hn

theorem k_M_bits {l : Launch} (hfl : l.flags = flags0) {D : va_G} {g : Nat → ClassId} {ad : Nat → Nat} {N : Nat} {F : Nat → va_E} {a : Nat} {hh ll : Nat → Int} {V : Nat → Nat} {br : Nat → Nat} {vs : List Value} {xa : Nat} (hxa : V a = xa) (hN : 109 ≤ N) (hO : F 98 = .inr (8, .ref (ad 99) :: .ref (ad 100) :: vs)) (hB : F 99 = aB g hh) (hL : F 100 = aL g ll) (hR : reg br hh ll V) (ha : a < 33) (bra : br a = 0) :
    JC l y_M_bits b_M_bits 4 (Option.some Jvm.ClassFile.FieldType.int) rm_M_bits (0, 0) D jCl (jTys g) ad N F [.ref (ad 98), .int (iI (a : Int))] (ji ad N (fun z F' => z = (blen xa : Int) ∧ F' = F)) := by
  subst hxa
  exact c_M_bits hfl hN hO hB hL hR ha bra

theorem k_M_order {l : Launch} (hfl : l.flags = flags0) {D : va_G} {g : Nat → ClassId} {ad : Nat → Nat} {N : Nat} {F : Nat → va_E} {a b : Nat} {hh ll : Nat → Int} {V : Nat → Nat} {br : Nat → Nat} {vs : List Value} {xa xb : Nat} (hxa : V a = xa) (hxb : V b = xb) (hN : 109 ≤ N) (hO : F 98 = .inr (8, .ref (ad 99) :: .ref (ad 100) :: vs)) (hB : F 99 = aB g hh) (hL : F 100 = aL g ll) (hR : reg br hh ll V) (ha : a < 33) (hb : b < 33) (bra : br a = 0) (brb : br b = 0) :
    JC l y_M_order b_M_order 4 (Option.some Jvm.ClassFile.FieldType.int) rm_M_order (0, 0) D jCl (jTys g) ad N F [.ref (ad 98), .int (iI (a : Int)), .int (iI (b : Int))] (ji ad N (fun z F' => z = cmpN xa xb ∧ F' = F)) := by
  subst hxa
  subst hxb
  exact c_M_order hfl hN hO hB hL hR ha hb bra brb

theorem k_M_add {l : Launch} (hfl : l.flags = flags0) {D : va_G} {g : Nat → ClassId} {ad : Nat → Nat} {N : Nat} {F : Nat → va_E} {a b t : Nat} {hh ll : Nat → Int} {V : Nat → Nat} {br : Nat → Nat} {vs : List Value} {xa xb : Nat} (hxa : V a = xa) (hxb : V b = xb) (hN : 109 ≤ N) (hO : F 98 = .inr (8, .ref (ad 99) :: .ref (ad 100) :: vs)) (hB : F 99 = aB g hh) (hL : F 100 = aL g ll) (hR : reg br hh ll V) (ha : a < 33) (hb : b < 33) (ht : t < 33) (bra : br a = 0) (brb : br b = 0) (hla2 : lnw 28 xa ≤ 25) (hlb2 : lnw 28 xb ≤ 25) :
    JC l y_M_add b_M_add 8 (Option.none : Option Jvm.ClassFile.FieldType) rm_M_add (0, 0) D jCl (jTys g) ad N F [.ref (ad 98), .int (iI (a : Int)), .int (iI (b : Int)), .int (iI (t : Int))] (jv ad N (fun F' => ∃ hh' ll' : Nat → Int, reg (va_up br t 0) hh' ll' (va_up V t (xa + xb)) ∧ F' = va_up (va_up F 99 (aB g hh')) 100 (aL g ll'))) := by
  subst hxa
  subst hxb
  exact c_M_add hfl hN hO hB hL hR ha hb ht bra brb hla2 hlb2

theorem k_M_less {l : Launch} (hfl : l.flags = flags0) {D : va_G} {g : Nat → ClassId} {ad : Nat → Nat} {N : Nat} {F : Nat → va_E} {a b t r : Nat} {hh ll : Nat → Int} {V : Nat → Nat} {br : Nat → Nat} {vs : List Value} {xa xb : Nat} (hxa : V a = xa) (hxb : V b = xb) (hN : 109 ≤ N) (hO : F 98 = .inr (8, .ref (ad 99) :: .ref (ad 100) :: vs)) (hB : F 99 = aB g hh) (hL : F 100 = aL g ll) (hR : reg br hh ll V) (ha : a < 33) (hb : b < 33) (ht : t < 33) (bra : br a = 0) (brb : br b = 0) (hr : xa = r + xb) :
    JC l y_M_less b_M_less 8 (Option.none : Option Jvm.ClassFile.FieldType) rm_M_less (0, 0) D jCl (jTys g) ad N F [.ref (ad 98), .int (iI (a : Int)), .int (iI (b : Int)), .int (iI (t : Int))] (jv ad N (fun F' => ∃ hh' ll' : Nat → Int, reg (va_up br t 0) hh' ll' (va_up V t r) ∧ F' = va_up (va_up F 99 (aB g hh')) 100 (aL g ll'))) := by
  subst hxa
  subst hxb
  exact c_M_less hfl hN hO hB hL hR ha hb ht bra brb hr

theorem k_M_times {l : Launch} (hfl : l.flags = flags0) {D : va_G} {g : Nat → ClassId} {ad : Nat → Nat} {N : Nat} {F : Nat → va_E} {a b t : Nat} {hh ll : Nat → Int} {V : Nat → Nat} {br : Nat → Nat} {vs : List Value} {xa xb : Nat} (hxa : V a = xa) (hxb : V b = xb) (hN : 109 ≤ N) (hO : F 98 = .inr (8, .ref (ad 99) :: .ref (ad 100) :: vs)) (hB : F 99 = aB g hh) (hL : F 100 = aL g ll) (hR : reg br hh ll V) (ha : a < 33) (hb : b < 33) (ht : t < 33) (bra : br a = 0) (brb : br b = 0) (hat : a ≠ t) (hbt : b ≠ t) (hs : lnw 28 xa + lnw 28 xb ≤ 26) :
    JC l y_M_times b_M_times 11 (Option.none : Option Jvm.ClassFile.FieldType) rm_M_times (0, 0) D jCl (jTys g) ad N F [.ref (ad 98), .int (iI (a : Int)), .int (iI (b : Int)), .int (iI (t : Int))] (jv ad N (fun F' => ∃ hh' ll' : Nat → Int, reg (va_up br t 0) hh' ll' (va_up V t (xa * xb)) ∧ F' = va_up (va_up F 99 (aB g hh')) 100 (aL g ll'))) := by
  subst hxa
  subst hxb
  exact c_M_times hfl hN hO hB hL hR ha hb ht bra brb hat hbt hs

theorem k_M_grow {l : Launch} (hfl : l.flags = flags0) {D : va_G} {g : Nat → ClassId} {ad : Nat → Nat} {N : Nat} {F : Nat → va_E} {a m more : Nat} {hh ll : Nat → Int} {V : Nat → Nat} {br : Nat → Nat} {vs : List Value} {xa : Nat} (hxa : V a = xa) (hN : 109 ≤ N) (hO : F 98 = .inr (8, .ref (ad 99) :: .ref (ad 100) :: vs)) (hB : F 99 = aB g hh) (hL : F 100 = aL g ll) (hR : reg br hh ll V) (ha : a < 33) (bra : br a = 0) (hm : 1 ≤ m ∧ m < 268435456) (hmo : more < 268435456) (hT : lnw 28 (xa * m + more) ≤ 26) :
    JC l y_M_grow b_M_grow 9 (Option.none : Option Jvm.ClassFile.FieldType) rm_M_grow (0, 0) D jCl (jTys g) ad N F [.ref (ad 98), .int (iI (a : Int)), .int (iI (m : Int)), .int (iI (more : Int))] (jv ad N (fun F' => ∃ hh' ll' : Nat → Int, reg (va_up br a 0) hh' ll' (va_up V a (xa * m + more)) ∧ F' = va_up (va_up F 99 (aB g hh')) 100 (aL g ll'))) := by
  subst hxa
  exact c_M_grow hfl hN hO hB hL hR ha bra hm hmo hT

theorem k_M_shrink {l : Launch} (hfl : l.flags = flags0) {D : va_G} {g : Nat → ClassId} {ad : Nat → Nat} {N : Nat} {F : Nat → va_E} {a d : Nat} {hh ll : Nat → Int} {V : Nat → Nat} {br : Nat → Nat} {vs : List Value} {xa : Nat} (hxa : V a = xa) (hN : 109 ≤ N) (hO : F 98 = .inr (8, .ref (ad 99) :: .ref (ad 100) :: vs)) (hB : F 99 = aB g hh) (hL : F 100 = aL g ll) (hR : reg br hh ll V) (ha : a < 33) (bra : br a = 0) (hd : 0 < d ∧ d < 268435456) :
    JC l y_M_shrink b_M_shrink 8 (Option.some Jvm.ClassFile.FieldType.int) rm_M_shrink (0, 0) D jCl (jTys g) ad N F [.ref (ad 98), .int (iI (a : Int)), .int (iI (d : Int))] (ji ad N (fun z F' => z = ((xa % d : Nat) : Int) ∧ ∃ hh' ll' : Nat → Int, reg (va_up br a 0) hh' ll' (va_up V a (xa / d)) ∧ F' = va_up (va_up F 99 (aB g hh')) 100 (aL g ll'))) := by
  subst hxa
  exact c_M_shrink hfl hN hO hB hL hR ha bra hd

theorem k_M_tens {l : Launch} (hfl : l.flags = flags0) {D : va_G} {g : Nat → ClassId} {ad : Nat → Nat} {N : Nat} {F : Nat → va_E} {a : Nat} {n : Int} {hh ll : Nat → Int} {V : Nat → Nat} {br : Nat → Nat} {vs : List Value} {xa : Nat} (hxa : V a = xa) (hN : 109 ≤ N) (hO : F 98 = .inr (8, .ref (ad 99) :: .ref (ad 100) :: vs)) (hB : F 99 = aB g hh) (hL : F 100 = aL g ll) (hR : reg br hh ll V) (ha : a < 33) (bra : br a = 0) (hn : inI n) (hT : lnw 28 (xa * 10 ^ n.toNat) ≤ 26) :
    JC l y_M_tens b_M_tens 4 (Option.none : Option Jvm.ClassFile.FieldType) rm_M_tens (0, 0) D jCl (jTys g) ad N F [.ref (ad 98), .int (iI (a : Int)), .int (iI n)] (jv ad N (fun F' => ∃ hh' ll' : Nat → Int, reg (va_up br a 0) hh' ll' (va_up V a (xa * 10 ^ n.toNat)) ∧ F' = va_up (va_up F 99 (aB g hh')) 100 (aL g ll'))) := by
  subst hxa
  exact c_M_tens hfl hN hO hB hL hR ha bra hn hT

theorem k_M_up {l : Launch} (hfl : l.flags = flags0) {D : va_G} {g : Nat → ClassId} {ad : Nat → Nat} {N : Nat} {F : Nat → va_E} {a n : Nat} {hh ll : Nat → Int} {V : Nat → Nat} {br : Nat → Nat} {vs : List Value} {xa : Nat} (hxa : V a = xa) (hN : 109 ≤ N) (hO : F 98 = .inr (8, .ref (ad 99) :: .ref (ad 100) :: vs)) (hB : F 99 = aB g hh) (hL : F 100 = aL g ll) (hR : reg br hh ll V) (ha : a < 33) (bra : br a = 0) (hn : n ≤ 100000) (hT : xa = 0 ∨ lnw 28 xa + n / 28 + 1 ≤ 26) :
    JC l y_M_up b_M_up 8 (Option.none : Option Jvm.ClassFile.FieldType) rm_M_up (0, 0) D jCl (jTys g) ad N F [.ref (ad 98), .int (iI (a : Int)), .int (iI (n : Int))] (jv ad N (fun F' => ∃ hh' ll' : Nat → Int, reg (va_up br a 0) hh' ll' (va_up V a (xa * 2 ^ n)) ∧ F' = va_up (va_up F 99 (aB g hh')) 100 (aL g ll'))) := by
  subst hxa
  exact c_M_up hfl hN hO hB hL hR ha bra hn hT

theorem k_M_down {l : Launch} (hfl : l.flags = flags0) {D : va_G} {g : Nat → ClassId} {ad : Nat → Nat} {N : Nat} {F : Nat → va_E} {a n : Nat} {hh ll : Nat → Int} {V : Nat → Nat} {br : Nat → Nat} {vs : List Value} {xa : Nat} (hxa : V a = xa) (hN : 109 ≤ N) (hO : F 98 = .inr (8, .ref (ad 99) :: .ref (ad 100) :: vs)) (hB : F 99 = aB g hh) (hL : F 100 = aL g ll) (hR : reg br hh ll V) (ha : a < 33) (bra : br a = 0) (hn : n ≤ 100000) :
    JC l y_M_down b_M_down 9 (Option.none : Option Jvm.ClassFile.FieldType) rm_M_down (0, 0) D jCl (jTys g) ad N F [.ref (ad 98), .int (iI (a : Int)), .int (iI (n : Int))] (jv ad N (fun F' => ∃ hh' ll' : Nat → Int, reg (va_up br a 0) hh' ll' (va_up V a (xa / 2 ^ n)) ∧ F' = va_up (va_up F 99 (aB g hh')) 100 (aL g ll'))) := by
  subst hxa
  exact c_M_down hfl hN hO hB hL hR ha bra hn

set_option maxRecDepth 100000 in
set_option maxHeartbeats 4000000 in
theorem c_M_low {l : Launch} (hfl : l.flags = flags0) {D : va_G} {g : Nat → ClassId} {ad : Nat → Nat} {N : Nat} {F : Nat → va_E} {a : Nat} {hh ll : Nat → Int} {V : Nat → Nat} {br : Nat → Nat} {vs : List Value}
    (hN : 109 ≤ N) (hO : F 98 = .inr (8, .ref (ad 99) :: .ref (ad 100) :: vs)) (hB : F 99 = aB g hh) (hL : F 100 = aL g ll) (hR : reg br hh ll V) (ha : a < 33) (bra : br a = 0) :
    JC l y_M_low b_M_low 2 (Option.some Jvm.ClassFile.FieldType.long) rm_M_low (0, 0) D jCl (jTys g) ad N F [.ref (ad 98), .int (iI (a : Int))] (jl ad N (fun z F' => z = ((V a % 18446744073709551616 : Nat) : Int) ∧ F' = F)) := by
  have b0 := dgt_b8 (V a) 0
  have b1 := dgt_b8 (V a) 1
  have b2 := dgt_b8 (V a) 2
  have hl0 := dg_nat8 (V a) 0
  have hl1 := dg_nat8 (V a) 1
  have hl2 := dg_nat8 (V a) 2
  have hv : dgt 28 (V a) 0 + dgt 28 (V a) 1 * 268435456 + (dgt 28 (V a) 2 % 256) * 72057594037927936 = V a % 18446744073709551616 := by
    unfold dgt
    generalize V a = v
    omega
  have ho2 : (dgt 28 (V a) 0 + dgt 28 (V a) 1 * 268435456) ||| dgt 28 (V a) 2 % 256 * 72057594037927936 = dgt 28 (V a) 0 + dgt 28 (V a) 1 * 268435456 + dgt 28 (V a) 2 % 256 * 72057594037927936 := by
    have h := Nat.two_pow_add_eq_or_of_lt (i := 56) (b := dgt 28 (V a) 0 + dgt 28 (V a) 1 * 268435456) (by omega) (dgt 28 (V a) 2 % 256)
    rw [Nat.or_comm, Nat.mul_comm (dgt 28 (V a) 2 % 256) 72057594037927936]
    exact h.symm.trans (Nat.add_comm _ _)
  refine JC.go hfl (own := "NumberTowerModel") (lv := [(0, .ref (ad 98)), (1, .int (iI (a : Int)))]) rfl (by decide +kernel) (Nat.le_of_ble_eq_true rfl) rfl (fun A => ?_)
  refine J_aload_n 0 d_M_low_0 rfl rfl ?_
  refine J_iload_n 1 d_M_low_1 rfl rfl ?_
  refine J_iconst d_M_low_2 ?_
  refine J_callVi cw_M_45 nh_M_limb pn_M_limb rfl rfl (by omega) hO (As := [.int (iI (a : Int)), .int (iI 0)]) (rest := []) rfl (Nat.le_of_ble_eq_true rfl) ⟨by decide, by decide⟩ rfl ⟨by decide, by decide⟩ d_M_low_3 (k_M_limb hfl (a := a) (k := 0) (hh := hh) (ll := ll) (V := V) (br := br) (hN := hN) (hO := hO) (hB := hB) (hL := hL) (hR := hR) (ha := by omega) (hxa := rfl) (bra := bra) (hk := by omega)) (fun z1 F1 hq => ?_)
  obtain ⟨hz1, eF1⟩ := hq
  refine J_eqF eF1 ?_
  refine J_topi (r := dg8 (V a) 0) (congrArg iI hz1) ?_
  refine J_topi (r := (((dgt 28 (V a) 0 : Nat)) : Int)) (congrArg iI rfl) ?_
  refine J_i2l d_M_low_6 ⟨by omega, by omega⟩ ?_
  refine J_aload_n 0 d_M_low_7 rfl rfl ?_
  refine J_iload_n 1 d_M_low_8 rfl rfl ?_
  refine J_iconst d_M_low_9 ?_
  refine J_callVi cw_M_45 nh_M_limb pn_M_limb rfl rfl (by omega) hO (As := [.int (iI (a : Int)), .int (iI 1)]) (rest := [.long (lI (((dgt 28 (V a) 0 : Nat)) : Int))]) rfl (Nat.le_of_ble_eq_true rfl) ⟨by decide, by decide⟩ rfl ⟨by decide, by decide⟩ d_M_low_10 (k_M_limb hfl (a := a) (k := 1) (hh := hh) (ll := ll) (V := V) (br := br) (hN := hN) (hO := hO) (hB := hB) (hL := hL) (hR := hR) (ha := by omega) (hxa := rfl) (bra := bra) (hk := by omega)) (fun z2 F2 hq => ?_)
  obtain ⟨hz2, eF2⟩ := hq
  refine J_eqF eF2 ?_
  refine J_topi (r := dg8 (V a) 1) (congrArg iI hz2) ?_
  refine J_topi (r := (((dgt 28 (V a) 1 : Nat)) : Int)) (congrArg iI rfl) ?_
  refine J_i2l d_M_low_13 ⟨by omega, by omega⟩ ?_
  refine J_bipush d_M_low_14 (i8_ok (by decide)) ?_
  refine J_lshl (r := (((dgt 28 (V a) 1) * 268435456 : Nat) : Int)) d_M_low_16 (lI_shln 28 (by decide)) ?_
  refine J_lor (r := ((dgt 28 (V a) 0 + dgt 28 (V a) 1 * 268435456 : Nat) : Int)) d_M_low_17 (by rw [lI_orn (by omega) (by omega), Nat.or_comm, or28 b0, Nat.add_comm]) ?_
  refine J_aload_n 0 d_M_low_18 rfl rfl ?_
  refine J_iload_n 1 d_M_low_19 rfl rfl ?_
  refine J_iconst d_M_low_20 ?_
  refine J_callVi cw_M_45 nh_M_limb pn_M_limb rfl rfl (by omega) hO (As := [.int (iI (a : Int)), .int (iI 2)]) (rest := [.long (lI ((dgt 28 (V a) 0 + dgt 28 (V a) 1 * 268435456 : Nat) : Int))]) rfl (Nat.le_of_ble_eq_true rfl) ⟨by decide, by decide⟩ rfl ⟨by decide, by decide⟩ d_M_low_21 (k_M_limb hfl (a := a) (k := 2) (hh := hh) (ll := ll) (V := V) (br := br) (hN := hN) (hO := hO) (hB := hB) (hL := hL) (hR := hR) (ha := by omega) (hxa := rfl) (bra := bra) (hk := by omega)) (fun z3 F3 hq => ?_)
  obtain ⟨hz3, eF3⟩ := hq
  refine J_eqF eF3 ?_
  refine J_topi (r := dg8 (V a) 2) (congrArg iI hz3) ?_
  refine J_topi (r := (((dgt 28 (V a) 2 : Nat)) : Int)) (congrArg iI rfl) ?_
  refine J_i2l d_M_low_24 ⟨by omega, by omega⟩ ?_
  refine J_bipush d_M_low_25 (i8_ok (by decide)) ?_
  refine J_lshl (r := ((dgt 28 (V a) 2 % 256 * 72057594037927936 : Nat) : Int)) d_M_low_27 ((lI_shln 56 (by omega)).trans (lI_congr (by omega))) ?_
  refine J_lor (r := ((V a % 18446744073709551616 : Nat) : Int)) d_M_low_28 (by rw [lI_orn (by omega) (by omega), ho2, hv]) ?_
  refine J_lret rfl d_M_low_29 ⟨by decide, by decide⟩ ?_
  exact ⟨_, rfl, rfl, rfl, rfl, rfl⟩
set_option maxRecDepth 100000 in
set_option maxHeartbeats 4000000 in
theorem c_M_divide {l : Launch} (hfl : l.flags = flags0) {D : va_G} {g : Nat → ClassId} {ad : Nat → Nat} {N : Nat} {F : Nat → va_E} {a b : Nat} {hh ll : Nat → Int} {V : Nat → Nat} {br : Nat → Nat} {vs : List Value}
    (hN : 109 ≤ N) (hO : F 98 = .inr (8, .ref (ad 99) :: .ref (ad 100) :: vs)) (hB : F 99 = aB g hh) (hL : F 100 = aL g ll) (hR : reg br hh ll V) (ha : a < 33) (hb : b < 33) (bra : br a = 0) (brb : br b = 0) (hzz : okB br) (ha2 : ¬(24 ≤ a ∧ a ≤ 26)) (hb2 : ¬(24 ≤ b ∧ b ≤ 26)) (hb0 : V b ≠ 0) (hla2 : lnw 28 (V a) ≤ 25) (hlb2 : lnw 28 (V b) ≤ 25) :
    JC l y_M_divide b_M_divide 8 (Option.none : Option Jvm.ClassFile.FieldType) rm_M_divide (0, 0) D jCl (jTys g) ad N F [.ref (ad 98), .int (iI (a : Int)), .int (iI (b : Int))] (jv ad N (fun F' => ∃ (hh' ll' : Nat → Int) (j : Nat), reg br hh' ll' (va_up (va_up (va_up V 26 j) 25 (V a % V b)) 24 (V a / V b)) ∧ F' = va_up (va_up F 99 (aB g hh')) 100 (aL g ll'))) := by
  refine JC.go hfl (own := "NumberTowerModel") (lv := [(0, .ref (ad 98)), (1, .int (iI (a : Int))), (2, .int (iI (b : Int)))]) rfl (by decide +kernel) (Nat.le_of_ble_eq_true rfl) rfl (fun A => ?_)
  refine J_aload_n 0 d_M_divide_0 rfl rfl ?_
  refine J_iload_n 1 d_M_divide_1 rfl rfl ?_
  refine J_bipush d_M_divide_2 (i8_ok (by decide)) ?_
  refine J_callVv cw_M_58 nh_M_copy pn_M_copy rfl rfl (by omega) hO (As := [.int (iI (a : Int)), .int (iI 25)]) (rest := []) rfl (Nat.le_of_ble_eq_true rfl) ⟨by decide, by decide⟩ rfl ⟨by decide, by decide⟩ d_M_divide_4 (k_M_copy hfl (a := a) (b := 25) (hh := hh) (ll := ll) (V := V) (br := br) (hN := hN) (hO := hO) (hB := hB) (hL := hL) (hR := hR) (ha := by omega) (hb := by omega) (hxa := rfl) (bra := bra)) (fun  F1 hq => ?_)
  obtain ⟨bh4, bl5, hR6, eF1⟩ := hq
  refine J_eqF (F2 := va_up (va_up F 99 (.inl (g 0, 858, .inl (aI bh4)))) 100 (.inl (g 0, 33, .inl (aI bl5)))) eF1 ?_
  have hR9 := reg_w1 (hzz.1 _) hR6
  refine J_aload_n 0 d_M_divide_7 rfl rfl ?_
  refine J_iload_n 2 d_M_divide_8 rfl rfl ?_
  refine J_bipush d_M_divide_9 (i8_ok (by decide)) ?_
  refine J_callVv cw_M_58 nh_M_copy pn_M_copy rfl rfl (by omega) (by rw [va_up_ne _ _ (by decide), va_up_ne _ _ (by decide)]; exact hO) (As := [.int (iI (b : Int)), .int (iI 26)]) (rest := []) rfl (Nat.le_of_ble_eq_true rfl) ⟨by decide, by decide⟩ rfl ⟨by decide, by decide⟩ d_M_divide_11 (k_M_copy hfl (a := b) (b := 26) (hh := bh4) (ll := bl5) (V := va_up V 25 (V a)) (br := br) (hN := hN) (hO := (by rw [va_up_ne _ _ (by decide), va_up_ne _ _ (by decide)]; exact hO)) (hB := (by rw [va_up_ne _ _ (by decide), va_up_self])) (hL := (by rw [va_up_self])) (hR := hR9) (ha := by omega) (hb := by omega) (hxa := (va_up_ne _ _ (by omega))) (bra := brb)) (fun  F2 hq => ?_)
  obtain ⟨bh10, bl11, hR12, eF2⟩ := hq
  refine J_eqF (F2 := va_up (va_up F 99 (.inl (g 0, 858, .inl (aI bh10)))) 100 (.inl (g 0, 33, .inl (aI bl11)))) (eF2.trans (Eq.trans (congrArg (fun q : Nat → va_E => va_up q 100 (.inl (g 0, 33, .inl (aI bl11)))) (up_in1 (by decide))) (up_in0))) ?_
  have hR15 := reg_w1 (hzz.1 _) hR12
  refine J_bipush d_M_divide_14 (i8_ok (by decide)) ?_
  refine J_aload_n 0 d_M_divide_16 rfl rfl ?_
  refine gf_M_13 (by omega) (by rw [va_up_ne _ _ (by decide), va_up_ne _ _ (by decide)]; exact hO) rfl d_M_divide_17 ?_
  refine J_iload_n 2 d_M_divide_20 rfl rfl ?_
  refine J_iaload 0 rfl (by omega) (by rw [va_up_self]) (by omega) d_M_divide_21 ?_
  refine J_topi (r := bl11 b) (congrArg (fun q => iI (bl11 q)) (by omega)) ?_
  refine J_topi (r := (((lnw 28 (V b) : Nat)) : Int)) (congrArg iI (by rw [(reg_len hR15 (by omega) brb).1, show (va_up (va_up V 25 (V a)) 26 (V b)) b = (V b) from ((va_up_ne _ _ (by omega)).trans (va_up_ne _ _ (by omega)))])) ?_
  refine J_imul d_M_divide_22 ?_
  refine J_aload_n 0 d_M_divide_23 rfl rfl ?_
  refine J_iload_n 2 d_M_divide_24 rfl rfl ?_
  refine J_callVi cw_M_62 nh_M_bits pn_M_bits rfl rfl (by omega) (by rw [va_up_ne _ _ (by decide), va_up_ne _ _ (by decide)]; exact hO) (As := [.int (iI (b : Int))]) (rest := [.int (iI (28 * (((lnw 28 (V b) : Nat)) : Int)))]) rfl (Nat.le_of_ble_eq_true rfl) ⟨by decide, by decide⟩ rfl ⟨by decide, by decide⟩ d_M_divide_25 (k_M_bits hfl (a := b) (hh := bh10) (ll := bl11) (V := va_up (va_up V 25 (V a)) 26 (V b)) (br := br) (hN := hN) (hO := (by rw [va_up_ne _ _ (by decide), va_up_ne _ _ (by decide)]; exact hO)) (hB := (by rw [va_up_ne _ _ (by decide), va_up_self])) (hL := (by rw [va_up_self])) (hR := hR15) (ha := by omega) (hxa := ((va_up_ne _ _ (by omega)).trans (va_up_ne _ _ (by omega)))) (bra := brb)) (fun z16 F3 hq => ?_)
  obtain ⟨hz16, eF3⟩ := hq
  refine J_eqF eF3 ?_
  refine J_topi (r := (((blen (V b) : Nat)) : Int)) (congrArg iI hz16) ?_
  refine J_isub d_M_divide_28 ?_
  obtain ⟨s, hs⟩ : ∃ s : Nat, s = 28 * lnw 28 (V b) - blen (V b) := ⟨_, rfl⟩
  obtain ⟨hs1, hs2, hln, hno, hge⟩ := norm8 hb0 hs
  have hnb : lnw 28 (V b) ≠ 0 := fun z => hb0 (cn_eq08.mp z)
  refine J_topi (r := (s : Int)) (congrArg iI (by omega)) ?_
  refine J_istore_n (lv' := [(3, .int (iI (s : Int))), (0, .ref (ad 98)), (1, .int (iI (a : Int))), (2, .int (iI (b : Int)))]) d_M_divide_29 rfl (by decide) rfl ?_
  refine J_aload_n 1 d_M_divide_30 rfl rfl ?_
  refine gf_M_13 (by omega) (by rw [va_up_ne _ _ (by decide), va_up_ne _ _ (by decide)]; exact hO) rfl d_M_divide_31 ?_
  refine J_bipush d_M_divide_34 (i8_ok (by decide)) ?_
  refine J_iaload 0 rfl (by omega) (by rw [va_up_self]) (by omega) d_M_divide_36 ?_
  refine J_topi (r := bl11 25) (congrArg (fun q => iI (bl11 q)) (by omega)) ?_
  refine J_topi (r := (((lnw 28 (V a) : Nat)) : Int)) (congrArg iI (by rw [(reg_len hR15 (by omega) (hzz.2 25 (by decide) (by decide))).1, show (va_up (va_up V 25 (V a)) 26 (V b)) 25 = (V a) from ((va_up_ne _ _ (by decide)).trans (va_up_self ..))])) ?_
  refine J_istore (lv' := [(4, .int (iI (((lnw 28 (V a) : Nat)) : Int))), (3, .int (iI (s : Int))), (0, .ref (ad 98)), (1, .int (iI (a : Int))), (2, .int (iI (b : Int)))]) d_M_divide_37 (by decide) rfl ?_
  refine J_aload_n 2 d_M_divide_39 rfl rfl ?_
  refine J_bipush d_M_divide_40 (i8_ok (by decide)) ?_
  refine J_iload_n 1 d_M_divide_42 rfl rfl ?_
  refine J_callVv cw_M_66 nh_M_up pn_M_up rfl rfl (by omega) (by rw [va_up_ne _ _ (by decide), va_up_ne _ _ (by decide)]; exact hO) (As := [.int (iI 25), .int (iI (s : Int))]) (rest := []) rfl (Nat.le_of_ble_eq_true rfl) ⟨by decide, by decide⟩ rfl ⟨by decide, by decide⟩ d_M_divide_43 (k_M_up hfl (a := 25) (n := s) (hh := bh10) (ll := bl11) (V := va_up (va_up V 25 (V a)) 26 (V b)) (br := br) (hN := hN) (hO := (by rw [va_up_ne _ _ (by decide), va_up_ne _ _ (by decide)]; exact hO)) (hB := (by rw [va_up_ne _ _ (by decide), va_up_self])) (hL := (by rw [va_up_self])) (hR := hR15) (ha := by omega) (hxa := ((va_up_ne _ _ (by decide)).trans (va_up_self ..))) (bra := (hzz.2 25 (by decide) (by decide))) (hn := by omega) (hT := Or.inr (by omega))) (fun  F4 hq => ?_)
  obtain ⟨bh17, bl18, hR19, eF4⟩ := hq
  refine J_eqF (F2 := va_up (va_up F 99 (.inl (g 0, 858, .inl (aI bh17)))) 100 (.inl (g 0, 33, .inl (aI bl18)))) (eF4.trans (Eq.trans (congrArg (fun q : Nat → va_E => va_up q 100 (.inl (g 0, 33, .inl (aI bl18)))) (up_in1 (by decide))) (up_in0))) ?_
  have hR22 := reg_w1 (hzz.1 _) hR19
  have hR23 := (congrArg (fun qq : Nat → Nat => reg _ _ _ (qq)) (up_in1 (by decide))).mp hR22
  refine J_aload_n 2 d_M_divide_46 rfl rfl ?_
  refine J_bipush d_M_divide_47 (i8_ok (by decide)) ?_
  refine J_iload_n 1 d_M_divide_49 rfl rfl ?_
  refine J_callVv cw_M_66 nh_M_up pn_M_up rfl rfl (by omega) (by rw [va_up_ne _ _ (by decide), va_up_ne _ _ (by decide)]; exact hO) (As := [.int (iI 26), .int (iI (s : Int))]) (rest := []) rfl (Nat.le_of_ble_eq_true rfl) ⟨by decide, by decide⟩ rfl ⟨by decide, by decide⟩ d_M_divide_50 (k_M_up hfl (a := 26) (n := s) (hh := bh17) (ll := bl18) (V := va_up (va_up V 25 ((V a) * 2 ^ s)) 26 (V b)) (br := br) (hN := hN) (hO := (by rw [va_up_ne _ _ (by decide), va_up_ne _ _ (by decide)]; exact hO)) (hB := (by rw [va_up_ne _ _ (by decide), va_up_self])) (hL := (by rw [va_up_self])) (hR := hR23) (ha := by omega) (hxa := (va_up_self ..)) (bra := (hzz.2 26 (by decide) (by decide))) (hn := by omega) (hT := Or.inr (by omega))) (fun  F5 hq => ?_)
  obtain ⟨bh24, bl25, hR26, eF5⟩ := hq
  refine J_eqF (F2 := va_up (va_up F 99 (.inl (g 0, 858, .inl (aI bh24)))) 100 (.inl (g 0, 33, .inl (aI bl25)))) (eF5.trans (Eq.trans (congrArg (fun q : Nat → va_E => va_up q 100 (.inl (g 0, 33, .inl (aI bl25)))) (up_in1 (by decide))) (up_in0))) ?_
  have hR29 := reg_w1 (hzz.1 _) hR26
  have hR30 := (congrArg (fun qq : Nat → Nat => reg _ _ _ (qq)) (up_in0)).mp hR29
  refine J_aload_n 2 d_M_divide_53 rfl rfl ?_
  refine gf_M_13 (by omega) (by rw [va_up_ne _ _ (by decide), va_up_ne _ _ (by decide)]; exact hO) rfl d_M_divide_54 ?_
  refine J_bipush d_M_divide_57 (i8_ok (by decide)) ?_
  refine J_iaload 0 rfl (by omega) (by rw [va_up_self]) (by omega) d_M_divide_59 ?_
  refine J_topi (r := bl25 26) (congrArg (fun q => iI (bl25 q)) (by omega)) ?_
  refine J_topi (r := (((lnw 28 ((V b) * 2 ^ s) : Nat)) : Int)) (congrArg iI (by rw [(reg_len hR30 (by omega) (hzz.2 26 (by decide) (by decide))).1, show (va_up (va_up V 25 ((V a) * 2 ^ s)) 26 ((V b) * 2 ^ s)) 26 = (V b) * 2 ^ s from (va_up_self ..)])) ?_
  refine J_topi (r := (((lnw 28 (V b) : Nat)) : Int)) (congrArg iI (by rw [hln])) ?_
  refine J_istore (lv' := [(5, .int (iI (((lnw 28 (V b) : Nat)) : Int))), (4, .int (iI (((lnw 28 (V a) : Nat)) : Int))), (3, .int (iI (s : Int))), (0, .ref (ad 98)), (1, .int (iI (a : Int))), (2, .int (iI (b : Int)))]) d_M_divide_60 (by decide) rfl ?_
  refine J_aload_n 3 d_M_divide_62 rfl rfl ?_
  refine gf_M_13 (by omega) (by rw [va_up_ne _ _ (by decide), va_up_ne _ _ (by decide)]; exact hO) rfl d_M_divide_63 ?_
  refine J_bipush d_M_divide_66 (i8_ok (by decide)) ?_
  refine J_iaload 0 rfl (by omega) (by rw [va_up_self]) (by omega) d_M_divide_68 ?_
  refine J_topi (r := bl25 25) (congrArg (fun q => iI (bl25 q)) (by omega)) ?_
  refine J_topi (r := (((lnw 28 ((V a) * 2 ^ s) : Nat)) : Int)) (congrArg iI (by rw [(reg_len hR30 (by omega) (hzz.2 25 (by decide) (by decide))).1, show (va_up (va_up V 25 ((V a) * 2 ^ s)) 26 ((V b) * 2 ^ s)) 25 = (V a) * 2 ^ s from ((va_up_ne _ _ (by decide)).trans (va_up_self ..))])) ?_
  have hL1 := lnw_up8 (a := V a) (y := s)
  have hDp : 0 < V b * 2 ^ s := Nat.mul_pos (Nat.pos_of_ne_zero hb0) (Nat.two_pow_pos _)
  obtain ⟨hB0, hD0⟩ : bh24 = bh24 ∧ True := ⟨rfl, trivial⟩
  refine J_istore (lv' := [(6, .int (iI (((lnw 28 ((V a) * 2 ^ s) : Nat)) : Int))), (5, .int (iI (((lnw 28 (V b) : Nat)) : Int))), (4, .int (iI (((lnw 28 (V a) : Nat)) : Int))), (3, .int (iI (s : Int))), (0, .ref (ad 98)), (1, .int (iI (a : Int))), (2, .int (iI (b : Int)))]) d_M_divide_69 (by decide) rfl ?_
  refine J_pick (lv' := [(0, .ref (ad 98)), (1, .int (iI (a : Int))), (2, .int (iI (b : Int))), (3, .int (iI (s : Int))), (4, .int (iI (((lnw 28 (V a) : Nat)) : Int))), (5, .int (iI (((lnw 28 (V b) : Nat)) : Int))), (6, .int (iI (((lnw 28 ((V a) * 2 ^ s) : Nat)) : Int)))]) [4, 5, 6, 3, 2, 1, 0] rfl ?_
  have loop71 : ∀ (fuel : Nat) (i : Nat) (f : Nat → Int) (h1 : lnw 28 (V a * 2 ^ s) ≤ i ∧ i ≤ lnw 28 (V a) + 1) (hf : f = sg 25 (lnw 28 (V a * 2 ^ s)) i (fun _ => 0) bh24) (hfu : lnw 28 (V a) + 1 - i < fuel), J l rm_M_divide (0, 0) "NumberTowerModel" b_M_divide 8 (Option.none : Option Jvm.ClassFile.FieldType) D jCl (jTys g) A (fun _ me => me.name = y_M_divide.name) (jv ad N (fun F' => ∃ (hh' ll' : Nat → Int) (j : Nat), reg br hh' ll' (va_up (va_up (va_up V 26 j) 25 (V a % V b)) 24 (V a / V b)) ∧ F' = va_up (va_up F 99 (aB g hh')) 100 (aL g ll'))) ad N 0 0 71 [(0, .ref (ad 98)), (1, .int (iI (a : Int))), (2, .int (iI (b : Int))), (3, .int (iI (s : Int))), (4, .int (iI (((lnw 28 (V a) : Nat)) : Int))), (5, .int (iI (((lnw 28 (V b) : Nat)) : Int))), (6, .int (iI (i : Int)))] [] (va_up (va_up F 99 (.inl (g 0, 858, .inl (aI f)))) 100 (.inl (g 0, 33, .inl (aI bl25)))) := by
    intro fuel
    induction fuel with
    | zero => intro i f h1 hf hfu; exact absurd hfu (Nat.not_lt_zero _)
    | succ fuel ih =>
      intro i f h1 hf hfu
      refine J_iload 6 d_M_divide_71 rfl ?_
      refine J_iload 4 d_M_divide_73 rfl ?_
      refine J_if_icmpgt (tgt := 96) d_M_divide_75 (by decide) ⟨by omega, by omega⟩ ⟨by omega, by omega⟩ (fun c75 => ?_) (fun c75 => ?_)
      · have hip : i = lnw 28 (V a) + 1 := by omega
        have hfA : f = sg 25 0 (lnw 28 (V a) + 1) (dg8 (V a * 2 ^ s)) bh24 := by
          rw [hf, hip]
          exact sg_fill (fun k hk => by have := reg_dig hR30 (a := 25) (by omega) (hzz.2 _ (by decide) (by decide)) (j := k) (by rw [show (va_up (va_up V 25 ((V a) * 2 ^ s)) 26 ((V b) * 2 ^ s)) 25 = V a * 2 ^ s from ((va_up_ne _ _ (by decide)).trans (va_up_self ..))]; exact hk); rw [this, show (va_up (va_up V 25 ((V a) * 2 ^ s)) 26 ((V b) * 2 ^ s)) 25 = V a * 2 ^ s from ((va_up_ne _ _ (by decide)).trans (va_up_self ..))]) (fun k hk => dg_zero8 hk)
        refine J_eqF (F2 := va_up (va_up F 99 (.inl (g 0, 858, .inl (aI (sg 25 0 (lnw 28 (V a) + 1) (dg8 (V a * 2 ^ s)) bh24))))) 100 (.inl (g 0, 33, .inl (aI bl25)))) (congrArg (fun qq => va_up (va_up F 99 (.inl (g 0, 858, .inl (aI qq)))) 100 (.inl (g 0, 33, .inl (aI bl25)))) hfA) ?_
        refine J_iload 4 d_M_divide_96 rfl ?_
        refine J_iload 5 d_M_divide_98 rfl ?_
        refine J_isub d_M_divide_100 ?_
        refine J_istore (lv' := [(6, .int (iI ((((lnw 28 (V a) : Nat)) : Int) - (((lnw 28 (V b) : Nat)) : Int)))), (0, .ref (ad 98)), (1, .int (iI (a : Int))), (2, .int (iI (b : Int))), (3, .int (iI (s : Int))), (4, .int (iI (((lnw 28 (V a) : Nat)) : Int))), (5, .int (iI (((lnw 28 (V b) : Nat)) : Int)))]) d_M_divide_101 (by decide) rfl ?_
        obtain ⟨mm, hmm⟩ : ∃ mm : Nat, mm = ((lnw 28 (V a) : Int) - (lnw 28 (V b) : Int) + 1).toNat := ⟨_, rfl⟩
        have hA27 : V a * 2 ^ s < 2 ^ (28 * lnw 28 (V a) + s) := by
          rw [Nat.pow_add]
          exact Nat.mul_lt_mul_of_pos_right (lnw_lt (by decide)) (Nat.two_pow_pos _)
        have hAb : V a * 2 ^ s < V b * 2 ^ s * 2 ^ (28 * mm) := by
          refine Nat.lt_of_lt_of_le hA27 (Nat.le_trans ?_ (Nat.mul_le_mul_right _ hge))
          rw [← Nat.pow_add]
          exact Nat.pow_le_pow_right (by decide) (by omega)
        have hqm : lnw 28 (V a / V b) ≤ mm := by
          rw [lnw_le (by decide), ← div_sh (s := s), Nat.div_lt_iff_lt_mul hDp, Nat.mul_comm (2 ^ _)]
          exact hAb
        have hDn : V b * 2 ^ s < 2 ^ (28 * lnw 28 (V b)) := by rw [← hln]; exact lnw_lt (by decide)
        obtain ⟨rr, hrr⟩ : ∃ rr : Nat, rr = if (lnw 28 (V a) : Int) - (lnw 28 (V b) : Int) < 0 then lnw 28 (V a * 2 ^ s) else lnw 28 (V b) := ⟨_, rfl⟩
        refine J_aload_n 1 d_M_divide_103 rfl rfl ?_
        refine gf_M_13 (by omega) (by rw [va_up_ne _ _ (by decide), va_up_ne _ _ (by decide)]; exact hO) rfl d_M_divide_104 ?_
        refine J_bipush d_M_divide_107 (i8_ok (by decide)) ?_
        refine J_iconst d_M_divide_109 ?_
        refine J_iastore 0 rfl (by omega) (by rw [va_up_self]) (by omega) d_M_divide_110 ?_
        refine J_eqF (F2 := va_up (va_up (va_up F 99 (.inl (g 0, 858, .inl (aI (sg 25 0 (lnw 28 (V a) + 1) (dg8 (V a * 2 ^ s)) bh24))))) 100 (.inl (g 0, 33, .inl (aI bl25)))) 100 (.inl (g 0, 33, .inl (aI (va_up bl25 24 0))))) (congrArg (fun q => va_up (va_up (va_up F 99 (.inl (g 0, 858, .inl (aI (sg 25 0 (lnw 28 (V a) + 1) (dg8 (V a * 2 ^ s)) bh24))))) 100 (.inl (g 0, 33, .inl (aI bl25)))) 100 (.inl (g 0, 33, .inl (aI (va_up bl25 q 0))))) (by omega : (24 : Int).toNat = 24)) ?_
        refine J_eqF (F2 := va_up (va_up F 99 (.inl (g 0, 858, .inl (aI (sg 25 0 (lnw 28 (V a) + 1) (dg8 (V a * 2 ^ s)) bh24))))) 100 (.inl (g 0, 33, .inl (aI (va_up bl25 24 0))))) (up_in0) ?_
        refine J_iload 0 d_M_divide_111 rfl ?_
        refine J_istore (lv' := [(7, .int (iI ((((lnw 28 (V a) : Nat)) : Int) - (((lnw 28 (V b) : Nat)) : Int)))), (6, .int (iI ((((lnw 28 (V a) : Nat)) : Int) - (((lnw 28 (V b) : Nat)) : Int)))), (0, .ref (ad 98)), (1, .int (iI (a : Int))), (2, .int (iI (b : Int))), (3, .int (iI (s : Int))), (4, .int (iI (((lnw 28 (V a) : Nat)) : Int))), (5, .int (iI (((lnw 28 (V b) : Nat)) : Int)))]) d_M_divide_113 (by decide) rfl ?_
        refine J_pick (lv' := [(0, .ref (ad 98)), (1, .int (iI (a : Int))), (2, .int (iI (b : Int))), (3, .int (iI (s : Int))), (4, .int (iI (((lnw 28 (V a) : Nat)) : Int))), (5, .int (iI (((lnw 28 (V b) : Nat)) : Int))), (6, .int (iI ((((lnw 28 (V a) : Nat)) : Int) - (((lnw 28 (V b) : Nat)) : Int)))), (7, .int (iI ((((lnw 28 (V a) : Nat)) : Int) - (((lnw 28 (V b) : Nat)) : Int))))]) [2, 3, 4, 5, 6, 7, 1, 0] rfl ?_
        have loop115 : ∀ (fuel : Nat) (j : Int) (X : Nat) (f : Nat → Int) (h2 : -1 ≤ j ∨ j = (lnw 28 (V a) : Int) - (lnw 28 (V b) : Int)) (h3 : j ≤ (lnw 28 (V a) : Int) - (lnw 28 (V b) : Int)) (hX : X = V a * 2 ^ s % (V b * 2 ^ s * 2 ^ (28 * (j + 1).toNat))) (hf2 : f = sg 24 (j + 1).toNat mm (dg8 (V a / V b)) (sg 25 0 (lnw 28 (V a) + 1) (dg8 X) bh24)) (hfu : (j + 1).toNat < fuel), J l rm_M_divide (0, 0) "NumberTowerModel" b_M_divide 8 (Option.none : Option Jvm.ClassFile.FieldType) D jCl (jTys g) A (fun _ me => me.name = y_M_divide.name) (jv ad N (fun F' => ∃ (hh' ll' : Nat → Int) (j : Nat), reg br hh' ll' (va_up (va_up (va_up V 26 j) 25 (V a % V b)) 24 (V a / V b)) ∧ F' = va_up (va_up F 99 (aB g hh')) 100 (aL g ll'))) ad N 0 0 115 [(0, .ref (ad 98)), (1, .int (iI (a : Int))), (2, .int (iI (b : Int))), (3, .int (iI (s : Int))), (4, .int (iI (((lnw 28 (V a) : Nat)) : Int))), (5, .int (iI (((lnw 28 (V b) : Nat)) : Int))), (6, .int (iI ((((lnw 28 (V a) : Nat)) : Int) - (((lnw 28 (V b) : Nat)) : Int)))), (7, .int (iI j))] [] (va_up (va_up F 99 (.inl (g 0, 858, .inl (aI f)))) 100 (.inl (g 0, 33, .inl (aI (va_up bl25 24 0))))) := by
          intro fuel
          induction fuel with
          | zero => intro j X f h2 h3 hX hf2 hfu; exact absurd hfu (Nat.not_lt_zero _)
          | succ fuel ih =>
            intro j X f h2 h3 hX hf2 hfu
            refine J_iload 7 d_M_divide_115 rfl ?_
            refine J_iflt (tgt := 145) d_M_divide_117 (by decide) ⟨by omega, by omega⟩ (fun c117 => ?_) (fun c117 => ?_)
            · have hj0 : (j + 1).toNat = 0 := by omega
              have hXe : X = V a * 2 ^ s % (V b * 2 ^ s) := by rw [hX, hj0, Nat.mul_zero, Nat.pow_zero, Nat.mul_one]
              rw [hj0] at hf2
              refine J_aload_n 0 d_M_divide_145 rfl rfl ?_
              have lab164 : J l rm_M_divide (0, 0) "NumberTowerModel" b_M_divide 8 (Option.none : Option Jvm.ClassFile.FieldType) D jCl (jTys g) A (fun _ me => me.name = y_M_divide.name) (jv ad N (fun F' => ∃ (hh' ll' : Nat → Int) (j : Nat), reg br hh' ll' (va_up (va_up (va_up V 26 j) 25 (V a % V b)) 24 (V a / V b)) ∧ F' = va_up (va_up F 99 (aB g hh')) 100 (aL g ll'))) ad N 0 0 164 [(0, .ref (ad 98)), (1, .int (iI (a : Int))), (2, .int (iI (b : Int))), (3, .int (iI (s : Int))), (4, .int (iI (((lnw 28 (V a) : Nat)) : Int))), (5, .int (iI (((lnw 28 (V b) : Nat)) : Int))), (6, .int (iI ((((lnw 28 (V a) : Nat)) : Int) - (((lnw 28 (V b) : Nat)) : Int))))] [.int (iI (mm : Int)), .int (iI 24), .ref (ad 100)] (va_up (va_up F 99 (.inl (g 0, 858, .inl (aI f)))) 100 (.inl (g 0, 33, .inl (aI (va_up bl25 24 0))))) := by
                refine J_iastore 0 rfl (by omega) (by rw [va_up_self]) (by omega) d_M_divide_164 ?_
                refine J_eqF (F2 := va_up (va_up (va_up F 99 (.inl (g 0, 858, .inl (aI f)))) 100 (.inl (g 0, 33, .inl (aI (va_up bl25 24 0))))) 100 (.inl (g 0, 33, .inl (aI (va_up (va_up bl25 24 0) 24 (mm : Int)))))) (congrArg (fun q => va_up (va_up (va_up F 99 (.inl (g 0, 858, .inl (aI f)))) 100 (.inl (g 0, 33, .inl (aI (va_up bl25 24 0))))) 100 (.inl (g 0, 33, .inl (aI (va_up (va_up bl25 24 0) q (mm : Int)))))) (by omega : (24 : Int).toNat = 24)) ?_
                refine J_eqF (F2 := va_up (va_up F 99 (.inl (g 0, 858, .inl (aI f)))) 100 (.inl (g 0, 33, .inl (aI (va_up (va_up bl25 24 0) 24 (mm : Int)))))) (up_in0) ?_
                refine J_aload_n 0 d_M_divide_165 rfl rfl ?_
                have lab188 : J l rm_M_divide (0, 0) "NumberTowerModel" b_M_divide 8 (Option.none : Option Jvm.ClassFile.FieldType) D jCl (jTys g) A (fun _ me => me.name = y_M_divide.name) (jv ad N (fun F' => ∃ (hh' ll' : Nat → Int) (j : Nat), reg br hh' ll' (va_up (va_up (va_up V 26 j) 25 (V a % V b)) 24 (V a / V b)) ∧ F' = va_up (va_up F 99 (aB g hh')) 100 (aL g ll'))) ad N 0 0 188 [(0, .ref (ad 98)), (1, .int (iI (a : Int))), (2, .int (iI (b : Int))), (3, .int (iI (s : Int)))] [.int (iI (rr : Int)), .int (iI 25), .ref (ad 100)] (va_up (va_up F 99 (.inl (g 0, 858, .inl (aI f)))) 100 (.inl (g 0, 33, .inl (aI (va_up (va_up bl25 24 0) 24 (mm : Int)))))) := by
                  refine J_iastore 0 rfl (by omega) (by rw [va_up_self]) (by omega) d_M_divide_188 ?_
                  refine J_eqF (F2 := va_up (va_up (va_up F 99 (.inl (g 0, 858, .inl (aI f)))) 100 (.inl (g 0, 33, .inl (aI (va_up (va_up bl25 24 0) 24 (mm : Int)))))) 100 (.inl (g 0, 33, .inl (aI (va_up (va_up (va_up bl25 24 0) 24 (mm : Int)) 25 (rr : Int)))))) (congrArg (fun q => va_up (va_up (va_up F 99 (.inl (g 0, 858, .inl (aI f)))) 100 (.inl (g 0, 33, .inl (aI (va_up (va_up bl25 24 0) 24 (mm : Int)))))) 100 (.inl (g 0, 33, .inl (aI (va_up (va_up (va_up bl25 24 0) 24 (mm : Int)) q (rr : Int)))))) (by omega : (25 : Int).toNat = 25)) ?_
                  refine J_eqF (F2 := va_up (va_up F 99 (.inl (g 0, 858, .inl (aI f)))) 100 (.inl (g 0, 33, .inl (aI (va_up (va_up (va_up bl25 24 0) 24 (mm : Int)) 25 (rr : Int)))))) (up_in0) ?_
                  refine J_aload_n 0 d_M_divide_189 rfl rfl ?_
                  refine J_bipush d_M_divide_190 (i8_ok (by decide)) ?_
                  have hXr2 : lnw 28 X ≤ rr ∧ rr ≤ lnw 28 (V a) + 1 := by
                    rw [hrr]
                    split
                    · exact ⟨lnw_mono8 (by rw [hXe]; exact Nat.mod_le _ _), by omega⟩
                    · refine ⟨?_, by omega⟩
                      rw [lnw_le (by decide), hXe]
                      exact Nat.lt_trans (Nat.mod_lt _ hDp) hDn
                  refine J_callVv cw_M_50 nh_M_trim pn_M_trim rfl rfl (by omega) (by rw [va_up_ne _ _ (by decide), va_up_ne _ _ (by decide)]; exact hO) (As := [.int (iI 24)]) (rest := []) rfl (Nat.le_of_ble_eq_true rfl) ⟨by decide, by decide⟩ rfl ⟨by decide, by decide⟩ d_M_divide_192 (c_M_trim hfl (a := 24) (T := (V a / V b)) (c := mm) (hh := f) (ll := (va_up (va_up (va_up bl25 24 0) 24 (mm : Int)) 25 (rr : Int))) hN (by rw [va_up_ne _ _ (by decide), va_up_ne _ _ (by decide)]; exact hO) (by rw [va_up_ne _ _ (by decide), va_up_self]) (by rw [va_up_self]) (by omega) ⟨by rw [va_up_ne _ _ (by decide), va_up_self], by omega, hqm⟩ (fun k hk => by rw [hf2]; exact sg_in (by omega) (by omega))) (fun  F6 hq => ?_)
                  have eF6 := hq
                  refine J_eqF (F2 := va_up (va_up F 99 (.inl (g 0, 858, .inl (aI f)))) 100 (.inl (g 0, 33, .inl (aI (va_up (va_up (va_up (va_up bl25 24 0) 24 (mm : Int)) 25 (rr : Int)) 24 (lnw 28 (V a / V b) : Int)))))) (eF6.trans (up_in0)) ?_
                  refine J_aload_n 0 d_M_divide_195 rfl rfl ?_
                  refine J_bipush d_M_divide_196 (i8_ok (by decide)) ?_
                  refine J_callVv cw_M_50 nh_M_trim pn_M_trim rfl rfl (by omega) (by rw [va_up_ne _ _ (by decide), va_up_ne _ _ (by decide)]; exact hO) (As := [.int (iI 25)]) (rest := []) rfl (Nat.le_of_ble_eq_true rfl) ⟨by decide, by decide⟩ rfl ⟨by decide, by decide⟩ d_M_divide_198 (c_M_trim hfl (a := 25) (T := X) (c := rr) (hh := f) (ll := (va_up (va_up (va_up (va_up bl25 24 0) 24 (mm : Int)) 25 (rr : Int)) 24 (lnw 28 (V a / V b) : Int))) hN (by rw [va_up_ne _ _ (by decide), va_up_ne _ _ (by decide)]; exact hO) (by rw [va_up_ne _ _ (by decide), va_up_self]) (by rw [va_up_self]) (by omega) ⟨by rw [va_up_ne _ _ (by decide), va_up_self], by omega, hXr2.1⟩ (fun k hk => by rw [hf2, sg_out (by omega)]; exact sg_in (by omega) (by omega))) (fun  F7 hq => ?_)
                  have eF7 := hq
                  refine J_eqF (F2 := va_up (va_up F 99 (.inl (g 0, 858, .inl (aI f)))) 100 (.inl (g 0, 33, .inl (aI (va_up (va_up (va_up (va_up (va_up bl25 24 0) 24 (mm : Int)) 25 (rr : Int)) 24 (lnw 28 (V a / V b) : Int)) 25 (lnw 28 X : Int)))))) (eF7.trans (up_in0)) ?_
                  have hRb := reg_w1 (hzz.1 _) (reg_any hR30 (a := 25) (T := X) (by omega) (dg8 X) (lnw 28 (V a) + 1) ⟨by omega, by omega⟩ (fun k hk => rfl) rfl)
                  have hRc := reg_w1 (hzz.1 _) (reg_any hRb (a := 24) (T := V a / V b) (by omega) (dg8 (V a / V b)) mm ⟨by omega, hqm⟩ (fun k hk => rfl) hf2)
                  
                  have hRd : reg br f (va_up (va_up (va_up (va_up (va_up bl25 24 0) 24 (mm : Int)) 25 (rr : Int)) 24 (lnw 28 (V a / V b) : Int)) 25 (lnw 28 X : Int)) _ := (congrArg (fun q : Nat → Int => reg br f q _) (Eq.symm (Eq.trans (congrArg (fun qq : Nat → Int => va_up (va_up (va_up qq 25 (rr : Int)) 24 (lnw 28 (V a / V b) : Int)) 25 (lnw 28 X : Int)) (up_in0)) (Eq.trans (congrArg (fun qq : Nat → Int => va_up qq 25 (lnw 28 X : Int)) (up_in1 (by decide))) (Eq.trans (up_in0) (up_cm (by decide))))))).mp hRc
                  have hR31 := (congrArg (fun qq : Nat → Nat => reg _ _ _ (va_up (qq) 24 (V a / V b))) (up_in1 (by decide))).mp hRd
                  refine J_aload_n 0 d_M_divide_201 rfl rfl ?_
                  refine J_bipush d_M_divide_202 (i8_ok (by decide)) ?_
                  refine J_iload_n 3 d_M_divide_204 rfl rfl ?_
                  refine J_callVv cw_M_72 nh_M_down pn_M_down rfl rfl (by omega) (by rw [va_up_ne _ _ (by decide), va_up_ne _ _ (by decide)]; exact hO) (As := [.int (iI 25), .int (iI (s : Int))]) (rest := []) rfl (Nat.le_of_ble_eq_true rfl) ⟨by decide, by decide⟩ rfl ⟨by decide, by decide⟩ d_M_divide_205 (k_M_down hfl (a := 25) (n := s) (hh := f) (ll := va_up (va_up (va_up (va_up (va_up bl25 24 0) 24 (mm : Int)) 25 (rr : Int)) 24 (lnw 28 (V a / V b) : Int)) 25 (lnw 28 X : Int)) (V := va_up (va_up (va_up V 25 X) 26 ((V b) * 2 ^ s)) 24 (V a / V b)) (br := br) (hN := hN) (hO := (by rw [va_up_ne _ _ (by decide), va_up_ne _ _ (by decide)]; exact hO)) (hB := (by rw [va_up_ne _ _ (by decide), va_up_self])) (hL := (by rw [va_up_self])) (hR := hR31) (ha := by omega) (hxa := ((va_up_ne _ _ (by decide)).trans ((va_up_ne _ _ (by decide)).trans (va_up_self ..)))) (bra := (hzz.2 25 (by decide) (by decide))) (hn := by omega)) (fun  F8 hq => ?_)
                  obtain ⟨bh32, bl33, hR34, eF8⟩ := hq
                  refine J_eqF (F2 := va_up (va_up F 99 (.inl (g 0, 858, .inl (aI bh32)))) 100 (.inl (g 0, 33, .inl (aI bl33)))) (eF8.trans (Eq.trans (congrArg (fun q : Nat → va_E => va_up q 100 (.inl (g 0, 33, .inl (aI bl33)))) (up_in1 (by decide))) (up_in0))) ?_
                  have hR37 := reg_w1 (hzz.1 _) hR34
                  have hR38 := (congrArg (fun qq : Nat → Nat => reg _ _ _ (qq)) (up_in2 (by decide) (by decide))).mp hR37
                  refine J_vret rfl d_M_divide_208 ⟨by decide, by decide⟩ ?_
                  have hv : X / 2 ^ s = V a % V b := by rw [hXe, mod_sh2]
                  have hRz := hR38
                  rw [hv] at hRz
                  exact ⟨rfl, rfl, rfl, _, _, V b * 2 ^ s, (congrArg (reg _ _ _) (congrArg (fun qq : Nat → Nat => va_up qq 24 (V a / V b)) (up_cm (by decide)))).mp hRz, rfl⟩
                refine gf_M_13 (by omega) (by rw [va_up_ne _ _ (by decide), va_up_ne _ _ (by decide)]; exact hO) rfl d_M_divide_166 ?_
                refine J_bipush d_M_divide_169 (i8_ok (by decide)) ?_
                refine J_iload 6 d_M_divide_171 rfl ?_
                refine J_ifge (tgt := 186) d_M_divide_173 (by decide) ⟨by omega, by omega⟩ (fun c173 => ?_) (fun c173 => ?_)
                · refine J_iload 5 d_M_divide_186 rfl ?_
                  refine J_pick (lv' := [(0, .ref (ad 98)), (1, .int (iI (a : Int))), (2, .int (iI (b : Int))), (3, .int (iI (s : Int)))]) [0, 1, 2, 3] rfl ?_
                  refine J_topi (r := (rr : Int)) (congrArg iI (by rw [hrr, if_neg (by omega)])) ?_
                  exact lab188  
                · refine J_aload_n 0 d_M_divide_176 rfl rfl ?_
                  refine gf_M_13 (by omega) (by rw [va_up_ne _ _ (by decide), va_up_ne _ _ (by decide)]; exact hO) rfl d_M_divide_177 ?_
                  refine J_bipush d_M_divide_180 (i8_ok (by decide)) ?_
                  refine J_iaload 0 rfl (by omega) (by rw [va_up_self]) (by omega) d_M_divide_182 ?_
                  refine J_topi (r := (va_up (va_up bl25 24 0) 24 (mm : Int)) 25) (congrArg (fun q => iI ((va_up (va_up bl25 24 0) 24 (mm : Int)) q)) (by omega)) ?_
                  refine J_goto (tgt := 188) d_M_divide_183 (by decide) ?_
                  refine J_pick (lv' := [(0, .ref (ad 98)), (1, .int (iI (a : Int))), (2, .int (iI (b : Int))), (3, .int (iI (s : Int)))]) [0, 1, 2, 3] rfl ?_
                  refine J_topi (r := (rr : Int)) (congrArg iI (by rw [hrr, if_pos (by omega), va_up_ne _ _ (by decide), va_up_ne _ _ (by decide), (reg_len hR30 (by omega) (hzz.2 _ (by decide) (by decide))).1, show (va_up (va_up V 25 ((V a) * 2 ^ s)) 26 ((V b) * 2 ^ s)) 25 = V a * 2 ^ s from ((va_up_ne _ _ (by decide)).trans (va_up_self ..))])) ?_
                  exact lab188  
              refine gf_M_13 (by omega) (by rw [va_up_ne _ _ (by decide), va_up_ne _ _ (by decide)]; exact hO) rfl d_M_divide_146 ?_
              refine J_bipush d_M_divide_149 (i8_ok (by decide)) ?_
              refine J_iload 6 d_M_divide_151 rfl ?_
              refine J_ifge (tgt := 160) d_M_divide_153 (by decide) ⟨by omega, by omega⟩ (fun c153 => ?_) (fun c153 => ?_)
              · refine J_iload 6 d_M_divide_160 rfl ?_
                refine J_iconst d_M_divide_162 ?_
                refine J_iadd d_M_divide_163 ?_
                refine J_topi (r := (((lnw 28 (V a) : Nat)) : Int) - (((lnw 28 (V b) : Nat)) : Int) + 1) (congrArg iI (by omega)) ?_
                refine J_pick (lv' := [(0, .ref (ad 98)), (1, .int (iI (a : Int))), (2, .int (iI (b : Int))), (3, .int (iI (s : Int))), (4, .int (iI (((lnw 28 (V a) : Nat)) : Int))), (5, .int (iI (((lnw 28 (V b) : Nat)) : Int))), (6, .int (iI ((((lnw 28 (V a) : Nat)) : Int) - (((lnw 28 (V b) : Nat)) : Int))))]) [0, 1, 2, 3, 4, 5, 6] rfl ?_
                refine J_topi (r := (mm : Int)) (congrArg iI (by omega)) ?_
                exact lab164  
              · refine J_iconst d_M_divide_156 ?_
                refine J_goto (tgt := 164) d_M_divide_157 (by decide) ?_
                refine J_pick (lv' := [(0, .ref (ad 98)), (1, .int (iI (a : Int))), (2, .int (iI (b : Int))), (3, .int (iI (s : Int))), (4, .int (iI (((lnw 28 (V a) : Nat)) : Int))), (5, .int (iI (((lnw 28 (V b) : Nat)) : Int))), (6, .int (iI ((((lnw 28 (V a) : Nat)) : Int) - (((lnw 28 (V b) : Nat)) : Int))))]) [0, 1, 2, 3, 4, 5, 6] rfl ?_
                refine J_topi (r := (mm : Int)) (congrArg iI (by omega)) ?_
                exact lab164  
            · refine J_aload_n 0 d_M_divide_120 rfl rfl ?_
              refine gf_M_7 (by omega) (by rw [va_up_ne _ _ (by decide), va_up_ne _ _ (by decide)]; exact hO) rfl d_M_divide_121 ?_
              refine J_sipush d_M_divide_124 (i16_ok (by decide)) ?_
              refine J_iload 7 d_M_divide_127 rfl ?_
              refine J_iadd d_M_divide_129 ?_
              refine J_aload_n 0 d_M_divide_130 rfl rfl ?_
              refine J_iload 7 d_M_divide_131 rfl ?_
              refine J_topi (r := ((j.toNat : Nat) : Int)) (congrArg iI (by omega)) ?_
              refine J_iload 5 d_M_divide_133 rfl ?_
              have hj1 : (j + 1).toNat = j.toNat + 1 := by omega
              have hXl : X / 2 ^ (28 * j.toNat) < V b * 2 ^ s * 2 ^ 28 := by rw [hX, hj1]; exact ld_lt8 hDp
              have hXq : X / 2 ^ (28 * j.toNat) / (V b * 2 ^ s) = dgt 28 (V a / V b) j.toNat := by rw [hX, hj1, ld_dig8 hDp, div_sh]
              have hXr : X - X / 2 ^ (28 * j.toNat) / (V b * 2 ^ s) * (V b * 2 ^ s) * 2 ^ (28 * j.toNat) = V a * 2 ^ s % (V b * 2 ^ s * 2 ^ (28 * j.toNat)) := by
                have hlr := ld_rest8 (A := V a * 2 ^ s) (i := j.toNat) hDp
                rw [div_sh] at hlr
                rw [hXq, ← hlr, hX, hj1]
              have hXt : X < 2 ^ (28 * (j.toNat + lnw 28 (V b) + 1)) := by
                rw [show 28 * (j.toNat + lnw 28 (V b) + 1) = 28 * lnw 28 (V b) + 28 * (j.toNat + 1) by omega, Nat.pow_add, hX, hj1]
                refine Nat.lt_of_lt_of_le (Nat.mod_lt _ (Nat.mul_pos hDp (Nat.two_pow_pos _))) (Nat.mul_le_mul_right _ (Nat.le_of_lt hDn))
              refine J_callVi cw_M_69 nh_M_step pn_M_step rfl rfl (by omega) (by rw [va_up_ne _ _ (by decide), va_up_ne _ _ (by decide)]; exact hO) (As := [.int (iI ((j.toNat : Nat) : Int)), .int (iI (((lnw 28 (V b) : Nat)) : Int))]) (rest := [.int (iI (624 + j)), .ref (ad 99)]) rfl (Nat.le_of_ble_eq_true rfl) ⟨by decide, by decide⟩ rfl ⟨by decide, by decide⟩ d_M_divide_135 (c_M_step hfl (j := j.toNat) (n := lnw 28 (V b)) (d := V b * 2 ^ s) (X := X) (hh := f) (ll := (va_up bl25 24 0)) hN (by rw [va_up_ne _ _ (by decide), va_up_ne _ _ (by decide)]; exact hO) (by rw [va_up_ne _ _ (by decide), va_up_self]) (by rw [va_up_self]) hln.symm (by omega) (by omega) (fun k hk => by rw [hf2, sg_out (by omega), show 650 + k = 26 * 25 + k by omega, sg_in (by omega) (by omega)]) (fun k hk => by
                have hz : (va_up (va_up V 25 ((V a) * 2 ^ s)) 26 ((V b) * 2 ^ s)) 26 = V b * 2 ^ s := (va_up_self ..)
                rw [hf2, sg_out (by omega), sg_out (by omega), show 676 + k = 26 * 26 + k by omega, reg_dig hR30 (by omega) (hzz.2 _ (by decide) (by decide)) (by rw [hz, hln]; exact hk), hz]) hno hXl) (fun zq F9 hq => ?_)
              obtain ⟨hst, eF9⟩ := hq
              refine J_eqF (F2 := va_up (va_up F 99 (.inl (g 0, 858, .inl (aI (sg 25 0 (j.toNat + lnw 28 (V b) + 1) (dg8 (X - X / 2 ^ (28 * j.toNat) / (V b * 2 ^ s) * (V b * 2 ^ s) * 2 ^ (28 * j.toNat))) f))))) 100 (.inl (g 0, 33, .inl (aI (va_up bl25 24 0))))) (eF9.trans (up_in1 (by decide))) ?_
              refine J_topi (r := ((dgt 28 (V a / V b) j.toNat : Nat) : Int)) (congrArg iI (by rw [hst, hXq])) ?_
              refine J_iastore 0 rfl (by omega) (by rw [va_up_ne _ _ (by decide), va_up_self]) (by omega) d_M_divide_138 ?_
              refine J_eqF (F2 := va_up (va_up F 99 (.inl (g 0, 858, .inl (aI (va_up (sg 25 0 (j.toNat + lnw 28 (V b) + 1) (dg8 (X - X / 2 ^ (28 * j.toNat) / (V b * 2 ^ s) * (V b * 2 ^ s) * 2 ^ (28 * j.toNat))) f) ((624 + j).toNat) ((dgt 28 (V a / V b) j.toNat : Nat) : Int)))))) 100 (.inl (g 0, 33, .inl (aI (va_up bl25 24 0))))) (up_in1 (by decide)) ?_
              refine J_iinc (j := 7) (b := j - 1) (lv' := [(7, .int (iI (j - 1))), (0, .ref (ad 98)), (1, .int (iI (a : Int))), (2, .int (iI (b : Int))), (3, .int (iI (s : Int))), (4, .int (iI (((lnw 28 (V a) : Nat)) : Int))), (5, .int (iI (((lnw 28 (V b) : Nat)) : Int))), (6, .int (iI ((((lnw 28 (V a) : Nat)) : Int) - (((lnw 28 (V b) : Nat)) : Int))))]) d_M_divide_139 rfl (by omega) (by decide) rfl ?_
              refine J_goto (tgt := 115) d_M_divide_142 (by decide) ?_
              refine J_pick (lv' := [(0, .ref (ad 98)), (1, .int (iI (a : Int))), (2, .int (iI (b : Int))), (3, .int (iI (s : Int))), (4, .int (iI (((lnw 28 (V a) : Nat)) : Int))), (5, .int (iI (((lnw 28 (V b) : Nat)) : Int))), (6, .int (iI ((((lnw 28 (V a) : Nat)) : Int) - (((lnw 28 (V b) : Nat)) : Int)))), (7, .int (iI (j - 1)))]) [1, 2, 3, 4, 5, 6, 7, 0] rfl ?_
              refine ih (j - 1) (X - X / 2 ^ (28 * j.toNat) / (V b * 2 ^ s) * (V b * 2 ^ s) * 2 ^ (28 * j.toNat)) (va_up (sg 25 0 (j.toNat + lnw 28 (V b) + 1) (dg8 (X - X / 2 ^ (28 * j.toNat) / (V b * 2 ^ s) * (V b * 2 ^ s) * 2 ^ (28 * j.toNat))) f) ((624 + j).toNat) ((dgt 28 (V a / V b) j.toNat : Nat) : Int)) (by omega) (by omega) ?_ ?_ (by omega)
              · rw [hXr, show (j - 1 + 1).toNat = j.toNat by omega]
              · rw [hf2, sg_mid (by omega) (by omega) (by decide) (by omega) (fun k h5 h6 => by
                  have e1 : dg8 X k = 0 := dg_zero8 (Nat.le_trans ((lnw_le (by decide)).mpr hXt) h5)
                  have e2 : dg8 (X - X / 2 ^ (28 * j.toNat) / (V b * 2 ^ s) * (V b * 2 ^ s) * 2 ^ (28 * j.toNat)) k = 0 := dg_zero8 (Nat.le_trans ((lnw_le (by decide)).mpr (Nat.lt_of_le_of_lt (Nat.sub_le _ _) hXt)) h5)
                  rw [e1, e2]), show (624 + j).toNat = 26 * 24 + j.toNat by omega, show (j - 1 + 1).toNat = j.toNat by omega, hj1]
                exact sg_dn (by omega) rfl
        exact loop115 (((((lnw 28 (V a) : Int) - (lnw 28 (V b) : Int)) + 1).toNat) + 1) ((lnw 28 (V a) : Int) - (lnw 28 (V b) : Int)) (V a * 2 ^ s) (sg 25 0 (lnw 28 (V a) + 1) (dg8 (V a * 2 ^ s)) bh24) (Or.inr rfl) (by omega) (by rw [← hmm]; exact (Nat.mod_eq_of_lt hAb).symm) (by rw [← hmm]; exact sg_0 _ _ _ _) (Nat.lt_succ_self _)
      · refine J_aload_n 0 d_M_divide_78 rfl rfl ?_
        refine gf_M_7 (by omega) (by rw [va_up_ne _ _ (by decide), va_up_ne _ _ (by decide)]; exact hO) rfl d_M_divide_79 ?_
        refine J_sipush d_M_divide_82 (i16_ok (by decide)) ?_
        refine J_iload 6 d_M_divide_85 rfl ?_
        refine J_iadd d_M_divide_87 ?_
        refine J_iconst d_M_divide_88 ?_
        refine J_iastore 0 rfl (by omega) (by rw [va_up_ne _ _ (by decide), va_up_self]) (by omega) d_M_divide_89 ?_
        refine J_eqF (F2 := va_up (va_up (va_up F 99 (.inl (g 0, 858, .inl (aI f)))) 100 (.inl (g 0, 33, .inl (aI bl25)))) 99 (.inl (g 0, 858, .inl (aI (va_up f (650 + i) 0))))) (congrArg (fun q => va_up (va_up (va_up F 99 (.inl (g 0, 858, .inl (aI f)))) 100 (.inl (g 0, 33, .inl (aI bl25)))) 99 (.inl (g 0, 858, .inl (aI (va_up f q 0))))) (by omega : (650 + (i : Int)).toNat = 650 + i)) ?_
        refine J_eqF (F2 := va_up (va_up F 99 (.inl (g 0, 858, .inl (aI (va_up f (650 + i) 0))))) 100 (.inl (g 0, 33, .inl (aI bl25)))) (up_in1 (by decide)) ?_
        refine J_iinc (j := 6) (b := (i : Int) + 1) (lv' := [(6, .int (iI ((i : Int) + 1))), (0, .ref (ad 98)), (1, .int (iI (a : Int))), (2, .int (iI (b : Int))), (3, .int (iI (s : Int))), (4, .int (iI (((lnw 28 (V a) : Nat)) : Int))), (5, .int (iI (((lnw 28 (V b) : Nat)) : Int)))]) d_M_divide_90 rfl (by omega) (by decide) rfl ?_
        refine J_goto (tgt := 71) d_M_divide_93 (by decide) ?_
        refine J_pick (lv' := [(0, .ref (ad 98)), (1, .int (iI (a : Int))), (2, .int (iI (b : Int))), (3, .int (iI (s : Int))), (4, .int (iI (((lnw 28 (V a) : Nat)) : Int))), (5, .int (iI (((lnw 28 (V b) : Nat)) : Int))), (6, .int (iI ((i : Int) + 1)))]) [1, 2, 3, 4, 5, 6, 0] rfl ?_
        exact ih (i + 1) (va_up f (650 + i) 0) (by omega) (by rw [hf, show 650 + i = 26 * 25 + i by omega]; exact sg_up (by omega) rfl) (by omega)
  exact loop71 ((lnw 28 (V a) + 1 - (lnw 28 (V a * 2 ^ s))) + 1) (lnw 28 (V a * 2 ^ s)) bh24 (by omega) (sg_0 _ _ _ _) (Nat.lt_succ_self _)
theorem k_M_divide {l : Launch} (hfl : l.flags = flags0) {D : va_G} {g : Nat → ClassId} {ad : Nat → Nat} {N : Nat} {F : Nat → va_E} {a b : Nat} {hh ll : Nat → Int} {V : Nat → Nat} {br : Nat → Nat} {vs : List Value} {xa xb : Nat} (hxa : V a = xa) (hxb : V b = xb) (hN : 109 ≤ N) (hO : F 98 = .inr (8, .ref (ad 99) :: .ref (ad 100) :: vs)) (hB : F 99 = aB g hh) (hL : F 100 = aL g ll) (hR : reg br hh ll V) (ha : a < 33) (hb : b < 33) (bra : br a = 0) (brb : br b = 0) (hzz : okB br) (ha2 : ¬(24 ≤ a ∧ a ≤ 26)) (hb2 : ¬(24 ≤ b ∧ b ≤ 26)) (hb0 : xb ≠ 0) (hla2 : lnw 28 xa ≤ 25) (hlb2 : lnw 28 xb ≤ 25) :
    JC l y_M_divide b_M_divide 8 (Option.none : Option Jvm.ClassFile.FieldType) rm_M_divide (0, 0) D jCl (jTys g) ad N F [.ref (ad 98), .int (iI (a : Int)), .int (iI (b : Int))] (jv ad N (fun F' => ∃ (hh' ll' : Nat → Int) (j : Nat), reg br hh' ll' (va_up (va_up (va_up V 26 j) 25 (xa % xb)) 24 (xa / xb)) ∧ F' = va_up (va_up F 99 (aB g hh')) 100 (aL g ll'))) := by
  subst hxa
  subst hxb
  exact c_M_divide hfl hN hO hB hL hR ha hb bra brb hzz ha2 hb2 hb0 hla2 hlb2

