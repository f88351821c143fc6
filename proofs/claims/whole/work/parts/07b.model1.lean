/-! the Model's regions -/
abbrev aB (g : Nat → ClassId) (h : Nat → Int) : va_E := .inl (g 0, 858, .inl (aI h))
abbrev aL (g : Nat → ClassId) (h : Nat → Int) : va_E := .inl (g 0, 33, .inl (aI h))
/-- br a: 0 the region is in its normal form, 1 nothing is known of it, c + 2 it has c limbs -/
def reg (br : Nat → Nat) (hh ll : Nat → Int) (V : Nat → Nat) : Prop := ∀ a, a < 33 → (br a = 0 → ll a = (lnw 28 (V a) : Int) ∧ lnw 28 (V a) ≤ 26 ∧ ∀ j, j < lnw 28 (V a) → hh (26 * a + j) = dg8 (V a) j) ∧ (∀ c, br a = c + 2 → ll a = (c : Int) ∧ c ≤ 26 ∧ ∀ j, j < c → hh (26 * a + j) = dg8 (V a) j)
def okB (br : Nat → Nat) : Prop := (∀ k, br k ≤ 1) ∧ ∀ k, k ≠ 22 → k ≠ 23 → br k = 0
def sg (a lo hi : Nat) (A h : Nat → Int) : Nat → Int := fun x => if 26 * a + lo ≤ x ∧ x < 26 * a + hi then A (x - 26 * a) else h x
theorem sg_0 (a i : Nat) (A h : Nat → Int) : h = sg a i i A h := by
  funext x; simp only [sg]; rw [if_neg (by omega)]
theorem sg_up {a lo hi : Nat} {A h : Nat → Int} {v : Int} (hl : lo ≤ hi) (hv : v = A hi) : va_up (sg a lo hi A h) (26 * a + hi) v = sg a lo (hi + 1) A h := by
  funext x
  simp only [va_up, sg]
  by_cases e : x = 26 * a + hi
  · subst e; rw [if_pos rfl, if_pos (by omega), hv]; congr 1; omega
  · rw [if_neg e]
    by_cases q : 26 * a + lo ≤ x ∧ x < 26 * a + hi
    · rw [if_pos q, if_pos (by omega)]
    · rw [if_neg q, if_neg (by omega)]
theorem sg_dn {a lo hi : Nat} {A h : Nat → Int} {v : Int} (hl : lo < hi) (hv : v = A lo) : va_up (sg a (lo + 1) hi A h) (26 * a + lo) v = sg a lo hi A h := by
  funext x
  simp only [va_up, sg]
  by_cases e : x = 26 * a + lo
  · subst e; rw [if_pos rfl, if_pos (by omega), hv]; congr 1; omega
  · rw [if_neg e]
    by_cases q : 26 * a + (lo + 1) ≤ x ∧ x < 26 * a + hi
    · rw [if_pos q, if_pos (by omega)]
    · rw [if_neg q, if_neg (by omega)]
theorem sg_in {a lo hi j : Nat} {A h : Nat → Int} (h1 : lo ≤ j) (h2 : j < hi) : sg a lo hi A h (26 * a + j) = A j := by
  simp only [sg]; rw [if_pos (by omega)]; congr 1; omega
theorem sg_out {a lo hi x : Nat} {A h : Nat → Int} (h1 : ¬(26 * a + lo ≤ x ∧ x < 26 * a + hi)) : sg a lo hi A h x = h x := by
  simp only [sg]; rw [if_neg h1]
theorem reg_w1 {br : Nat → Nat} {hh ll : Nat → Int} {V : Nat → Nat} {i : Nat} (hi : br i ≤ 1) (hR : reg (va_up br i 0) hh ll V) : reg br hh ll V := fun a ha => ⟨fun hb => (hR a ha).1 (by unfold va_up; split; rfl; exact hb), fun c hb => (hR a ha).2 c (by unfold va_up; split; (next e => subst e; omega); exact hb)⟩
theorem hzz_up {br : Nat → Nat} {i : Nat} (h : okB br) : okB (va_up br i 0) := ⟨fun k => by unfold va_up; split; omega; exact h.1 k, fun k h1 h2 => by unfold va_up; split; rfl; exact h.2 k h1 h2⟩
theorem reg_len {br : Nat → Nat} {hh ll : Nat → Int} {V : Nat → Nat} (hR : reg br hh ll V) {a : Nat} (ha : a < 33) (hb : br a = 0) : ll a = (lnw 28 (V a) : Int) ∧ lnw 28 (V a) ≤ 26 := ⟨((hR a ha).1 hb).1, ((hR a ha).1 hb).2.1⟩
theorem reg_dig {br : Nat → Nat} {hh ll : Nat → Int} {V : Nat → Nat} (hR : reg br hh ll V) {a j : Nat} (ha : a < 33) (hb : br a = 0) (hj : j < lnw 28 (V a)) : hh (26 * a + j) = dg8 (V a) j := ((hR a ha).1 hb).2.2 j hj
theorem reg_set {br : Nat → Nat} {hh hh' ll : Nat → Int} {V : Nat → Nat} {a T : Nat} (hR : reg br hh ll V) (hT : lnw 28 T ≤ 26) (hd : ∀ j, j < lnw 28 T → hh' (26 * a + j) = dg8 T j) (ho : ∀ x, (x < 26 * a ∨ 26 * a + 26 ≤ x) → hh' x = hh x) : reg (va_up br a 0) hh' (va_up ll a (lnw 28 T : Int)) (va_up V a T) := by
  intro b hb
  by_cases e : b = a
  · subst e; rw [va_up_self, va_up_self, va_up_self]; exact ⟨fun _ => ⟨rfl, hT, hd⟩, fun c hc => absurd hc (by omega)⟩
  · rw [va_up_ne _ _ e, va_up_ne _ _ e, va_up_ne _ _ e]
    obtain ⟨h0, h4⟩ := hR b hb
    constructor
    · intro hbb
      obtain ⟨h1, h2, h3⟩ := h0 hbb
      refine ⟨h1, h2, fun j hj => ?_⟩
      rw [ho _ (by omega)]; exact h3 j hj
    · intro c hc
      obtain ⟨h1, h2, h3⟩ := h4 c hc
      refine ⟨h1, h2, fun j hj => ?_⟩
      rw [ho _ (by omega)]; exact h3 j hj
theorem reg_five {br : Nat → Nat} {hh hh' ll : Nat → Int} {V : Nat → Nat} {a T : Nat} (c : Nat) (hR : reg br hh ll V) (hT : c ≤ 26) (hd : ∀ j, j < c → hh' (26 * a + j) = dg8 T j) (ho : ∀ x, (x < 26 * a ∨ 26 * a + 26 ≤ x) → hh' x = hh x) : reg (va_up br a (c + 2)) hh' (va_up ll a (c : Int)) (va_up V a T) := by
  intro b hb
  by_cases e : b = a
  · subst e; rw [va_up_self, va_up_self, va_up_self]; exact ⟨fun e => absurd e (by omega), fun k hk => by obtain rfl : c = k := by omega
                                                                                                          exact ⟨rfl, hT, hd⟩⟩
  · rw [va_up_ne _ _ e, va_up_ne _ _ e, va_up_ne _ _ e]
    obtain ⟨h0, h4⟩ := hR b hb
    constructor
    · intro hbb
      obtain ⟨h1, h2, h3⟩ := h0 hbb
      refine ⟨h1, h2, fun j hj => ?_⟩
      rw [ho _ (by omega)]; exact h3 j hj
    · intro c hc
      obtain ⟨h1, h2, h3⟩ := h4 c hc
      refine ⟨h1, h2, fun j hj => ?_⟩
      rw [ho _ (by omega)]; exact h3 j hj
theorem reg_w7 {br : Nat → Nat} {hh ll : Nat → Int} {V : Nat → Nat} {i c : Nat} (hi : br i = 1) (hR : reg (va_up br i c) hh ll V) : reg br hh ll V := fun a ha => by
  by_cases e : a = i
  · subst e; exact ⟨fun e => absurd e (by omega), fun c e => absurd e (by omega)⟩
  · have := hR a ha
    rw [va_up_ne _ _ e] at this
    exact this
/-- the limb of a region, beyond its length too -/
theorem reg_limb {br : Nat → Nat} {hh ll : Nat → Int} {V : Nat → Nat} (hR : reg br hh ll V) {a j : Nat} (ha : a < 33) (hb : br a = 0) {f : Nat → Int} (hf : j < lnw 28 (V a) → f (26 * a + j) = hh (26 * a + j)) : (if (j : Int) < ll a then f (26 * a + j) else 0) = dg8 (V a) j := by
  obtain ⟨h1, h2, h3⟩ := (hR a ha).1 hb
  rw [h1]
  by_cases q : j < lnw 28 (V a)
  · rw [if_pos (by omega), hf q, h3 j q]
  · rw [if_neg (by omega), dg_zero8 (by omega)]
theorem lnw28_eq {n c : Nat} (h1 : n < 2 ^ (28 * c)) (h2 : c = 0 ∨ 2 ^ (28 * (c - 1)) ≤ n) : lnw 28 n = c := by
  apply Nat.le_antisymm
  · exact (lnw_le (by decide)).mpr h1
  · rcases h2 with rfl | h2
    · exact Nat.zero_le _
    · apply Nat.le_of_not_lt
      intro h3
      have : n < 2 ^ (28 * (c - 1)) := (lnw_le (by decide)).mp (by omega)
      omega
theorem lnw28_ge {n : Nat} (h : n ≠ 0) : 2 ^ (28 * (lnw 28 n - 1)) ≤ n := by
  apply Nat.le_of_not_lt
  intro h2
  have := (lnw_le (w := 28) (by decide)).mpr h2
  have h3 : lnw 28 n ≠ 0 := fun z => h (cn_eq08.mp z)
  omega
theorem dprod8 {x f a i : Nat} (hx : x = dgt 28 a i) (hf : f < 268435456) : x * f ≤ 72057593501057025 := by
  have := dgt_b8 a i
  exact Nat.le_trans (Nat.mul_le_mul (by omega : x ≤ 268435455) (by omega : f ≤ 268435455)) (by decide)
theorem scale_c8 {f m a i : Nat} (hf : f < 268435456) (hm : m < 268435456) : cy8 0 (m + f * (a % 2 ^ (28 * i))) i ≤ 268435455 := by
  apply Nat.le_of_lt_succ
  unfold cy8
  rw [Nat.zero_mod, Nat.zero_add, Nat.div_lt_iff_lt_mul (Nat.two_pow_pos _)]
  have h1 := Nat.mod_lt a (Nat.two_pow_pos (28 * i))
  have h2 : f * (a % 2 ^ (28 * i)) ≤ 268435455 * (a % 2 ^ (28 * i)) := Nat.mul_le_mul_right _ (by omega)
  generalize 2 ^ (28 * i) = P at *
  omega
set_option maxRecDepth 100000 in
set_option maxHeartbeats 4000000 in
theorem c_M_in {l : Launch} (hfl : l.flags = flags0) {D : va_G} {g : Nat → ClassId} {ad : Nat → Nat} {N : Nat} {F : Nat → va_E} {a b c : Int}
    (ha : inI a) (hb : inI b) (hc : inI c) :
    JC l y_M_in b_M_in 3 (Option.some Jvm.ClassFile.FieldType.boolean) rm_M_in (0, 0) D jCl (jTys g) ad N F [.int (iI a), .int (iI b), .int (iI c)] (ji ad N (fun z F' => ((z = 1 ∧ b ≤ a ∧ a ≤ c) ∨ (z = 0 ∧ ¬(b ≤ a ∧ a ≤ c))) ∧ F' = F)) := by
  refine JC.go hfl (own := "NumberTowerModel") (lv := [(0, .int (iI a)), (1, .int (iI b)), (2, .int (iI c))]) rfl (by decide +kernel) (Nat.le_of_ble_eq_true rfl) rfl (fun A => ?_)
  refine J_iload_n 0 d_M_in_0 rfl rfl ?_
  refine J_iload_n 1 d_M_in_1 rfl rfl ?_
  refine J_if_icmplt (tgt := 14) d_M_in_2 (by decide) ⟨by omega, by omega⟩ ⟨by omega, by omega⟩ (fun c2 => ?_) (fun c2 => ?_)
  · refine J_iconst d_M_in_14 ?_
    refine J_iret rfl (nb01 (by omega)).1 d_M_in_15 ⟨by decide, by decide⟩ ?_
    exact ⟨_, rfl, rfl, rfl, by omega, rfl⟩
  · refine J_iload_n 0 d_M_in_5 rfl rfl ?_
    refine J_iload_n 2 d_M_in_6 rfl rfl ?_
    refine J_if_icmpgt (tgt := 14) d_M_in_7 (by decide) ⟨by omega, by omega⟩ ⟨by omega, by omega⟩ (fun c7 => ?_) (fun c7 => ?_)
    · refine J_iconst d_M_in_14 ?_
      refine J_iret rfl (nb01 (by omega)).1 d_M_in_15 ⟨by decide, by decide⟩ ?_
      exact ⟨_, rfl, rfl, rfl, by omega, rfl⟩
    · refine J_iconst d_M_in_10 ?_
      refine J_goto (tgt := 15) d_M_in_11 (by decide) ?_
      refine J_iret rfl (nb01 (by omega)).1 d_M_in_15 ⟨by decide, by decide⟩ ?_
      exact ⟨_, rfl, rfl, rfl, by omega, rfl⟩
set_option maxRecDepth 100000 in
set_option maxHeartbeats 4000000 in
theorem c_M_limb {l : Launch} (hfl : l.flags = flags0) {D : va_G} {g : Nat → ClassId} {ad : Nat → Nat} {N : Nat} {F : Nat → va_E} {a k : Nat} {hh ll : Nat → Int} {vs : List Value}
    (hN : 109 ≤ N) (hO : F 98 = .inr (8, .ref (ad 99) :: .ref (ad 100) :: vs)) (hB : F 99 = aB g hh) (hL : F 100 = aL g ll) (ha : a < 33) (hk : (k : Int) ≤ 1000 ∧ 0 ≤ ll a ∧ ll a ≤ 26) :
    JC l y_M_limb b_M_limb 3 (Option.some Jvm.ClassFile.FieldType.int) rm_M_limb (0, 0) D jCl (jTys g) ad N F [.ref (ad 98), .int (iI (a : Int)), .int (iI (k : Int))] (ji ad N (fun z F' => (z = if (k : Int) < ll a then hh (26 * a + k) else 0) ∧ F' = F)) := by
  refine JC.go hfl (own := "NumberTowerModel") (lv := [(0, .ref (ad 98)), (1, .int (iI (a : Int))), (2, .int (iI (k : Int)))]) rfl (by decide +kernel) (Nat.le_of_ble_eq_true rfl) rfl (fun A => ?_)
  refine J_iload_n 2 d_M_limb_0 rfl rfl ?_
  refine J_aload_n 0 d_M_limb_1 rfl rfl ?_
  refine gf_M_13 (by omega) hO rfl d_M_limb_2 ?_
  refine J_iload_n 1 d_M_limb_5 rfl rfl ?_
  refine J_iaload 0 rfl (by omega) hL (by omega) d_M_limb_6 ?_
  refine J_topi (r := ll a) (congrArg (fun q => iI (ll q)) (by omega)) ?_
  refine J_if_icmpge (tgt := 24) d_M_limb_7 (by decide) ⟨by omega, by omega⟩ ⟨by omega, by omega⟩ (fun c7 => ?_) (fun c7 => ?_)
  · refine J_iconst d_M_limb_24 ?_
    refine J_iret rfl rfl d_M_limb_25 ⟨by decide, by decide⟩ ?_
    exact ⟨_, rfl, rfl, rfl, by first | rw [if_pos (by omega)] | rw [if_neg (by omega)], rfl⟩
  · refine J_aload_n 0 d_M_limb_10 rfl rfl ?_
    refine gf_M_7 (by omega) hO rfl d_M_limb_11 ?_
    refine J_bipush d_M_limb_14 (i8_ok (by decide)) ?_
    refine J_iload_n 1 d_M_limb_16 rfl rfl ?_
    refine J_imul d_M_limb_17 ?_
    refine J_iload_n 2 d_M_limb_18 rfl rfl ?_
    refine J_iadd d_M_limb_19 ?_
    refine J_iaload 0 rfl (by omega) hB (by omega) d_M_limb_20 ?_
    refine J_topi (r := hh ((26 * a) + k)) (congrArg (fun q => iI (hh q)) (by omega)) ?_
    refine J_goto (tgt := 25) d_M_limb_21 (by decide) ?_
    refine J_iret rfl rfl d_M_limb_25 ⟨by decide, by decide⟩ ?_
    exact ⟨_, rfl, rfl, rfl, by first | rw [if_pos (by omega)] | rw [if_neg (by omega)], rfl⟩
set_option maxRecDepth 100000 in
set_option maxHeartbeats 4000000 in
theorem c_M_trim {l : Launch} (hfl : l.flags = flags0) {D : va_G} {g : Nat → ClassId} {ad : Nat → Nat} {N : Nat} {F : Nat → va_E} {a T c : Nat} {hh ll : Nat → Int} {vs : List Value}
    (hN : 109 ≤ N) (hO : F 98 = .inr (8, .ref (ad 99) :: .ref (ad 100) :: vs)) (hB : F 99 = aB g hh) (hL : F 100 = aL g ll) (ha : a < 33) (hc : ll a = c ∧ c ≤ 26 ∧ lnw 28 T ≤ c) (hd : ∀ j, j < c → hh (26 * a + j) = dg8 T j) :
    JC l y_M_trim b_M_trim 2 (Option.none : Option Jvm.ClassFile.FieldType) rm_M_trim (0, 0) D jCl (jTys g) ad N F [.ref (ad 98), .int (iI (a : Int))] (jv ad N (fun F' => F' = va_up F 100 (aL g (va_up ll a (lnw 28 T : Int))))) := by
  refine JC.go hfl (own := "NumberTowerModel") (lv := [(0, .ref (ad 98)), (1, .int (iI (a : Int)))]) rfl (by decide +kernel) (Nat.le_of_ble_eq_true rfl) rfl (fun A => ?_)
  have lab43 : ∀ (f : Nat → Int) (hf : f = va_up ll a (lnw 28 T : Int)) , J l rm_M_trim (0, 0) "NumberTowerModel" b_M_trim 2 (Option.none : Option Jvm.ClassFile.FieldType) D jCl (jTys g) A (fun _ me => me.name = y_M_trim.name) (jv ad N (fun F' => F' = va_up F 100 (aL g (va_up ll a (lnw 28 T : Int))))) ad N 0 0 43 [] [] (va_up F 100 (.inl (g 0, 33, .inl (aI f)))) := by
    intro f hf
    refine J_vret rfl d_M_trim_43 ⟨by decide, by decide⟩ ?_
    exact ⟨rfl, rfl, rfl, by rw [hf]⟩
  have loop0 : ∀ (fuel : Nat) (m : Nat) (f : Nat → Int) (h1 : m ≤ c ∧ lnw 28 T ≤ m) (hf : f = va_up ll a (m : Int)) (hfu : m < fuel), J l rm_M_trim (0, 0) "NumberTowerModel" b_M_trim 2 (Option.none : Option Jvm.ClassFile.FieldType) D jCl (jTys g) A (fun _ me => me.name = y_M_trim.name) (jv ad N (fun F' => F' = va_up F 100 (aL g (va_up ll a (lnw 28 T : Int))))) ad N 0 0 0 [(0, .ref (ad 98)), (1, .int (iI (a : Int)))] [] (va_up F 100 (.inl (g 0, 33, .inl (aI f)))) := by
    intro fuel
    induction fuel with
    | zero => intro m f h1 hf hfu; exact absurd hfu (Nat.not_lt_zero _)
    | succ fuel ih =>
      intro m f h1 hf hfu
      have fa : f a = m := by rw [hf, va_up_self]
      refine J_aload_n 0 d_M_trim_0 rfl rfl ?_
      refine gf_M_13 (by omega) (by rw [va_up_ne _ _ (by decide)]; exact hO) rfl d_M_trim_1 ?_
      refine J_iload_n 1 d_M_trim_4 rfl rfl ?_
      refine J_iaload 0 rfl (by omega) (by rw [va_up_self]) (by omega) d_M_trim_5 ?_
      refine J_topi (r := f a) (congrArg (fun q => iI (f q)) (by omega)) ?_
      refine J_ifle (tgt := 43) d_M_trim_6 (by decide) ⟨by omega, by omega⟩ (fun c6 => ?_) (fun c6 => ?_)
      · refine J_pick (lv' := []) [] rfl ?_
        exact lab43 f (by
          rw [hf]
          congr 2
          by_cases q : m = 0
          · omega
          · have h3 : (lnw 28 T : Int) = m := by
              apply Int.le_antisymm (by omega)
              apply Int.not_lt.mp
              intro h4
              have h5 := hd (m - 1) (by omega)
              have h6 := dgt_zeroL (w := 28) (n := T) (i := m - 1) (by decide) (by omega)
              have h7 : hh ((26 * (a : Int)) + f a - 1).toNat = 0 := by
                rw [show ((26 * (a : Int)) + f a - 1).toNat = 26 * a + (m - 1) by omega, h5, dg_nat8, h6]; rfl
              omega
            omega)
      · refine J_aload_n 0 d_M_trim_9 rfl rfl ?_
        refine gf_M_7 (by omega) (by rw [va_up_ne _ _ (by decide)]; exact hO) rfl d_M_trim_10 ?_
        refine J_bipush d_M_trim_13 (i8_ok (by decide)) ?_
        refine J_iload_n 1 d_M_trim_15 rfl rfl ?_
        refine J_imul d_M_trim_16 ?_
        refine J_aload_n 0 d_M_trim_17 rfl rfl ?_
        refine gf_M_13 (by omega) (by rw [va_up_ne _ _ (by decide)]; exact hO) rfl d_M_trim_18 ?_
        refine J_iload_n 1 d_M_trim_21 rfl rfl ?_
        refine J_iaload 0 rfl (by omega) (by rw [va_up_self]) (by omega) d_M_trim_22 ?_
        refine J_topi (r := f a) (congrArg (fun q => iI (f q)) (by omega)) ?_
        refine J_iadd d_M_trim_23 ?_
        refine J_iconst d_M_trim_24 ?_
        refine J_isub d_M_trim_25 ?_
        refine J_topi (r := (26 * (a : Int)) + (f a) - 1) (congrArg iI (by omega)) ?_
        refine J_iaload 0 rfl (by omega) (by rw [va_up_ne _ _ (by decide)]; exact hB) (by omega) d_M_trim_26 ?_
        refine J_ifne (tgt := 43) d_M_trim_27 (by decide) (by rw [show ((26 * (a : Int)) + f a - 1).toNat = 26 * a + (m - 1) by omega, hd _ (by omega)]; exact ⟨by have := dgh8 T (m - 1); omega, by have := dgh8 T (m - 1); omega⟩) (fun c27 => ?_) (fun c27 => ?_)
        · refine J_pick (lv' := []) [] rfl ?_
          exact lab43 f (by
            rw [hf]
            congr 2
            by_cases q : m = 0
            · omega
            · have h3 : (lnw 28 T : Int) = m := by
                apply Int.le_antisymm (by omega)
                apply Int.not_lt.mp
                intro h4
                have h5 := hd (m - 1) (by omega)
                have h6 := dgt_zeroL (w := 28) (n := T) (i := m - 1) (by decide) (by omega)
                have h7 : hh ((26 * (a : Int)) + f a - 1).toNat = 0 := by
                  rw [show ((26 * (a : Int)) + f a - 1).toNat = 26 * a + (m - 1) by omega, h5, dg_nat8, h6]; rfl
                omega
              omega)
        · refine J_aload_n 0 d_M_trim_30 rfl rfl ?_
          refine gf_M_13 (by omega) (by rw [va_up_ne _ _ (by decide)]; exact hO) rfl d_M_trim_31 ?_
          refine J_iload_n 1 d_M_trim_34 rfl rfl ?_
          refine J_dup2 d_M_trim_35 rfl rfl ?_
          refine J_iaload 0 rfl (by omega) (by rw [va_up_self]) (by omega) d_M_trim_36 ?_
          refine J_topi (r := f a) (congrArg (fun q => iI (f q)) (by omega)) ?_
          refine J_iconst d_M_trim_37 ?_
          refine J_isub d_M_trim_38 ?_
          refine J_iastore 0 rfl (by omega) (by rw [va_up_self]) (by omega) d_M_trim_39 ?_
          refine J_eqF (F2 := va_up (va_up F 100 (.inl (g 0, 33, .inl (aI f)))) 100 (.inl (g 0, 33, .inl (aI (va_up f a ((f a) - 1)))))) (congrArg (fun q => va_up (va_up F 100 (.inl (g 0, 33, .inl (aI f)))) 100 (.inl (g 0, 33, .inl (aI (va_up f q ((f a) - 1)))))) (by omega : (a : Int).toNat = a)) ?_
          refine J_eqF (F2 := va_up F 100 (.inl (g 0, 33, .inl (aI (va_up f a ((f a) - 1)))))) (up_in0) ?_
          refine J_goto (tgt := 0) d_M_trim_40 (by decide) ?_
          have hm2 : m - 1 ≤ c ∧ lnw 28 T ≤ m - 1 := by
            refine ⟨by omega, ?_⟩
            apply Nat.le_of_not_lt
            intro q
            have h3 := dgt_top (w := 28) (n := T) (m := m - 1) (by decide) (by omega)
            apply h3
            have h4 := hd (m - 1) (by omega)
            rw [show ((26 * (a : Int)) + f a - 1).toNat = 26 * a + (m - 1) by omega, h4, dg_nat8] at c27
            omega
          refine ih (m - 1) (va_up f a ((f a) - 1)) hm2 ?_ (by omega)
          · rw [fa, hf, up_in0]
            congr 1
            omega
  refine J_eqF (F2 := va_up F 100 (.inl (g 0, 33, .inl (aI ll)))) (up_same1 hL) ?_
  exact loop0 (c + 1) c ll (by omega) (up_same1 hc.1) (Nat.lt_succ_self _)
