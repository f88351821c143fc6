/-! the Model: rounded digits, fixed places, zeros cut off -/

/-- u / d in units of 10^-p, rounded -/
def rdq (u d : Nat) (p : Int) : Nat := rnd (u * 10 ^ p.toNat / (d * 10 ^ (-p).toNat)) (u * 10 ^ p.toNat % (d * 10 ^ (-p).toNat)) (d * 10 ^ (-p).toNat)
theorem rdq_ratio {u d u' d' : Nat} (hd : 0 < d) (hd' : 0 < d') (h : u * d' = u' * d) (p : Int) : rdq u d p = rdq u' d' p := by
  refine rnd_ratio (Nat.mul_pos hd (Nat.pow_pos (by decide))) (Nat.mul_pos hd' (Nat.pow_pos (by decide))) ?_
  have : u * 10 ^ p.toNat * (d' * 10 ^ (-p).toNat) = u * d' * (10 ^ p.toNat * 10 ^ (-p).toNat) := by ac_rfl
  rw [this, h]; ac_rfl
theorem u176 {u p k : Nat} (h : u < 2 ^ 176) (hp : p ≤ k) : u * 10 ^ p < 2 ^ 176 * 10 ^ k := Nat.mul_lt_mul_of_lt_of_le h (Nat.pow_le_pow_right (by decide) hp) (Nat.pow_pos (by decide))
theorem l176 {u p : Nat} (h : u < 2 ^ 176) (hp : p ≤ 90) : lnw 28 (u * 10 ^ p) ≤ 20 := (lnw_le (by decide)).mpr (Nat.lt_of_lt_of_le (u176 h hp) (by decide +kernel))
theorem rdq_b {u d : Nat} {p : Int} (h : u < 2 ^ 176) (hp : -90 ≤ p ∧ p ≤ 90) : rdq u d p < 10 ^ 150 := by
  have h1 := rnd_le (u * 10 ^ p.toNat / (d * 10 ^ (-p).toNat)) (u * 10 ^ p.toNat % (d * 10 ^ (-p).toNat)) (d * 10 ^ (-p).toNat)
  have h2 := Nat.div_le_self (u * 10 ^ p.toNat) (d * 10 ^ (-p).toNat)
  have h3 := u176 h (p := p.toNat) (k := 90) (by omega)
  have h4 : (2 : Nat) ^ 176 * 10 ^ 60 < 10 ^ 120 := by decide +kernel
  unfold rdq
  omega
theorem ndm_120 {q l : Nat} (h : q < 10 ^ 150) (hl : l ≤ 100) : ndm 10 l q ≤ 150 := ndm_b (by decide) h (by omega)
/-- with p places behind the point there are no more than 40 digits before it -/
theorem rdq_40 {u d p : Nat} (hd : 0 < d) (h : u < 2 ^ 130 * d) : ndm 10 (p + 1) (rdq u d p) ≤ p + 40 := by
  refine ndm_b (by decide) ?_ (by omega)
  have h1 := rnd_le (u * 10 ^ p / d) (u * 10 ^ p % d) d
  have e : rdq u d p = rnd (u * 10 ^ p / d) (u * 10 ^ p % d) d := by
    unfold rdq
    rw [show ((p : Int)).toNat = p from rfl, show (-(p : Int)).toNat = 0 by omega, Nat.pow_zero, Nat.mul_one]
  rw [e]
  have h2 : u * 10 ^ p / d < 2 ^ 130 * 10 ^ p := by
    rw [Nat.div_lt_iff_lt_mul hd, Nat.mul_right_comm]
    exact Nat.mul_lt_mul_of_pos_right h (Nat.pow_pos (by decide))
  have h3 : 2 ^ 130 * 10 ^ p < 10 ^ (p + 40) := by
    rw [Nat.pow_add, Nat.mul_comm]
    exact Nat.mul_lt_mul_of_pos_left (by decide) (Nat.pow_pos (by decide))
  omega
def dotT (p : Nat) (sh : Int) : List Nat := if 0 < p ∨ sh ≠ 0 then [46] else []
def fixA (q p pa : Nat) : List Nat := sgr (dgv 10 q) 0 3 pa p (ndm 10 (p + 1) q - p)
def fixB (q p : Nat) : List Nat := sgr (dgv 10 q) 0 3 0 0 p
def fixT (q p pa : Nat) (sh : Int) : List Nat := fixA q p pa ++ dotT p sh ++ fixB q p
theorem dotT_y {p : Nat} {sh : Int} (h : 0 < p ∨ sh ≠ 0) : dotT p sh = [46] := if_pos h
theorem dotT_n {p : Nat} {sh : Int} (h : ¬(0 < p ∨ sh ≠ 0)) : dotT p sh = [] := if_neg h
def dot0 (p : Nat) : List Nat := if p = 0 then [] else [46]
theorem dot0_z : dot0 0 = [] := rfl
theorem dot0_p {p : Nat} (h : 0 < p) : dot0 p = [46] := if_neg (by omega)
theorem dotT_l (p : Nat) (sh : Int) : okT 1 (dotT p sh) := by
  unfold dotT
  split
  · exact okT_one (by decide)
  · exact okT_nil 1
theorem ndm_ge {b l q : Nat} : l ≤ ndm b l q := by unfold ndm; split <;> omega
/-- zeros at the end, at most n -/
def zr : Nat → Nat → Nat
  | _, 0 => 0
  | q, n + 1 => if q % 10 = 0 then zr (q / 10) n + 1 else 0
theorem zr_le : ∀ n q, zr q n ≤ n := by
  intro n
  induction n with
  | zero => intro q; exact Nat.le_refl _
  | succ n ih =>
    intro q
    show (if q % 10 = 0 then zr (q / 10) n + 1 else 0) ≤ n + 1
    have := ih (q / 10)
    split <;> omega
theorem zr_eq : ∀ n q i, i ≤ n → (∀ k, k < i → dgv 10 q k = 0) → (i = n ∨ dgv 10 q i ≠ 0) → zr q n = i := by
  intro n
  induction n with
  | zero => intro q i h1 _ _; show 0 = i; omega
  | succ n ih =>
    intro q i h1 h2 h3
    show (if q % 10 = 0 then zr (q / 10) n + 1 else 0) = i
    by_cases h : q % 10 = 0
    · rw [if_pos h]
      have hi : i ≠ 0 := fun w => by
        subst w
        rcases h3 with q2 | q2
        · omega
        · exact q2 (by rw [dgv_z]; exact h)
      rw [ih (q / 10) (i - 1) (by omega) (fun k hk => by rw [← dgv_s]; exact h2 _ (by omega)) ?_]
      · omega
      · rcases h3 with q2 | q2
        · exact Or.inl (by omega)
        · right; rw [← dgv_s, show i - 1 + 1 = i by omega]; exact q2
    · rw [if_neg h]
      apply Classical.byContradiction
      intro hne
      exact h (by rw [← dgv_z 10]; exact h2 0 (by omega))
/-- the places without zeros at the end, and without a point then at the end -/
def cutP (q p : Nat) : List Nat := if zr q p = p then [] else 46 :: sgr (dgv 10 q) 0 3 0 (zr q p) (p - zr q p)
theorem sgr_last {dv : Nat → Nat} {cap : Int} {grp to : Nat} : ∀ n, sgr dv cap grp 0 to (n + 1) = sgr dv cap grp 0 (to + 1) n ++ [chd cap (dv to)] := by
  intro n
  induction n with
  | zero => rw [sgr_n (by omega)]; rfl
  | succ n ih =>
    rw [sgr_n (by omega), ih, sgr_n (by omega)]
    rw [show to + 1 + n = to + (n + 1) by omega]; rfl
theorem mtx_pre {h : Nat → Int} {w x : List Nat} (hm : mtx h (w ++ x)) : mtx h w := by
  intro j hj
  have h1 := hm j (by rw [List.length_append]; omega)
  rw [h1, List.getD_eq_getElem?_getD, List.getD_eq_getElem?_getD, List.getElem?_append_left hj]
theorem mtx_at {h : Nat → Int} {w x : List Nat} {c : Nat} (hm : mtx h (w ++ c :: x)) : h w.length = (c : Int) := by
  have h1 := hm w.length (by rw [List.length_append, List.length_cons]; omega)
  rw [h1, List.getD_eq_getElem?_getD, List.getElem?_append_right (Nat.le_refl _), Nat.sub_self]; rfl
theorem mtx_in {h : Nat → Int} {a b x : List Nat} {k : Nat} (hm : mtx h (a ++ b ++ x)) (hk : a.length ≤ k) (hk2 : k < (a ++ b).length) : ∃ c, c ∈ b ∧ h k = (c : Int) := by
  have h1 := mtx_pre hm k hk2
  rw [List.length_append] at hk2
  have h3 : k - a.length < b.length := by omega
  rw [List.getD_eq_getElem?_getD, List.getElem?_append_right hk, List.getElem?_eq_getElem h3] at h1
  exact ⟨_, List.getElem_mem h3, h1⟩
theorem sgr_46a {dv : Nat → Nat} {cap : Int} {grp pt to : Nat} (hd : ∀ k, dv k < 16) (hp : pt ≠ 46) : ∀ n c, c ∈ sgr dv cap grp pt to n → c ≠ 46 := by
  intro n
  induction n with
  | zero => intro c hc; exact absurd hc List.not_mem_nil
  | succ n ih =>
    intro c hc
    have hb := chd_b (cap := cap) (hd (to + n))
    by_cases h : 0 < pt ∧ 0 < n ∧ n % grp = 0
    · rw [sgr_y h] at hc
      rcases List.mem_cons.mp hc with q | q
      · omega
      · rcases List.mem_cons.mp q with q | q
        · omega
        · exact ih c q
    · rw [sgr_n h] at hc
      rcases List.mem_cons.mp hc with q | q
      · omega
      · exact ih c q
theorem sgr_46 {dv : Nat → Nat} {cap : Int} {grp pt to : Nat} (hd : ∀ k, dv k < 16) (hp : pt ≠ 46) (hp2 : pt < 128) (n : Nat) : ∀ c, c ∈ sgr dv cap grp pt to n → c ≠ 46 ∧ c < 128 := fun c hc => ⟨sgr_46a hd hp n c hc, (okT_sgr hd hp2 n).2 c hc⟩
theorem chd_d {q k : Nat} : chd 0 (dgv 10 q k) = 48 + dgv 10 q k := if_pos (dgv_10 q k)
theorem fixB_last {q p i : Nat} (h : i < p) : sgr (dgv 10 q) 0 3 0 i (p - i) = sgr (dgv 10 q) 0 3 0 (i + 1) (p - (i + 1)) ++ [48 + dgv 10 q i] := by
  rw [show p - i = p - (i + 1) + 1 by omega, sgr_last, chd_d]
theorem len4 {a b c d : List Nat} : (a ++ b ++ c ++ d).length = a.length + b.length + c.length + d.length := by simp only [List.length_append]
set_option maxRecDepth 100000 in
set_option maxHeartbeats 4000000 in
theorem c_M_moved2 {l : Launch} (hfl : l.flags = flags0) {D : va_G} {g : Nat → ClassId} {ad : Nat → Nat} {N : Nat} {F : Nat → va_E} {hh ll f : Nat → Int} {v : UInt64} {V : Nat → Nat} {br : Nat → Nat} {x y : Nat} {n : Int}
    (hN : 109 ≤ N) (hO : F 98 = oM ad f v) (hB : F 99 = aB g hh) (hL : F 100 = aL g ll) (hR : reg br hh ll V) (hzz : okB br) (hx : V 31 = x) (hy : V 28 = y) (hxb : x < 2 ^ 176) (hyc : y < 2 ^ 176) (he : -90 ≤ n ∧ n ≤ 90) :
    JC l y_M_moved b_M_moved 2 (Option.none : Option Jvm.ClassFile.FieldType) rm_M_moved (0, 0) D jCl (jTys g) ad N F [.ref (ad 98), .int (iI n)] (jv ad N (fun F' => ∃ hh' ll' : Nat → Int, reg (va_up (va_up br 22 0) 23 0) hh' ll' (va_up (va_up V 22 (x * 10 ^ n.toNat)) 23 (y * 10 ^ (-n).toNat)) ∧ F' = va_up (va_up F 99 (aB g hh')) 100 (aL g ll'))) := by
  refine JC.go hfl (own := "NumberTowerModel") (lv := [(0, .ref (ad 98)), (1, .int (iI n))]) rfl (by decide +kernel) (Nat.le_of_ble_eq_true rfl) rfl (fun A => ?_)
  refine J_aload_n 0 d_M_moved_0 rfl rfl ?_
  refine J_bipush d_M_moved_1 (i8_ok (by decide)) ?_
  refine J_bipush d_M_moved_3 (i8_ok (by decide)) ?_
  refine J_callVv cw_M_58 nh_M_copy pn_M_copy rfl rfl (by omega) hO (As := [.int (iI 31), .int (iI 22)]) (rest := []) rfl (Nat.le_of_ble_eq_true rfl) ⟨by decide, by decide⟩ rfl ⟨by decide, by decide⟩ d_M_moved_5 (k_M_copy hfl (a := 31) (b := 22) (hh := hh) (ll := ll) (V := V) (br := br) (hN := hN) (hO := hO) (hB := hB) (hL := hL) (hR := hR) (ha := by omega) (hb := by omega) (hxa := hx) (bra := (hzz.2 31 (by decide) (by decide)))) (fun  F1 hq => ?_)
  obtain ⟨bh1, bl2, hR3, eF1⟩ := hq
  refine J_eqF (F2 := va_up (va_up F 99 (.inl (g 0, 858, .inl (aI bh1)))) 100 (.inl (g 0, 33, .inl (aI bl2)))) eF1 ?_
  refine J_aload_n 0 d_M_moved_8 rfl rfl ?_
  refine J_bipush d_M_moved_9 (i8_ok (by decide)) ?_
  refine J_bipush d_M_moved_11 (i8_ok (by decide)) ?_
  refine J_callVv cw_M_58 nh_M_copy pn_M_copy rfl rfl (by omega) (by rw [va_up_ne _ _ (by decide), va_up_ne _ _ (by decide)]; exact hO) (As := [.int (iI 28), .int (iI 23)]) (rest := []) rfl (Nat.le_of_ble_eq_true rfl) ⟨by decide, by decide⟩ rfl ⟨by decide, by decide⟩ d_M_moved_13 (k_M_copy hfl (a := 28) (b := 23) (hh := bh1) (ll := bl2) (V := va_up V 22 x) (br := va_up br 22 0) (hN := hN) (hO := (by rw [va_up_ne _ _ (by decide), va_up_ne _ _ (by decide)]; exact hO)) (hB := (by rw [va_up_ne _ _ (by decide), va_up_self])) (hL := (by rw [va_up_self])) (hR := hR3) (ha := by omega) (hb := by omega) (hxa := ((va_up_ne _ _ (by decide)).trans hy)) (bra := ((va_up_ne _ _ (by decide)).trans (hzz.2 28 (by decide) (by decide))))) (fun  F2 hq => ?_)
  obtain ⟨bh6, bl7, hR8, eF2⟩ := hq
  refine J_eqF (F2 := va_up (va_up F 99 (.inl (g 0, 858, .inl (aI bh6)))) 100 (.inl (g 0, 33, .inl (aI bl7)))) (eF2.trans (Eq.trans (congrArg (fun qF : Nat → va_E => va_up qF 100 (.inl (g 0, 33, .inl (aI bl7)))) (up_in1 (by decide))) (up_in0))) ?_
  refine J_iload_n 1 d_M_moved_16 rfl rfl ?_
  refine J_ifle (tgt := 30) d_M_moved_17 (by decide) ⟨by omega, by omega⟩ (fun c17 => ?_) (fun c17 => ?_)
  · refine J_aload_n 0 d_M_moved_30 rfl rfl ?_
    refine J_bipush d_M_moved_31 (i8_ok (by decide)) ?_
    refine J_iload_n 1 d_M_moved_33 rfl rfl ?_
    refine J_ineg d_M_moved_34 ?_
    refine J_callVv cw_M_208 nh_M_tens pn_M_tens rfl rfl (by omega) (by rw [va_up_ne _ _ (by decide), va_up_ne _ _ (by decide)]; exact hO) (As := [.int (iI 23), .int (iI (-n))]) (rest := []) rfl (Nat.le_of_ble_eq_true rfl) ⟨by decide, by decide⟩ rfl ⟨by decide, by decide⟩ d_M_moved_35 (k_M_tens hfl (a := 23) (n := -n) (hh := bh6) (ll := bl7) (V := va_up (va_up V 22 x) 23 y) (br := va_up (va_up br 22 0) 23 0) (hN := hN) (hO := (by rw [va_up_ne _ _ (by decide), va_up_ne _ _ (by decide)]; exact hO)) (hB := (by rw [va_up_ne _ _ (by decide), va_up_self])) (hL := (by rw [va_up_self])) (hR := hR8) (ha := by omega) (hxa := (va_up_self ..)) (bra := (va_up_self ..)) (hn := ⟨by omega, by omega⟩) (hT := Nat.le_trans (l176 hyc (by omega)) (by decide))) (fun  F3 hq => ?_)
    obtain ⟨bh11, bl12, hR13, eF3⟩ := hq
    refine J_eqF (F2 := va_up (va_up F 99 (.inl (g 0, 858, .inl (aI bh11)))) 100 (.inl (g 0, 33, .inl (aI bl12)))) (eF3.trans (Eq.trans (congrArg (fun qF : Nat → va_E => va_up qF 100 (.inl (g 0, 33, .inl (aI bl12)))) (up_in1 (by decide))) (up_in0))) ?_
    have hR16 := (congrArg (fun q => reg q _ _ _) up_in0).mp hR13
    have hR17 := (congrArg (fun qq : Nat → Nat => reg _ _ _ (qq)) (up_in0)).mp hR16
    have hR18 := (congrArg (fun qq : Nat => reg _ _ _ (va_up (va_up V 22 qq) 23 (y * 10 ^ ((-n).toNat)))) (show (x) = (x * 10 ^ n.toNat) from e10 (by omega))).mp hR17
    refine J_vret rfl d_M_moved_38 ⟨by decide, by decide⟩ ?_
    exact ⟨rfl, rfl, rfl, _, _, hR18, rfl⟩
  · refine J_aload_n 0 d_M_moved_20 rfl rfl ?_
    refine J_bipush d_M_moved_21 (i8_ok (by decide)) ?_
    refine J_iload_n 1 d_M_moved_23 rfl rfl ?_
    refine J_callVv cw_M_208 nh_M_tens pn_M_tens rfl rfl (by omega) (by rw [va_up_ne _ _ (by decide), va_up_ne _ _ (by decide)]; exact hO) (As := [.int (iI 22), .int (iI n)]) (rest := []) rfl (Nat.le_of_ble_eq_true rfl) ⟨by decide, by decide⟩ rfl ⟨by decide, by decide⟩ d_M_moved_24 (k_M_tens hfl (a := 22) (n := n) (hh := bh6) (ll := bl7) (V := va_up (va_up V 22 x) 23 y) (br := va_up (va_up br 22 0) 23 0) (hN := hN) (hO := (by rw [va_up_ne _ _ (by decide), va_up_ne _ _ (by decide)]; exact hO)) (hB := (by rw [va_up_ne _ _ (by decide), va_up_self])) (hL := (by rw [va_up_self])) (hR := hR8) (ha := by omega) (hxa := ((va_up_ne _ _ (by decide)).trans (va_up_self ..))) (bra := ((va_up_ne _ _ (by decide)).trans (va_up_self ..))) (hn := ⟨by omega, by omega⟩) (hT := Nat.le_trans (l176 hxb (by omega)) (by decide))) (fun  F4 hq => ?_)
    obtain ⟨bh19, bl20, hR21, eF4⟩ := hq
    refine J_eqF (F2 := va_up (va_up F 99 (.inl (g 0, 858, .inl (aI bh19)))) 100 (.inl (g 0, 33, .inl (aI bl20)))) (eF4.trans (Eq.trans (congrArg (fun qF : Nat → va_E => va_up qF 100 (.inl (g 0, 33, .inl (aI bl20)))) (up_in1 (by decide))) (up_in0))) ?_
    have hR24 := (congrArg (fun q => reg q _ _ _) (up_in1 (by decide))).mp hR21
    have hR25 := (congrArg (fun qq : Nat → Nat => reg _ _ _ (qq)) (up_in1 (by decide))).mp hR24
    refine J_goto (tgt := 38) d_M_moved_27 (by decide) ?_
    have hR26 := (congrArg (fun qq : Nat => reg _ _ _ (va_up (va_up V 22 (x * 10 ^ n.toNat)) 23 qq)) (show (y) = (y * 10 ^ (-n).toNat) from e10 (by omega))).mp hR25
    refine J_vret rfl d_M_moved_38 ⟨by decide, by decide⟩ ?_
    exact ⟨rfl, rfl, rfl, _, _, hR26, rfl⟩
set_option maxRecDepth 100000 in
set_option maxHeartbeats 4000000 in
theorem c_M_rounded {l : Launch} (hfl : l.flags = flags0) {D : va_G} {g : Nat → ClassId} {ad : Nat → Nat} {N : Nat} {F : Nat → va_E} {hh ll f : Nat → Int} {v : UInt64} {V : Nat → Nat} {br : Nat → Nat} {x y : Nat} {n : Int} {lst : Nat} {dh : Nat → Int}
    (hN : 109 ≤ N) (hO : F 98 = oM ad f v) (hB : F 99 = aB g hh) (hL : F 100 = aL g ll) (hR : reg br hh ll V) (hzz : okB br) (h106 : F 106 = .inl (g 0, 200, .inl (aI dh))) (hx : V 31 = x) (hy : V 28 = y) (hxb : x < 2 ^ 176) (hyb : y < 2 ^ 168) (hy0 : 0 < y) (hn60 : -90 ≤ n ∧ n ≤ 90) (hlst : lst ≤ 100) :
    JC l y_M_rounded b_M_rounded 3 (Option.none : Option Jvm.ClassFile.FieldType) rm_M_rounded (0, 0) D jCl (jTys g) ad N F [.ref (ad 98), .int (iI n), .int (iI (lst : Int))] (jv ad N (fun F' => ∃ (hh' ll' dh' : Nat → Int) (W : Nat → Nat), reg br hh' ll' W ∧ (∀ k, k < 16 ∨ (27 ≤ k ∧ k ≠ 29 ∧ k ≠ 32) → W k = V k) ∧ (∀ k, k < ndm 10 lst (rdq x y n) → dh' k = ((dgv 10 (rdq x y n) k : Nat) : Int)) ∧ F' = va_up (va_up (va_up (va_up F 98 (oM ad (va_up f 16 ((ndm 10 lst (rdq x y n) : Nat) : Int)) v)) 99 (aB g hh')) 100 (aL g ll')) 106 (.inl (g 0, 200, .inl (aI dh'))))) := by
  refine JC.go hfl (own := "NumberTowerModel") (lv := [(0, .ref (ad 98)), (1, .int (iI n)), (2, .int (iI (lst : Int)))]) rfl (by decide +kernel) (Nat.le_of_ble_eq_true rfl) rfl (fun A => ?_)
  refine J_aload_n 0 d_M_rounded_0 rfl rfl ?_
  refine J_iload_n 1 d_M_rounded_1 rfl rfl ?_
  refine J_callVv cw_M_288 nh_M_moved pn_M_moved rfl rfl (by omega) hO (As := [.int (iI n)]) (rest := []) rfl (Nat.le_of_ble_eq_true rfl) ⟨by decide, by decide⟩ rfl ⟨by decide, by decide⟩ d_M_rounded_2 (c_M_moved2 hfl (x := x) (y := y) (n := n) (hh := hh) (ll := ll) (f := f) (v := v) (V := V) (br := br) hN hO hB hL hR hzz (hx) (hy) hxb (Nat.lt_trans hyb (by decide)) hn60) (fun  F1 hq => ?_)
  obtain ⟨bh27, bl28, hR29, eF1⟩ := hq
  refine J_eqF (F2 := va_up (va_up F 99 (.inl (g 0, 858, .inl (aI bh27)))) 100 (.inl (g 0, 33, .inl (aI bl28)))) eF1 ?_
  refine J_aload_n 0 d_M_rounded_5 rfl rfl ?_
  refine J_bipush d_M_rounded_6 (i8_ok (by decide)) ?_
  refine J_bipush d_M_rounded_8 (i8_ok (by decide)) ?_
  refine J_callVv cw_M_211 nh_M_even pn_M_even rfl rfl (by omega) (by rw [va_up_ne _ _ (by decide), va_up_ne _ _ (by decide)]; exact hO) (As := [.int (iI 22), .int (iI 23)]) (rest := []) rfl (Nat.le_of_ble_eq_true rfl) ⟨by decide, by decide⟩ rfl ⟨by decide, by decide⟩ d_M_rounded_10 (c_M_even hfl (u := 22) (d := 23) (x := x * 10 ^ n.toNat) (y := y * 10 ^ (-n).toNat) (hh := bh27) (ll := bl28) (f := f) (v := v) (V := va_up (va_up V 22 (x * 10 ^ n.toNat)) 23 (y * 10 ^ (-n).toNat)) (br := va_up (va_up br 22 0) 23 0) hN (by rw [va_up_ne _ _ (by decide), va_up_ne _ _ (by decide)]; exact hO) (by rw [va_up_ne _ _ (by decide), va_up_self]) (by rw [va_up_self]) hR29 (hzz_up (hzz_up hzz)) (by omega) (by omega) ((va_up_ne _ _ (by decide)).trans (va_up_self ..)) (va_up_self ..) (((va_up_ne _ _ (by decide)).trans (va_up_self ..))) ((va_up_self ..)) (Nat.ne_of_gt (Nat.mul_pos hy0 (Nat.pow_pos (by decide)))) (l176 hxb (by omega)) (l176 (Nat.lt_trans hyb (by decide)) (by omega))) (fun  F2 hq => ?_)
  obtain ⟨bh30, bl31, W32, hR33, hf34, h35, eF2⟩ := hq
  refine J_eqF (F2 := va_up (va_up F 99 (.inl (g 0, 858, .inl (aI bh30)))) 100 (.inl (g 0, 33, .inl (aI bl31)))) (eF2.trans (Eq.trans (congrArg (fun qF : Nat → va_E => va_up qF 100 (.inl (g 0, 33, .inl (aI bl31)))) (up_in1 (by decide))) (up_in0))) ?_
  have hR36 := (reg_w1 (hzz.1 _) (reg_w1 ((hzz_up hzz).1 _) hR33))
  refine J_aload_n 0 d_M_rounded_13 rfl rfl ?_
  refine J_bipush d_M_rounded_14 (i8_ok (by decide)) ?_
  refine J_bipush d_M_rounded_16 (i8_ok (by decide)) ?_
  refine J_iload_n 2 d_M_rounded_18 rfl rfl ?_
  refine J_callVv cw_M_294 nh_M_spell pn_M_spell rfl rfl (by omega) (by rw [va_up_ne _ _ (by decide), va_up_ne _ _ (by decide)]; exact hO) (As := [.int (iI 24), .int (iI 10), .int (iI (lst : Int))]) (rest := []) rfl (Nat.le_of_ble_eq_true rfl) ⟨by decide, by decide⟩ rfl ⟨by decide, by decide⟩ d_M_rounded_19 (c_M_spell hfl (dh := dh) (a := 24) (b := 10) (lst := lst) (x := rdq x y n) (hh := bh30) (ll := bl31) (f := f) (v := v) (V := W32) (br := br) hN (by rw [va_up_ne _ _ (by decide), va_up_ne _ _ (by decide)]; exact hO) (by rw [va_up_ne _ _ (by decide), va_up_self]) (by rw [va_up_self]) hR36 hzz (by rw [va_up_ne _ _ (by decide), va_up_ne _ _ (by decide)]; exact h106) (by omega) (by omega) (hzz.2 24 (by decide) (by decide)) (h35) (by decide) (Nat.le_trans (ndm_120 (rdq_b hxb hn60) hlst) (by decide))) (fun  F3 hq => ?_)
  obtain ⟨bh38, bl39, dh37, hR40, hdddh37, eF3⟩ := hq
  refine J_eqF (F2 := va_up (va_up (va_up (va_up F 99 (.inl (g 0, 858, .inl (aI bh38)))) 100 (.inl (g 0, 33, .inl (aI bl39)))) 98 (oM ad (va_up f 16 ((ndm 10 lst (rdq x y n) : Nat) : Int)) v)) 106 (.inl (g 0, 200, .inl (aI dh37)))) (eF3.trans (Eq.trans (congrArg (fun qF : Nat → va_E => va_up qF 106 (.inl (g 0, 200, .inl (aI dh37)))) (congrArg (fun qF : Nat → va_E => va_up qF 100 (.inl (g 0, 33, .inl (aI bl39)))) (up_in2 (by decide) (by decide)))) (congrArg (fun qF : Nat → va_E => va_up qF 106 (.inl (g 0, 200, .inl (aI dh37)))) (up_in1 (by decide))))) ?_
  refine J_eqF (F2 := va_up (va_up (va_up (va_up F 98 (oM ad (va_up f 16 ((ndm 10 lst (rdq x y n) : Nat) : Int)) v)) 99 (.inl (g 0, 858, .inl (aI bh38)))) 100 (.inl (g 0, 33, .inl (aI bl39)))) 106 (.inl (g 0, 200, .inl (aI dh37)))) (Eq.trans (congrArg (fun qq : Nat → va_E => va_up qq 106 (.inl (g 0, 200, .inl (aI dh37)))) (up_cm (by decide))) (congrArg (fun qq : Nat → va_E => va_up (va_up qq 100 (.inl (g 0, 33, .inl (aI bl39)))) 106 (.inl (g 0, 200, .inl (aI dh37)))) (up_cm (by decide)))) ?_
  refine J_vret rfl d_M_rounded_22 ⟨by decide, by decide⟩ ?_
  exact ⟨rfl, rfl, rfl, _, _, _, _, hR40, (fun k hk => ((show (va_up W32 29 0) k = W32 k from by rw [va_up_ne _ _ (by omega)]).trans ((hf34 k (by omega) (by omega) (by omega) (by omega)).trans (show (va_up (va_up V 22 (x * 10 ^ n.toNat)) 23 (y * 10 ^ (-n).toNat)) k = V k from by rw [va_up_ne _ _ (by omega), va_up_ne _ _ (by omega)])))), hdddh37, rfl⟩
set_option maxRecDepth 100000 in
set_option maxHeartbeats 4000000 in
theorem c_M_sayFixed {l : Launch} (hfl : l.flags = flags0) {D : va_G} {g : Nat → ClassId} {ad : Nat → Nat} {N : Nat} {F : Nat → va_E} {hh ll f : Nat → Int} {v : UInt64} {V : Nat → Nat} {br : Nat → Nat} {dh tt : Nat → Int} {w : List Nat} {x y p pa : Nat} {sh : Int}
    (hN : 109 ≤ N) (hO : F 98 = oM ad f v) (hB : F 99 = aB g hh) (hL : F 100 = aL g ll) (hR : reg br hh ll V) (hzz : okB br) (h106 : F 106 = .inl (g 0, 200, .inl (aI dh))) (h107 : F 107 = .inl (g 0, 260, .inl (aI tt))) (hmt : mtx tt w) (hf18 : f 18 = (w.length : Int)) (hx : V 31 = x) (hy : V 28 = y) (hxb : x < 2 ^ 176) (hyb : y < 2 ^ 168) (hy0 : 0 < y) (hxy : x < 2 ^ 130 * y) (hp : p ≤ 40) (hpa : f 27 = (pa : Int)) (hpab : pa < 128) (hsh : f 24 = sh) (hshb : sh = 0 ∨ sh = 1) (hwl : w.length ≤ 10) :
    JC l y_M_sayFixed b_M_sayFixed 2 (Option.none : Option Jvm.ClassFile.FieldType) rm_M_sayFixed (0, 0) D jCl (jTys g) ad N F [.ref (ad 98), .int (iI (p : Int))] (jv ad N (fun F' => ∃ (hh' ll' f' dh' tt' : Nat → Int) (W : Nat → Nat), reg br hh' ll' W ∧ (∀ k, k < 16 ∨ (27 ≤ k ∧ k ≠ 29 ∧ k ≠ 32) → W k = V k) ∧ (∀ j, j ≠ 16 → j ≠ 18 → f' j = f j) ∧ f' 18 = ((w ++ fixT (rdq x y (p : Int)) p pa sh).length : Int) ∧ mtx tt' (w ++ fixT (rdq x y (p : Int)) p pa sh) ∧ F' = va_up (va_up (va_up (va_up (va_up F 98 (oM ad f' v)) 99 (aB g hh')) 100 (aL g ll')) 106 (.inl (g 0, 200, .inl (aI dh')))) 107 (.inl (g 0, 260, .inl (aI tt'))))) := by
  refine JC.go hfl (own := "NumberTowerModel") (lv := [(0, .ref (ad 98)), (1, .int (iI (p : Int)))]) rfl (by decide +kernel) (Nat.le_of_ble_eq_true rfl) rfl (fun A => ?_)
  refine J_aload_n 0 d_M_sayFixed_0 rfl rfl ?_
  refine J_iload_n 1 d_M_sayFixed_1 rfl rfl ?_
  refine J_iload_n 1 d_M_sayFixed_2 rfl rfl ?_
  refine J_iconst d_M_sayFixed_3 ?_
  refine J_iadd d_M_sayFixed_4 ?_
  refine J_callVv cw_M_348 nh_M_rounded pn_M_rounded rfl rfl (by omega) hO (As := [.int (iI (p : Int)), .int (iI ((p : Int) + 1))]) (rest := []) rfl (Nat.le_of_ble_eq_true rfl) ⟨by decide, by decide⟩ rfl ⟨by decide, by decide⟩ d_M_sayFixed_5 (c_M_rounded hfl (x := x) (y := y) (n := (p : Int)) (lst := p + 1) (dh := dh) (hh := hh) (ll := ll) (f := f) (v := v) (V := V) (br := br) hN hO hB hL hR hzz h106 (hx) (hy) hxb hyb hy0 ⟨by omega, by omega⟩ (by omega)) (fun  F1 hq => ?_)
  obtain ⟨bh41, bl42, dh43, W44, hR45, hW46, hdd47, eF1⟩ := hq
  refine J_eqF (F2 := va_up (va_up (va_up (va_up F 98 (oM ad (va_up f 16 ((ndm 10 (p + 1) (rdq x y (p : Int)) : Nat) : Int)) v)) 99 (.inl (g 0, 858, .inl (aI bh41)))) 100 (.inl (g 0, 33, .inl (aI bl42)))) 106 (.inl (g 0, 200, .inl (aI dh43)))) eF1 ?_
  obtain ⟨q, hq⟩ : ∃ q, q = rdq x y (p : Int) := ⟨_, rfl⟩
  have hnm := rdq_40 (p := p) hy0 hxy
  rw [← hq] at hnm hdd47
  have hge : p + 1 ≤ ndm 10 (p + 1) q := ndm_ge
  obtain ⟨nq, hnq⟩ : ∃ n, n = ndm 10 (p + 1) q - p := ⟨_, rfl⟩
  have hdv : ∀ k, k < p + nq → dh43 k = ((dgv 10 q k : Nat) : Int) ∧ dgv 10 q k < 16 := fun k hk => ⟨hdd47 k (by omega), dgv_16 _ _⟩
  refine J_eqF (F2 := va_up (va_up (va_up (va_up F 98 (oM ad (va_up f 16 ((p : Int) + (nq : Int))) v)) 99 (.inl (g 0, 858, .inl (aI bh41)))) 100 (.inl (g 0, 33, .inl (aI bl42)))) 106 (.inl (g 0, 200, .inl (aI dh43)))) (congrArg (fun qq : Int => va_up (va_up (va_up (va_up F 98 (oM ad (va_up f 16 qq) v)) 99 (.inl (g 0, 858, .inl (aI bh41)))) 100 (.inl (g 0, 33, .inl (aI bl42)))) 106 (.inl (g 0, 200, .inl (aI dh43)))) (show ((ndm 10 (p + 1) (rdq x y (p : Int)) : Nat) : Int) = ((p : Int) + (nq : Int)) from by rw [← hq]; omega)) ?_
  refine J_aload_n 0 d_M_sayFixed_8 rfl rfl ?_
  refine J_aload_n 0 d_M_sayFixed_9 rfl rfl ?_
  refine gf_M_268 (by omega) (by rw [va_up_ne _ _ (by decide), va_up_ne _ _ (by decide), va_up_ne _ _ (by decide), va_up_self]) rfl d_M_sayFixed_10 ?_
  refine J_topi (r := ((p : Int) + (nq : Int))) (congrArg iI (va_up_self ..)) ?_
  refine J_iconst d_M_sayFixed_13 ?_
  refine J_isub d_M_sayFixed_14 ?_
  refine J_iload_n 1 d_M_sayFixed_15 rfl rfl ?_
  refine J_iconst d_M_sayFixed_16 ?_
  refine J_aload_n 0 d_M_sayFixed_17 rfl rfl ?_
  refine gf_M_339 (by omega) (by rw [va_up_ne _ _ (by decide), va_up_ne _ _ (by decide), va_up_ne _ _ (by decide), va_up_self]) rfl d_M_sayFixed_18 ?_
  refine J_topi (r := (pa : Int)) (congrArg iI ((va_up_ne _ _ (by decide)).trans hpa)) ?_
  refine J_iconst d_M_sayFixed_21 ?_
  refine J_callVv cw_M_300 nh_M_sayDigits pn_M_sayDigits rfl rfl (by omega) (by rw [va_up_ne _ _ (by decide), va_up_ne _ _ (by decide), va_up_ne _ _ (by decide), va_up_self]) (As := [.int (iI (((p : Int) + (nq : Int)) - 1)), .int (iI (p : Int)), .int (iI 3), .int (iI (pa : Int)), .int (iI 0)]) (rest := []) rfl (Nat.le_of_ble_eq_true rfl) ⟨by decide, by decide⟩ rfl ⟨by decide, by decide⟩ d_M_sayFixed_22 (c_M_sayDigits hfl (f := va_up f 16 ((p : Int) + (nq : Int))) (v := v) (tt := tt) (w := w) (dh := dh43) (dv := dgv 10 q) (cap := 0) (fro := ((p : Int) + (nq : Int)) - 1) (grp := 3) (pt := pa) (to := p) (n := nq) hN (by rw [va_up_ne _ _ (by decide), va_up_ne _ _ (by decide), va_up_ne _ _ (by decide), va_up_self]) (by rw [va_up_ne _ _ (by decide), va_up_ne _ _ (by decide), va_up_ne _ _ (by decide), va_up_ne _ _ (by decide)]; exact h107) hmt ((va_up_ne _ _ (by decide)).trans hf18) (by rw [va_up_self]) hdv (by omega) (by omega) (by omega) (by omega) (Or.inl rfl) (by omega)) (fun  F2 hq => ?_)
  obtain ⟨tx48, hmt49, eF2⟩ := hq
  refine J_eqF (F2 := va_up (va_up (va_up (va_up (va_up F 98 (oM ad (va_up (va_up f 16 ((p : Int) + (nq : Int))) 18 (((w ++ sgr (dgv 10 q) 0 3 pa p nq).length : Nat) : Int)) v)) 99 (.inl (g 0, 858, .inl (aI bh41)))) 100 (.inl (g 0, 33, .inl (aI bl42)))) 106 (.inl (g 0, 200, .inl (aI dh43)))) 107 (.inl (g 0, 260, .inl (aI tx48)))) (eF2.trans (up_in4 (by decide) (by decide) (by decide) (by decide))) ?_
  have hl1 := (sgr_l (dv := dgv 10 q) (cap := 0) (grp := 3) (pt := pa) (to := p) nq).1
  refine J_iload_n 1 d_M_sayFixed_25 rfl rfl ?_
  refine J_ifgt (tgt := 36) d_M_sayFixed_26 (by decide) ⟨by omega, by omega⟩ (fun c26 => ?_) (fun c26 => ?_)
  · refine J_aload_n 0 d_M_sayFixed_36 rfl rfl ?_
    refine J_bipush d_M_sayFixed_37 (i8_ok (by decide)) ?_
    refine J_callVv cw_M_278 nh_M_say pn_M_say rfl rfl (by omega) (by rw [va_up_ne _ _ (by decide), va_up_ne _ _ (by decide), va_up_ne _ _ (by decide), va_up_ne _ _ (by decide), va_up_self]) (As := [.int (iI 46)]) (rest := []) rfl (Nat.le_of_ble_eq_true rfl) ⟨by decide, by decide⟩ rfl ⟨by decide, by decide⟩ d_M_sayFixed_39 (c_M_say hfl (f := va_up (va_up f 16 ((p : Int) + (nq : Int))) 18 (((w ++ sgr (dgv 10 q) 0 3 pa p nq).length : Nat) : Int)) (v := v) (tt := tx48) (w := (w ++ sgr (dgv 10 q) 0 3 pa p nq)) (c := (46 : Nat)) hN (by rw [va_up_ne _ _ (by decide), va_up_ne _ _ (by decide), va_up_ne _ _ (by decide), va_up_ne _ _ (by decide), va_up_self]) (by rw [va_up_self]) hmt49 (va_up_self ..) (by simp only [List.length_append, List.length_cons, List.length_nil]; omega)) (fun  F3 hq => ?_)
    obtain ⟨tx50, hmt51, eF3⟩ := hq
    refine J_eqF (F2 := va_up (va_up (va_up (va_up (va_up F 98 (oM ad (va_up (va_up f 16 ((p : Int) + (nq : Int))) 18 ((((w ++ sgr (dgv 10 q) 0 3 pa p nq) ++ [(46 : Nat)]).length : Nat) : Int)) v)) 99 (.inl (g 0, 858, .inl (aI bh41)))) 100 (.inl (g 0, 33, .inl (aI bl42)))) 106 (.inl (g 0, 200, .inl (aI dh43)))) 107 (.inl (g 0, 260, .inl (aI tx50)))) ((eF3.trans (congrArg (fun qq : Nat → Int => va_up (va_up (va_up (va_up (va_up (va_up (va_up F 98 (oM ad (va_up (va_up f 16 ((p : Int) + (nq : Int))) 18 (((w ++ sgr (dgv 10 q) 0 3 pa p nq).length : Nat) : Int)) v)) 99 (.inl (g 0, 858, .inl (aI bh41)))) 100 (.inl (g 0, 33, .inl (aI bl42)))) 106 (.inl (g 0, 200, .inl (aI dh43)))) 107 (.inl (g 0, 260, .inl (aI tx48)))) 107 (.inl (g 0, 260, .inl (aI tx50)))) 98 (oM ad qq v)) (up_in0))).trans (Eq.trans (congrArg (fun qF : Nat → va_E => va_up qF 98 (oM ad (va_up (va_up f 16 ((p : Int) + (nq : Int))) 18 ((((w ++ sgr (dgv 10 q) 0 3 pa p nq) ++ [(46 : Nat)]).length : Nat) : Int)) v)) (up_in0)) (up_in4 (by decide) (by decide) (by decide) (by decide)))) ?_
    refine J_aload_n 0 d_M_sayFixed_42 rfl rfl ?_
    refine J_iload_n 1 d_M_sayFixed_43 rfl rfl ?_
    refine J_iconst d_M_sayFixed_44 ?_
    refine J_isub d_M_sayFixed_45 ?_
    refine J_iconst d_M_sayFixed_46 ?_
    refine J_iconst d_M_sayFixed_47 ?_
    refine J_iconst d_M_sayFixed_48 ?_
    refine J_iconst d_M_sayFixed_49 ?_
    refine J_callVv cw_M_300 nh_M_sayDigits pn_M_sayDigits rfl rfl (by omega) (by rw [va_up_ne _ _ (by decide), va_up_ne _ _ (by decide), va_up_ne _ _ (by decide), va_up_ne _ _ (by decide), va_up_self]) (As := [.int (iI ((p : Int) - 1)), .int (iI 0), .int (iI 3), .int (iI 0), .int (iI 0)]) (rest := []) rfl (Nat.le_of_ble_eq_true rfl) ⟨by decide, by decide⟩ rfl ⟨by decide, by decide⟩ d_M_sayFixed_50 (c_M_sayDigits hfl (f := va_up (va_up f 16 ((p : Int) + (nq : Int))) 18 ((((w ++ sgr (dgv 10 q) 0 3 pa p nq) ++ [(46 : Nat)]).length : Nat) : Int)) (v := v) (tt := tx50) (w := ((w ++ sgr (dgv 10 q) 0 3 pa p nq) ++ [(46 : Nat)])) (dh := dh43) (dv := dgv 10 q) (cap := 0) (fro := (p : Int) - 1) (grp := 3) (pt := 0) (to := 0) (n := p) hN (by rw [va_up_ne _ _ (by decide), va_up_ne _ _ (by decide), va_up_ne _ _ (by decide), va_up_ne _ _ (by decide), va_up_self]) (by rw [va_up_self]) hmt51 (va_up_self ..) (by rw [va_up_ne _ _ (by decide), va_up_self]) (fun k hk => hdv k (by omega)) (by omega) (by omega) (by omega) (by omega) (Or.inl rfl) (by simp only [List.length_append, List.length_cons, List.length_nil]; omega)) (fun  F4 hq => ?_)
    obtain ⟨tx52, hmt53, eF4⟩ := hq
    refine J_eqF (F2 := va_up (va_up (va_up (va_up (va_up F 98 (oM ad (va_up (va_up f 16 ((p : Int) + (nq : Int))) 18 (((((w ++ sgr (dgv 10 q) 0 3 pa p nq) ++ [(46 : Nat)]) ++ sgr (dgv 10 q) 0 3 0 0 p).length : Nat) : Int)) v)) 99 (.inl (g 0, 858, .inl (aI bh41)))) 100 (.inl (g 0, 33, .inl (aI bl42)))) 106 (.inl (g 0, 200, .inl (aI dh43)))) 107 (.inl (g 0, 260, .inl (aI tx52)))) ((eF4.trans (congrArg (fun qq : Nat → Int => va_up (va_up (va_up (va_up (va_up (va_up (va_up F 98 (oM ad (va_up (va_up f 16 ((p : Int) + (nq : Int))) 18 ((((w ++ sgr (dgv 10 q) 0 3 pa p nq) ++ [(46 : Nat)]).length : Nat) : Int)) v)) 99 (.inl (g 0, 858, .inl (aI bh41)))) 100 (.inl (g 0, 33, .inl (aI bl42)))) 106 (.inl (g 0, 200, .inl (aI dh43)))) 107 (.inl (g 0, 260, .inl (aI tx50)))) 107 (.inl (g 0, 260, .inl (aI tx52)))) 98 (oM ad qq v)) (up_in0))).trans (Eq.trans (congrArg (fun qF : Nat → va_E => va_up qF 98 (oM ad (va_up (va_up f 16 ((p : Int) + (nq : Int))) 18 (((((w ++ sgr (dgv 10 q) 0 3 pa p nq) ++ [(46 : Nat)]) ++ sgr (dgv 10 q) 0 3 0 0 p).length : Nat) : Int)) v)) (up_in0)) (up_in4 (by decide) (by decide) (by decide) (by decide)))) ?_
    have ehmt54 : (((w ++ sgr (dgv 10 q) 0 3 pa p nq) ++ [(46 : Nat)]) ++ sgr (dgv 10 q) 0 3 0 0 p) = w ++ fixT (rdq x y (p : Int)) p pa sh := by rw [← hq]; unfold fixT fixA fixB; rw [← hnq, dotT_y (show 0 < p ∨ sh ≠ 0 by omega)]; simp only [List.append_assoc]
    have hmt54 : mtx tx52 (w ++ fixT (rdq x y (p : Int)) p pa sh) := ehmt54 ▸ hmt53
    refine J_eqF (F2 := va_up (va_up (va_up (va_up (va_up F 98 (oM ad (va_up (va_up f 16 ((p : Int) + (nq : Int))) 18 ((w ++ fixT (rdq x y (p : Int)) p pa sh).length : Int)) v)) 99 (.inl (g 0, 858, .inl (aI bh41)))) 100 (.inl (g 0, 33, .inl (aI bl42)))) 106 (.inl (g 0, 200, .inl (aI dh43)))) 107 (.inl (g 0, 260, .inl (aI tx52)))) (congrArg (fun qq : Int => va_up (va_up (va_up (va_up (va_up F 98 (oM ad (va_up (va_up f 16 ((p : Int) + (nq : Int))) 18 qq) v)) 99 (.inl (g 0, 858, .inl (aI bh41)))) 100 (.inl (g 0, 33, .inl (aI bl42)))) 106 (.inl (g 0, 200, .inl (aI dh43)))) 107 (.inl (g 0, 260, .inl (aI tx52)))) (show (((((w ++ sgr (dgv 10 q) 0 3 pa p nq) ++ [(46 : Nat)]) ++ sgr (dgv 10 q) 0 3 0 0 p).length : Nat) : Int) = ((w ++ fixT (rdq x y (p : Int)) p pa sh).length : Int) from by rw [ehmt54])) ?_
    refine J_vret rfl d_M_sayFixed_53 ⟨by decide, by decide⟩ ?_
    refine ⟨rfl, rfl, rfl, bh41, bl42, (va_up (va_up f 16 ((p : Int) + (nq : Int))) 18 ((w ++ fixT (rdq x y (p : Int)) p pa sh).length : Int)), dh43, tx52, W44, hR45, ?_, ?_, (va_up_self ..), hmt54, rfl⟩
    · exact (fun k hk => ((show (W44) k = W44 k from by rfl).trans ((hW46 k (by omega)).trans (show (V) k = V k from by rfl))))
    · exact (fun j h1 h2 => by rw [va_up_ne _ _ h2, va_up_ne _ _ h1])
  · refine J_aload_n 0 d_M_sayFixed_29 rfl rfl ?_
    refine gf_M_327 (by omega) (by rw [va_up_ne _ _ (by decide), va_up_ne _ _ (by decide), va_up_ne _ _ (by decide), va_up_ne _ _ (by decide), va_up_self]) rfl d_M_sayFixed_30 ?_
    refine J_topi (r := sh) (congrArg iI ((va_up_ne _ _ (by decide)).trans ((va_up_ne _ _ (by decide)).trans hsh))) ?_
    refine J_ifeq (tgt := 42) d_M_sayFixed_33 (by decide) ⟨by omega, by omega⟩ (fun c33 => ?_) (fun c33 => ?_)
    · refine J_aload_n 0 d_M_sayFixed_42 rfl rfl ?_
      refine J_iload_n 1 d_M_sayFixed_43 rfl rfl ?_
      refine J_iconst d_M_sayFixed_44 ?_
      refine J_isub d_M_sayFixed_45 ?_
      refine J_iconst d_M_sayFixed_46 ?_
      refine J_iconst d_M_sayFixed_47 ?_
      refine J_iconst d_M_sayFixed_48 ?_
      refine J_iconst d_M_sayFixed_49 ?_
      refine J_callVv cw_M_300 nh_M_sayDigits pn_M_sayDigits rfl rfl (by omega) (by rw [va_up_ne _ _ (by decide), va_up_ne _ _ (by decide), va_up_ne _ _ (by decide), va_up_ne _ _ (by decide), va_up_self]) (As := [.int (iI ((p : Int) - 1)), .int (iI 0), .int (iI 3), .int (iI 0), .int (iI 0)]) (rest := []) rfl (Nat.le_of_ble_eq_true rfl) ⟨by decide, by decide⟩ rfl ⟨by decide, by decide⟩ d_M_sayFixed_50 (c_M_sayDigits hfl (f := va_up (va_up f 16 ((p : Int) + (nq : Int))) 18 (((w ++ sgr (dgv 10 q) 0 3 pa p nq).length : Nat) : Int)) (v := v) (tt := tx48) (w := (w ++ sgr (dgv 10 q) 0 3 pa p nq)) (dh := dh43) (dv := dgv 10 q) (cap := 0) (fro := (p : Int) - 1) (grp := 3) (pt := 0) (to := 0) (n := p) hN (by rw [va_up_ne _ _ (by decide), va_up_ne _ _ (by decide), va_up_ne _ _ (by decide), va_up_ne _ _ (by decide), va_up_self]) (by rw [va_up_self]) hmt49 (va_up_self ..) (by rw [va_up_ne _ _ (by decide), va_up_self]) (fun k hk => hdv k (by omega)) (by omega) (by omega) (by omega) (by omega) (Or.inl rfl) (by simp only [List.length_append, List.length_cons, List.length_nil]; omega)) (fun  F5 hq => ?_)
      obtain ⟨tx55, hmt56, eF5⟩ := hq
      refine J_eqF (F2 := va_up (va_up (va_up (va_up (va_up F 98 (oM ad (va_up (va_up f 16 ((p : Int) + (nq : Int))) 18 ((((w ++ sgr (dgv 10 q) 0 3 pa p nq) ++ sgr (dgv 10 q) 0 3 0 0 p).length : Nat) : Int)) v)) 99 (.inl (g 0, 858, .inl (aI bh41)))) 100 (.inl (g 0, 33, .inl (aI bl42)))) 106 (.inl (g 0, 200, .inl (aI dh43)))) 107 (.inl (g 0, 260, .inl (aI tx55)))) ((eF5.trans (congrArg (fun qq : Nat → Int => va_up (va_up (va_up (va_up (va_up (va_up (va_up F 98 (oM ad (va_up (va_up f 16 ((p : Int) + (nq : Int))) 18 (((w ++ sgr (dgv 10 q) 0 3 pa p nq).length : Nat) : Int)) v)) 99 (.inl (g 0, 858, .inl (aI bh41)))) 100 (.inl (g 0, 33, .inl (aI bl42)))) 106 (.inl (g 0, 200, .inl (aI dh43)))) 107 (.inl (g 0, 260, .inl (aI tx48)))) 107 (.inl (g 0, 260, .inl (aI tx55)))) 98 (oM ad qq v)) (up_in0))).trans (Eq.trans (congrArg (fun qF : Nat → va_E => va_up qF 98 (oM ad (va_up (va_up f 16 ((p : Int) + (nq : Int))) 18 ((((w ++ sgr (dgv 10 q) 0 3 pa p nq) ++ sgr (dgv 10 q) 0 3 0 0 p).length : Nat) : Int)) v)) (up_in0)) (up_in4 (by decide) (by decide) (by decide) (by decide)))) ?_
      have ehmt57 : ((w ++ sgr (dgv 10 q) 0 3 pa p nq) ++ sgr (dgv 10 q) 0 3 0 0 p) = w ++ fixT (rdq x y (p : Int)) p pa sh := by rw [← hq]; unfold fixT fixA fixB; rw [← hnq, dotT_n (show ¬(0 < p ∨ sh ≠ 0) by omega)]; simp only [List.append_assoc, List.nil_append]
      have hmt57 : mtx tx55 (w ++ fixT (rdq x y (p : Int)) p pa sh) := ehmt57 ▸ hmt56
      refine J_eqF (F2 := va_up (va_up (va_up (va_up (va_up F 98 (oM ad (va_up (va_up f 16 ((p : Int) + (nq : Int))) 18 ((w ++ fixT (rdq x y (p : Int)) p pa sh).length : Int)) v)) 99 (.inl (g 0, 858, .inl (aI bh41)))) 100 (.inl (g 0, 33, .inl (aI bl42)))) 106 (.inl (g 0, 200, .inl (aI dh43)))) 107 (.inl (g 0, 260, .inl (aI tx55)))) (congrArg (fun qq : Int => va_up (va_up (va_up (va_up (va_up F 98 (oM ad (va_up (va_up f 16 ((p : Int) + (nq : Int))) 18 qq) v)) 99 (.inl (g 0, 858, .inl (aI bh41)))) 100 (.inl (g 0, 33, .inl (aI bl42)))) 106 (.inl (g 0, 200, .inl (aI dh43)))) 107 (.inl (g 0, 260, .inl (aI tx55)))) (show ((((w ++ sgr (dgv 10 q) 0 3 pa p nq) ++ sgr (dgv 10 q) 0 3 0 0 p).length : Nat) : Int) = ((w ++ fixT (rdq x y (p : Int)) p pa sh).length : Int) from by rw [ehmt57])) ?_
      refine J_vret rfl d_M_sayFixed_53 ⟨by decide, by decide⟩ ?_
      refine ⟨rfl, rfl, rfl, bh41, bl42, (va_up (va_up f 16 ((p : Int) + (nq : Int))) 18 ((w ++ fixT (rdq x y (p : Int)) p pa sh).length : Int)), dh43, tx55, W44, hR45, ?_, ?_, (va_up_self ..), hmt57, rfl⟩
      · exact (fun k hk => ((show (W44) k = W44 k from by rfl).trans ((hW46 k (by omega)).trans (show (V) k = V k from by rfl))))
      · exact (fun j h1 h2 => by rw [va_up_ne _ _ h2, va_up_ne _ _ h1])
    · refine J_aload_n 0 d_M_sayFixed_36 rfl rfl ?_
      refine J_bipush d_M_sayFixed_37 (i8_ok (by decide)) ?_
      refine J_callVv cw_M_278 nh_M_say pn_M_say rfl rfl (by omega) (by rw [va_up_ne _ _ (by decide), va_up_ne _ _ (by decide), va_up_ne _ _ (by decide), va_up_ne _ _ (by decide), va_up_self]) (As := [.int (iI 46)]) (rest := []) rfl (Nat.le_of_ble_eq_true rfl) ⟨by decide, by decide⟩ rfl ⟨by decide, by decide⟩ d_M_sayFixed_39 (c_M_say hfl (f := va_up (va_up f 16 ((p : Int) + (nq : Int))) 18 (((w ++ sgr (dgv 10 q) 0 3 pa p nq).length : Nat) : Int)) (v := v) (tt := tx48) (w := (w ++ sgr (dgv 10 q) 0 3 pa p nq)) (c := (46 : Nat)) hN (by rw [va_up_ne _ _ (by decide), va_up_ne _ _ (by decide), va_up_ne _ _ (by decide), va_up_ne _ _ (by decide), va_up_self]) (by rw [va_up_self]) hmt49 (va_up_self ..) (by simp only [List.length_append, List.length_cons, List.length_nil]; omega)) (fun  F6 hq => ?_)
      obtain ⟨tx58, hmt59, eF6⟩ := hq
      refine J_eqF (F2 := va_up (va_up (va_up (va_up (va_up F 98 (oM ad (va_up (va_up f 16 ((p : Int) + (nq : Int))) 18 ((((w ++ sgr (dgv 10 q) 0 3 pa p nq) ++ [(46 : Nat)]).length : Nat) : Int)) v)) 99 (.inl (g 0, 858, .inl (aI bh41)))) 100 (.inl (g 0, 33, .inl (aI bl42)))) 106 (.inl (g 0, 200, .inl (aI dh43)))) 107 (.inl (g 0, 260, .inl (aI tx58)))) ((eF6.trans (congrArg (fun qq : Nat → Int => va_up (va_up (va_up (va_up (va_up (va_up (va_up F 98 (oM ad (va_up (va_up f 16 ((p : Int) + (nq : Int))) 18 (((w ++ sgr (dgv 10 q) 0 3 pa p nq).length : Nat) : Int)) v)) 99 (.inl (g 0, 858, .inl (aI bh41)))) 100 (.inl (g 0, 33, .inl (aI bl42)))) 106 (.inl (g 0, 200, .inl (aI dh43)))) 107 (.inl (g 0, 260, .inl (aI tx48)))) 107 (.inl (g 0, 260, .inl (aI tx58)))) 98 (oM ad qq v)) (up_in0))).trans (Eq.trans (congrArg (fun qF : Nat → va_E => va_up qF 98 (oM ad (va_up (va_up f 16 ((p : Int) + (nq : Int))) 18 ((((w ++ sgr (dgv 10 q) 0 3 pa p nq) ++ [(46 : Nat)]).length : Nat) : Int)) v)) (up_in0)) (up_in4 (by decide) (by decide) (by decide) (by decide)))) ?_
      refine J_aload_n 0 d_M_sayFixed_42 rfl rfl ?_
      refine J_iload_n 1 d_M_sayFixed_43 rfl rfl ?_
      refine J_iconst d_M_sayFixed_44 ?_
      refine J_isub d_M_sayFixed_45 ?_
      refine J_iconst d_M_sayFixed_46 ?_
      refine J_iconst d_M_sayFixed_47 ?_
      refine J_iconst d_M_sayFixed_48 ?_
      refine J_iconst d_M_sayFixed_49 ?_
      refine J_callVv cw_M_300 nh_M_sayDigits pn_M_sayDigits rfl rfl (by omega) (by rw [va_up_ne _ _ (by decide), va_up_ne _ _ (by decide), va_up_ne _ _ (by decide), va_up_ne _ _ (by decide), va_up_self]) (As := [.int (iI ((p : Int) - 1)), .int (iI 0), .int (iI 3), .int (iI 0), .int (iI 0)]) (rest := []) rfl (Nat.le_of_ble_eq_true rfl) ⟨by decide, by decide⟩ rfl ⟨by decide, by decide⟩ d_M_sayFixed_50 (c_M_sayDigits hfl (f := va_up (va_up f 16 ((p : Int) + (nq : Int))) 18 ((((w ++ sgr (dgv 10 q) 0 3 pa p nq) ++ [(46 : Nat)]).length : Nat) : Int)) (v := v) (tt := tx58) (w := ((w ++ sgr (dgv 10 q) 0 3 pa p nq) ++ [(46 : Nat)])) (dh := dh43) (dv := dgv 10 q) (cap := 0) (fro := (p : Int) - 1) (grp := 3) (pt := 0) (to := 0) (n := p) hN (by rw [va_up_ne _ _ (by decide), va_up_ne _ _ (by decide), va_up_ne _ _ (by decide), va_up_ne _ _ (by decide), va_up_self]) (by rw [va_up_self]) hmt59 (va_up_self ..) (by rw [va_up_ne _ _ (by decide), va_up_self]) (fun k hk => hdv k (by omega)) (by omega) (by omega) (by omega) (by omega) (Or.inl rfl) (by simp only [List.length_append, List.length_cons, List.length_nil]; omega)) (fun  F7 hq => ?_)
      obtain ⟨tx60, hmt61, eF7⟩ := hq
      refine J_eqF (F2 := va_up (va_up (va_up (va_up (va_up F 98 (oM ad (va_up (va_up f 16 ((p : Int) + (nq : Int))) 18 (((((w ++ sgr (dgv 10 q) 0 3 pa p nq) ++ [(46 : Nat)]) ++ sgr (dgv 10 q) 0 3 0 0 p).length : Nat) : Int)) v)) 99 (.inl (g 0, 858, .inl (aI bh41)))) 100 (.inl (g 0, 33, .inl (aI bl42)))) 106 (.inl (g 0, 200, .inl (aI dh43)))) 107 (.inl (g 0, 260, .inl (aI tx60)))) ((eF7.trans (congrArg (fun qq : Nat → Int => va_up (va_up (va_up (va_up (va_up (va_up (va_up F 98 (oM ad (va_up (va_up f 16 ((p : Int) + (nq : Int))) 18 ((((w ++ sgr (dgv 10 q) 0 3 pa p nq) ++ [(46 : Nat)]).length : Nat) : Int)) v)) 99 (.inl (g 0, 858, .inl (aI bh41)))) 100 (.inl (g 0, 33, .inl (aI bl42)))) 106 (.inl (g 0, 200, .inl (aI dh43)))) 107 (.inl (g 0, 260, .inl (aI tx58)))) 107 (.inl (g 0, 260, .inl (aI tx60)))) 98 (oM ad qq v)) (up_in0))).trans (Eq.trans (congrArg (fun qF : Nat → va_E => va_up qF 98 (oM ad (va_up (va_up f 16 ((p : Int) + (nq : Int))) 18 (((((w ++ sgr (dgv 10 q) 0 3 pa p nq) ++ [(46 : Nat)]) ++ sgr (dgv 10 q) 0 3 0 0 p).length : Nat) : Int)) v)) (up_in0)) (up_in4 (by decide) (by decide) (by decide) (by decide)))) ?_
      have ehmt62 : (((w ++ sgr (dgv 10 q) 0 3 pa p nq) ++ [(46 : Nat)]) ++ sgr (dgv 10 q) 0 3 0 0 p) = w ++ fixT (rdq x y (p : Int)) p pa sh := by rw [← hq]; unfold fixT fixA fixB; rw [← hnq, dotT_y (show 0 < p ∨ sh ≠ 0 by omega)]; simp only [List.append_assoc]
      have hmt62 : mtx tx60 (w ++ fixT (rdq x y (p : Int)) p pa sh) := ehmt62 ▸ hmt61
      refine J_eqF (F2 := va_up (va_up (va_up (va_up (va_up F 98 (oM ad (va_up (va_up f 16 ((p : Int) + (nq : Int))) 18 ((w ++ fixT (rdq x y (p : Int)) p pa sh).length : Int)) v)) 99 (.inl (g 0, 858, .inl (aI bh41)))) 100 (.inl (g 0, 33, .inl (aI bl42)))) 106 (.inl (g 0, 200, .inl (aI dh43)))) 107 (.inl (g 0, 260, .inl (aI tx60)))) (congrArg (fun qq : Int => va_up (va_up (va_up (va_up (va_up F 98 (oM ad (va_up (va_up f 16 ((p : Int) + (nq : Int))) 18 qq) v)) 99 (.inl (g 0, 858, .inl (aI bh41)))) 100 (.inl (g 0, 33, .inl (aI bl42)))) 106 (.inl (g 0, 200, .inl (aI dh43)))) 107 (.inl (g 0, 260, .inl (aI tx60)))) (show (((((w ++ sgr (dgv 10 q) 0 3 pa p nq) ++ [(46 : Nat)]) ++ sgr (dgv 10 q) 0 3 0 0 p).length : Nat) : Int) = ((w ++ fixT (rdq x y (p : Int)) p pa sh).length : Int) from by rw [ehmt62])) ?_
      refine J_vret rfl d_M_sayFixed_53 ⟨by decide, by decide⟩ ?_
      refine ⟨rfl, rfl, rfl, bh41, bl42, (va_up (va_up f 16 ((p : Int) + (nq : Int))) 18 ((w ++ fixT (rdq x y (p : Int)) p pa sh).length : Int)), dh43, tx60, W44, hR45, ?_, ?_, (va_up_self ..), hmt62, rfl⟩
      · exact (fun k hk => ((show (W44) k = W44 k from by rfl).trans ((hW46 k (by omega)).trans (show (V) k = V k from by rfl))))
      · exact (fun j h1 h2 => by rw [va_up_ne _ _ h2, va_up_ne _ _ h1])
set_option maxRecDepth 100000 in
set_option maxHeartbeats 4000000 in
theorem c_M_cut {l : Launch} (hfl : l.flags = flags0) {D : va_G} {g : Nat → ClassId} {ad : Nat → Nat} {N : Nat} {F : Nat → va_E} {f : Nat → Int} {v : UInt64} {tt : Nat → Int} {a0 aa : List Nat} {q p : Nat}
    (hN : 109 ≤ N) (hO : F 98 = oM ad f v) (h107 : F 107 = .inl (g 0, 260, .inl (aI tt))) (hmt : mtx tt (a0 ++ aa ++ dot0 p ++ fixB q p)) (hf18 : f 18 = ((a0 ++ aa ++ dot0 p ++ fixB q p).length : Int)) (hln : (a0 ++ aa ++ dot0 p ++ fixB q p).length ≤ 250) (haa : ∀ c, c ∈ aa → c ≠ 46 ∧ c < 128) :
    JC l y_M_cut b_M_cut 3 (Option.none : Option Jvm.ClassFile.FieldType) rm_M_cut (0, 0) D jCl (jTys g) ad N F [.ref (ad 98), .int (iI (((a0.length : Nat)) : Int))] (jv ad N (fun F' => mtx tt (a0 ++ aa ++ cutP q p) ∧ F' = va_up F 98 (oM ad (va_up f 18 ((a0 ++ aa ++ cutP q p).length : Int)) v))) := by
  have hBl : (fixB q p).length = p := sgr_1 p
  have h1 := hmt
  have hl4 : (a0 ++ aa ++ dot0 p ++ fixB q p).length = (a0 ++ aa).length + (dot0 p).length + p := by rw [len4, List.length_append, hBl]
  obtain ⟨L, hL⟩ : ∃ L, L = (a0 ++ aa).length := ⟨_, rfl⟩
  have hLa : a0.length ≤ L := by rw [hL, List.length_append]; omega
  rw [← hL] at hl4
  have hlen : (p = 0 ∧ (a0 ++ aa ++ dot0 p ++ fixB q p).length = L) ∨ (0 < p ∧ (a0 ++ aa ++ dot0 p ++ fixB q p).length = L + 1 + p) := by
    by_cases h : p = 0
    · have h5 : (dot0 p).length = 0 := by rw [h]; rfl
      omega
    · have h5 : (dot0 p).length = 1 := by rw [dot0_p (by omega)]; rfl
      omega
  obtain ⟨S0, hS0⟩ : ∃ S0, S0 = (a0 ++ aa ++ dot0 p ++ fixB q p).length := ⟨_, rfl⟩
  rw [← hS0] at hl4 hlen hf18 hln
  have hA : ∀ k, a0.length ≤ k → k < L → tt k ≠ 46 := by
    intro k h2 h3
    have h4 : mtx tt (a0 ++ aa ++ (dot0 p ++ fixB q p)) := by rw [← List.append_assoc]; exact h1
    obtain ⟨c, hc, hv⟩ := mtx_in (a := a0) (b := aa) h4 h2 (by omega)
    have := (haa c hc).1
    omega
  have hrg : ∀ k, a0.length ≤ k → k < S0 → 0 ≤ tt k ∧ tt k < 128 := by
    intro k h2 h3
    have h4 : mtx tt (a0 ++ (aa ++ dot0 p ++ fixB q p) ++ []) := by rw [List.append_nil, ← List.append_assoc, ← List.append_assoc]; exact h1
    obtain ⟨c, hc, hv⟩ := mtx_in h4 h2 (by rw [← List.append_assoc, ← List.append_assoc, ← hS0]; exact h3)
    have h5 : c < 128 := by
      rcases List.mem_append.mp hc with w | w
      · rcases List.mem_append.mp w with w | w
        · exact (haa c w).2
        · unfold dot0 at w
          split at w
          · exact absurd w List.not_mem_nil
          · rw [List.mem_singleton.mp w]; decide
      · exact (okT_sgr0 (dgv_16 q) p).2 c w
    omega
  have hdot : 0 < p → tt L = 46 := by
    intro h
    have h4 : mtx tt (a0 ++ aa ++ 46 :: fixB q p) := by
      have h5 := h1
      rw [dot0_p h, List.append_assoc] at h5
      exact h5
    rw [hL]; exact mtx_at h4
  refine JC.go hfl (own := "NumberTowerModel") (lv := [(0, .ref (ad 98)), (1, .int (iI (((a0.length : Nat)) : Int)))]) rfl (by decide +kernel) (Nat.le_of_ble_eq_true rfl) rfl (fun A => ?_)
  refine J_iload_n 1 d_M_cut_0 rfl rfl ?_
  refine J_istore_n (lv' := [(2, .int (iI (((a0.length : Nat)) : Int))), (0, .ref (ad 98)), (1, .int (iI (((a0.length : Nat)) : Int)))]) d_M_cut_1 rfl (by decide) rfl ?_
  refine J_pick (lv' := [(0, .ref (ad 98)), (1, .int (iI (((a0.length : Nat)) : Int))), (2, .int (iI (((a0.length : Nat)) : Int)))]) [1, 2, 0] rfl ?_
  have loop2 : ∀ (fuel : Nat) (k : Nat) (hk : a0.length ≤ k ∧ k ≤ L) (hfu : S0 + 1 - k < fuel), J l rm_M_cut (0, 0) "NumberTowerModel" b_M_cut 3 (Option.none : Option Jvm.ClassFile.FieldType) D jCl (jTys g) A (fun _ me => me.name = y_M_cut.name) (jv ad N (fun F' => mtx tt (a0 ++ aa ++ cutP q p) ∧ F' = va_up F 98 (oM ad (va_up f 18 ((a0 ++ aa ++ cutP q p).length : Int)) v))) ad N 0 0 2 [(0, .ref (ad 98)), (1, .int (iI (((a0.length : Nat)) : Int))), (2, .int (iI (k : Int)))] [] F := by
    intro fuel
    induction fuel with
    | zero => intro k hk hfu; exact absurd hfu (Nat.not_lt_zero _)
    | succ fuel ih =>
      intro k hk hfu
      refine J_iload_n 2 d_M_cut_2 rfl rfl ?_
      refine J_aload_n 0 d_M_cut_3 rfl rfl ?_
      refine gf_M_265 (by omega) hO rfl d_M_cut_4 ?_
      refine J_topi (r := ((S0 : Nat) : Int)) (congrArg iI hf18) ?_
      refine J_if_icmpge (tgt := 27) d_M_cut_7 (by decide) ⟨by omega, by omega⟩ ⟨by omega, by omega⟩ (fun c7 => ?_) (fun c7 => ?_)
      · have hp0 : p = 0 := by omega
        refine J_iload_n 2 d_M_cut_27 rfl rfl ?_
        refine J_aload_n 0 d_M_cut_28 rfl rfl ?_
        refine gf_M_265 (by omega) hO rfl d_M_cut_29 ?_
        refine J_topi (r := ((S0 : Nat) : Int)) (congrArg iI hf18) ?_
        refine J_if_icmpne (tgt := 36) d_M_cut_32 (by decide) ⟨by omega, by omega⟩ ⟨by omega, by omega⟩ (fun c32 => ?_) (fun c32 => ?_)
        · have hkL : k = L := by
            apply Classical.byContradiction
            intro w
            exact hA k hk.1 (by omega) (by omega)
          have hp0 : 0 < p := by omega
          refine J_eqF (F2 := va_up F 98 (oM ad f v)) (up_same1 hO) ?_
          refine J_eqF (F2 := va_up F 98 (oM ad (va_up f 18 ((S0 : Nat) : Int)) v)) (congrArg (fun qq : Nat → Int => va_up F 98 (oM ad qq v)) (up_same1 (i := 18) (a := ((S0 : Nat) : Int)) (hf18))) ?_
          have loop36 : ∀ (fuel : Nat) (i : Nat) (sz : Nat) (hi : i ≤ p) (hsz : sz = L + 1 + (p - i)) (hz : ∀ k, k < i → dgv 10 q k = 0) (hmi : mtx tt (a0 ++ aa ++ 46 :: sgr (dgv 10 q) 0 3 0 i (p - i))) (hfu : p - i < fuel), J l rm_M_cut (0, 0) "NumberTowerModel" b_M_cut 3 (Option.none : Option Jvm.ClassFile.FieldType) D jCl (jTys g) A (fun _ me => me.name = y_M_cut.name) (jv ad N (fun F' => mtx tt (a0 ++ aa ++ cutP q p) ∧ F' = va_up F 98 (oM ad (va_up f 18 ((a0 ++ aa ++ cutP q p).length : Int)) v))) ad N 0 0 36 [(0, .ref (ad 98)), (1, .int (iI (((a0.length : Nat)) : Int))), (2, .int (iI (k : Int)))] [] (va_up F 98 (oM ad (va_up f 18 (sz : Int)) v)) := by
            intro fuel
            induction fuel with
            | zero => intro i sz hi hsz hz hmi hfu; exact absurd hfu (Nat.not_lt_zero _)
            | succ fuel ih =>
              intro i sz hi hsz hz hmi hfu
              have hdb := dgv_10 q i
              have hch : (i < p → tt (sz - 1) = ((48 + dgv 10 q i : Nat) : Int)) ∧ (i = p → tt (sz - 1) = 46) := by
                constructor
                · intro h
                  have h5 := hmi
                  rw [fixB_last h, ← List.cons_append, ← List.append_assoc] at h5
                  have h6 := mtx_at h5
                  rw [List.length_append, List.length_cons, sgr_1] at h6
                  rw [← h6]; congr 1; omega
                · intro h
                  rw [show sz - 1 = L by omega]; exact hdot hp0
              refine J_aload_n 0 d_M_cut_36 rfl rfl ?_
              refine gf_M_36 (by omega) (by rw [va_up_self]) rfl d_M_cut_37 ?_
              refine J_aload_n 0 d_M_cut_40 rfl rfl ?_
              refine gf_M_265 (by omega) (by rw [va_up_self]) rfl d_M_cut_41 ?_
              refine J_topi (r := (sz : Int)) (congrArg iI (va_up_self ..)) ?_
              refine J_iconst d_M_cut_44 ?_
              refine J_isub d_M_cut_45 ?_
              refine J_iaload 0 rfl (by omega) (by rw [va_up_ne _ _ (by decide)]; exact h107) (by omega) d_M_cut_46 ?_
              refine J_topi (r := tt (sz - 1)) (congrArg (fun q => iI (tt q)) (by omega)) ?_
              refine J_bipush d_M_cut_47 (i8_ok (by decide)) ?_
              refine J_if_icmpne (tgt := 65) d_M_cut_49 (by decide) ⟨by omega, by omega⟩ ⟨by omega, by omega⟩ (fun c49 => ?_) (fun c49 => ?_)
              · refine J_aload_n 0 d_M_cut_65 rfl rfl ?_
                refine J_aload_n 0 d_M_cut_66 rfl rfl ?_
                refine gf_M_265 (by omega) (by rw [va_up_self]) rfl d_M_cut_67 ?_
                refine J_topi (r := (sz : Int)) (congrArg iI (va_up_self ..)) ?_
                refine J_iconst d_M_cut_70 ?_
                refine J_isub d_M_cut_71 ?_
                refine J_iload_n 2 d_M_cut_72 rfl rfl ?_
                refine J_if_icmpne (tgt := 80) d_M_cut_73 (by decide) ⟨by omega, by omega⟩ ⟨by omega, by omega⟩ (fun c73 => ?_) (fun c73 => ?_)
                · refine J_aload_n 0 d_M_cut_80 rfl rfl ?_
                  refine gf_M_265 (by omega) (by rw [va_up_self]) rfl d_M_cut_81 ?_
                  refine J_topi (r := (sz : Int)) (congrArg iI (va_up_self ..)) ?_
                  refine pm_M_265 (by omega) (by rw [va_up_self]) d_M_cut_84 ?_
                  refine J_eqF (F2 := va_up (va_up F 98 (oM ad (va_up f 18 (sz : Int)) v)) 98 (oM ad (va_up f 18 (sz : Int)) v)) (congrArg (fun qq : Nat → Int => va_up (va_up F 98 (oM ad (va_up f 18 (sz : Int)) v)) 98 (oM ad qq v)) (up_in0)) ?_
                  refine J_eqF (F2 := va_up F 98 (oM ad (va_up f 18 (sz : Int)) v)) (up_in0) ?_
                  refine J_vret rfl d_M_cut_87 ⟨by decide, by decide⟩ ?_
                  have hip : i ≠ p := by omega
                  have hzr : zr q p = i := zr_eq p q i hi hz (Or.inr (fun w => by have := hch.1 (by omega); omega))
                  have e1 : a0 ++ aa ++ cutP q p = a0 ++ aa ++ 46 :: sgr (dgv 10 q) 0 3 0 i (p - i) := by unfold cutP; rw [hzr, if_neg hip]
                  have e2 : (a0 ++ aa ++ 46 :: sgr (dgv 10 q) 0 3 0 i (p - i)).length = sz := by rw [List.length_append, List.length_cons, sgr_1, ← hL]; omega
                  rw [e1, e2]
                  exact ⟨rfl, rfl, rfl, hmi, rfl⟩
                · refine J_iload_n 2 d_M_cut_76 rfl rfl ?_
                  refine J_goto (tgt := 84) d_M_cut_77 (by decide) ?_
                  refine pm_M_265 (by omega) (by rw [va_up_self]) d_M_cut_84 ?_
                  refine J_eqF (F2 := va_up (va_up F 98 (oM ad (va_up f 18 (sz : Int)) v)) 98 (oM ad (va_up f 18 (k : Int)) v)) (congrArg (fun qq : Nat → Int => va_up (va_up F 98 (oM ad (va_up f 18 (sz : Int)) v)) 98 (oM ad qq v)) (up_in0)) ?_
                  refine J_eqF (F2 := va_up F 98 (oM ad (va_up f 18 (k : Int)) v)) (up_in0) ?_
                  refine J_vret rfl d_M_cut_87 ⟨by decide, by decide⟩ ?_
                  have hip : i = p := by omega
                  have hzr : zr q p = i := zr_eq p q i hi hz (Or.inl hip)
                  have e1 : a0 ++ aa ++ cutP q p = a0 ++ aa := by unfold cutP; rw [hzr, if_pos hip, List.append_nil]
                  rw [e1, ← hL, ← hkL]
                  exact ⟨rfl, rfl, rfl, mtx_pre hmi, rfl⟩
              · refine J_aload_n 0 d_M_cut_52 rfl rfl ?_
                refine J_dup d_M_cut_53 rfl ?_
                refine gf_M_265 (by omega) (by rw [va_up_self]) rfl d_M_cut_54 ?_
                refine J_topi (r := (sz : Int)) (congrArg iI (va_up_self ..)) ?_
                refine J_iconst d_M_cut_57 ?_
                refine J_isub d_M_cut_58 ?_
                refine pm_M_265 (by omega) (by rw [va_up_self]) d_M_cut_59 ?_
                refine J_eqF (F2 := va_up (va_up F 98 (oM ad (va_up f 18 (sz : Int)) v)) 98 (oM ad (va_up f 18 ((sz : Int) - 1)) v)) (congrArg (fun qq : Nat → Int => va_up (va_up F 98 (oM ad (va_up f 18 (sz : Int)) v)) 98 (oM ad qq v)) (up_in0)) ?_
                refine J_eqF (F2 := va_up F 98 (oM ad (va_up f 18 ((sz : Int) - 1)) v)) (up_in0) ?_
                refine J_goto (tgt := 36) d_M_cut_62 (by decide) ?_
                refine J_eqF (F2 := va_up F 98 (oM ad (va_up f 18 ((sz - 1 : Nat) : Int)) v)) (congrArg (fun qq : Int => va_up F 98 (oM ad (va_up f 18 qq) v)) (show (sz : Int) - 1 = ((sz - 1 : Nat) : Int) from by omega)) ?_
                refine ih (i + 1) (sz - 1) ?_ ?_ ?_ ?_ ?_
                · have h9 : i ≠ p := fun w => by have := hch.2 w; omega
                  omega
                · have h9 : i ≠ p := fun w => by have := hch.2 w; omega
                  omega
                · have h9 : i ≠ p := fun w => by have := hch.2 w; omega
                  have h8 := hch.1 (by omega)
                  intro k hk
                  by_cases e : k = i
                  · subst e; omega
                  · exact hz k (by omega)
                · have h9 : i ≠ p := fun w => by have := hch.2 w; omega
                  have h5 := hmi
                  rw [fixB_last (show i < p by omega), ← List.cons_append, ← List.append_assoc] at h5
                  exact mtx_pre h5
                · have h9 : i ≠ p := fun w => by have := hch.2 w; omega
                  omega
          exact loop36 ((p - 0) + 1) 0 S0 (Nat.zero_le _) (by omega) (fun k hk => absurd hk (Nat.not_lt_zero _)) (by have h5 := hmt; rw [dot0_p hp0, List.append_assoc] at h5; exact h5) (Nat.lt_succ_self _)
        · refine J_vret rfl d_M_cut_35 ⟨by decide, by decide⟩ ?_
          have hp1 : p = 0 := by omega
          subst hp1
          have e1 : (a0 ++ aa ++ dot0 0 ++ fixB q 0) = a0 ++ aa ++ cutP q 0 := by
            show a0 ++ aa ++ [] ++ [] = a0 ++ aa ++ []
            rw [List.append_nil]
          rw [e1] at hmt hS0
          exact ⟨rfl, rfl, rfl, hmt, by rw [← hS0, ← up_same1 hf18]; exact up_same1 hO⟩
      · refine J_aload_n 0 d_M_cut_10 rfl rfl ?_
        refine gf_M_36 (by omega) hO rfl d_M_cut_11 ?_
        refine J_iload_n 2 d_M_cut_14 rfl rfl ?_
        refine J_iaload 0 rfl (by omega) h107 (by omega) d_M_cut_15 ?_
        refine J_topi (r := tt k) (congrArg (fun q => iI (tt q)) (by omega)) ?_
        have hrk := hrg k hk.1 (by omega)
        refine J_bipush d_M_cut_16 (i8_ok (by decide)) ?_
        refine J_if_icmpeq (tgt := 27) d_M_cut_18 (by decide) ⟨by omega, by omega⟩ ⟨by omega, by omega⟩ (fun c18 => ?_) (fun c18 => ?_)
        · refine J_iload_n 2 d_M_cut_27 rfl rfl ?_
          refine J_aload_n 0 d_M_cut_28 rfl rfl ?_
          refine gf_M_265 (by omega) hO rfl d_M_cut_29 ?_
          refine J_topi (r := ((S0 : Nat) : Int)) (congrArg iI hf18) ?_
          refine J_if_icmpne (tgt := 36) d_M_cut_32 (by decide) ⟨by omega, by omega⟩ ⟨by omega, by omega⟩ (fun c32 => ?_) (fun c32 => ?_)
          · have hkL : k = L := by
              apply Classical.byContradiction
              intro w
              exact hA k hk.1 (by omega) (by omega)
            have hp0 : 0 < p := by omega
            refine J_eqF (F2 := va_up F 98 (oM ad f v)) (up_same1 hO) ?_
            refine J_eqF (F2 := va_up F 98 (oM ad (va_up f 18 ((S0 : Nat) : Int)) v)) (congrArg (fun qq : Nat → Int => va_up F 98 (oM ad qq v)) (up_same1 (i := 18) (a := ((S0 : Nat) : Int)) (hf18))) ?_
            have loop36 : ∀ (fuel : Nat) (i : Nat) (sz : Nat) (hi : i ≤ p) (hsz : sz = L + 1 + (p - i)) (hz : ∀ k, k < i → dgv 10 q k = 0) (hmi : mtx tt (a0 ++ aa ++ 46 :: sgr (dgv 10 q) 0 3 0 i (p - i))) (hfu : p - i < fuel), J l rm_M_cut (0, 0) "NumberTowerModel" b_M_cut 3 (Option.none : Option Jvm.ClassFile.FieldType) D jCl (jTys g) A (fun _ me => me.name = y_M_cut.name) (jv ad N (fun F' => mtx tt (a0 ++ aa ++ cutP q p) ∧ F' = va_up F 98 (oM ad (va_up f 18 ((a0 ++ aa ++ cutP q p).length : Int)) v))) ad N 0 0 36 [(0, .ref (ad 98)), (1, .int (iI (((a0.length : Nat)) : Int))), (2, .int (iI (k : Int)))] [] (va_up F 98 (oM ad (va_up f 18 (sz : Int)) v)) := by
              intro fuel
              induction fuel with
              | zero => intro i sz hi hsz hz hmi hfu; exact absurd hfu (Nat.not_lt_zero _)
              | succ fuel ih =>
                intro i sz hi hsz hz hmi hfu
                have hdb := dgv_10 q i
                have hch : (i < p → tt (sz - 1) = ((48 + dgv 10 q i : Nat) : Int)) ∧ (i = p → tt (sz - 1) = 46) := by
                  constructor
                  · intro h
                    have h5 := hmi
                    rw [fixB_last h, ← List.cons_append, ← List.append_assoc] at h5
                    have h6 := mtx_at h5
                    rw [List.length_append, List.length_cons, sgr_1] at h6
                    rw [← h6]; congr 1; omega
                  · intro h
                    rw [show sz - 1 = L by omega]; exact hdot hp0
                refine J_aload_n 0 d_M_cut_36 rfl rfl ?_
                refine gf_M_36 (by omega) (by rw [va_up_self]) rfl d_M_cut_37 ?_
                refine J_aload_n 0 d_M_cut_40 rfl rfl ?_
                refine gf_M_265 (by omega) (by rw [va_up_self]) rfl d_M_cut_41 ?_
                refine J_topi (r := (sz : Int)) (congrArg iI (va_up_self ..)) ?_
                refine J_iconst d_M_cut_44 ?_
                refine J_isub d_M_cut_45 ?_
                refine J_iaload 0 rfl (by omega) (by rw [va_up_ne _ _ (by decide)]; exact h107) (by omega) d_M_cut_46 ?_
                refine J_topi (r := tt (sz - 1)) (congrArg (fun q => iI (tt q)) (by omega)) ?_
                refine J_bipush d_M_cut_47 (i8_ok (by decide)) ?_
                refine J_if_icmpne (tgt := 65) d_M_cut_49 (by decide) ⟨by omega, by omega⟩ ⟨by omega, by omega⟩ (fun c49 => ?_) (fun c49 => ?_)
                · refine J_aload_n 0 d_M_cut_65 rfl rfl ?_
                  refine J_aload_n 0 d_M_cut_66 rfl rfl ?_
                  refine gf_M_265 (by omega) (by rw [va_up_self]) rfl d_M_cut_67 ?_
                  refine J_topi (r := (sz : Int)) (congrArg iI (va_up_self ..)) ?_
                  refine J_iconst d_M_cut_70 ?_
                  refine J_isub d_M_cut_71 ?_
                  refine J_iload_n 2 d_M_cut_72 rfl rfl ?_
                  refine J_if_icmpne (tgt := 80) d_M_cut_73 (by decide) ⟨by omega, by omega⟩ ⟨by omega, by omega⟩ (fun c73 => ?_) (fun c73 => ?_)
                  · refine J_aload_n 0 d_M_cut_80 rfl rfl ?_
                    refine gf_M_265 (by omega) (by rw [va_up_self]) rfl d_M_cut_81 ?_
                    refine J_topi (r := (sz : Int)) (congrArg iI (va_up_self ..)) ?_
                    refine pm_M_265 (by omega) (by rw [va_up_self]) d_M_cut_84 ?_
                    refine J_eqF (F2 := va_up (va_up F 98 (oM ad (va_up f 18 (sz : Int)) v)) 98 (oM ad (va_up f 18 (sz : Int)) v)) (congrArg (fun qq : Nat → Int => va_up (va_up F 98 (oM ad (va_up f 18 (sz : Int)) v)) 98 (oM ad qq v)) (up_in0)) ?_
                    refine J_eqF (F2 := va_up F 98 (oM ad (va_up f 18 (sz : Int)) v)) (up_in0) ?_
                    refine J_vret rfl d_M_cut_87 ⟨by decide, by decide⟩ ?_
                    have hip : i ≠ p := by omega
                    have hzr : zr q p = i := zr_eq p q i hi hz (Or.inr (fun w => by have := hch.1 (by omega); omega))
                    have e1 : a0 ++ aa ++ cutP q p = a0 ++ aa ++ 46 :: sgr (dgv 10 q) 0 3 0 i (p - i) := by unfold cutP; rw [hzr, if_neg hip]
                    have e2 : (a0 ++ aa ++ 46 :: sgr (dgv 10 q) 0 3 0 i (p - i)).length = sz := by rw [List.length_append, List.length_cons, sgr_1, ← hL]; omega
                    rw [e1, e2]
                    exact ⟨rfl, rfl, rfl, hmi, rfl⟩
                  · refine J_iload_n 2 d_M_cut_76 rfl rfl ?_
                    refine J_goto (tgt := 84) d_M_cut_77 (by decide) ?_
                    refine pm_M_265 (by omega) (by rw [va_up_self]) d_M_cut_84 ?_
                    refine J_eqF (F2 := va_up (va_up F 98 (oM ad (va_up f 18 (sz : Int)) v)) 98 (oM ad (va_up f 18 (k : Int)) v)) (congrArg (fun qq : Nat → Int => va_up (va_up F 98 (oM ad (va_up f 18 (sz : Int)) v)) 98 (oM ad qq v)) (up_in0)) ?_
                    refine J_eqF (F2 := va_up F 98 (oM ad (va_up f 18 (k : Int)) v)) (up_in0) ?_
                    refine J_vret rfl d_M_cut_87 ⟨by decide, by decide⟩ ?_
                    have hip : i = p := by omega
                    have hzr : zr q p = i := zr_eq p q i hi hz (Or.inl hip)
                    have e1 : a0 ++ aa ++ cutP q p = a0 ++ aa := by unfold cutP; rw [hzr, if_pos hip, List.append_nil]
                    rw [e1, ← hL, ← hkL]
                    exact ⟨rfl, rfl, rfl, mtx_pre hmi, rfl⟩
                · refine J_aload_n 0 d_M_cut_52 rfl rfl ?_
                  refine J_dup d_M_cut_53 rfl ?_
                  refine gf_M_265 (by omega) (by rw [va_up_self]) rfl d_M_cut_54 ?_
                  refine J_topi (r := (sz : Int)) (congrArg iI (va_up_self ..)) ?_
                  refine J_iconst d_M_cut_57 ?_
                  refine J_isub d_M_cut_58 ?_
                  refine pm_M_265 (by omega) (by rw [va_up_self]) d_M_cut_59 ?_
                  refine J_eqF (F2 := va_up (va_up F 98 (oM ad (va_up f 18 (sz : Int)) v)) 98 (oM ad (va_up f 18 ((sz : Int) - 1)) v)) (congrArg (fun qq : Nat → Int => va_up (va_up F 98 (oM ad (va_up f 18 (sz : Int)) v)) 98 (oM ad qq v)) (up_in0)) ?_
                  refine J_eqF (F2 := va_up F 98 (oM ad (va_up f 18 ((sz : Int) - 1)) v)) (up_in0) ?_
                  refine J_goto (tgt := 36) d_M_cut_62 (by decide) ?_
                  refine J_eqF (F2 := va_up F 98 (oM ad (va_up f 18 ((sz - 1 : Nat) : Int)) v)) (congrArg (fun qq : Int => va_up F 98 (oM ad (va_up f 18 qq) v)) (show (sz : Int) - 1 = ((sz - 1 : Nat) : Int) from by omega)) ?_
                  refine ih (i + 1) (sz - 1) ?_ ?_ ?_ ?_ ?_
                  · have h9 : i ≠ p := fun w => by have := hch.2 w; omega
                    omega
                  · have h9 : i ≠ p := fun w => by have := hch.2 w; omega
                    omega
                  · have h9 : i ≠ p := fun w => by have := hch.2 w; omega
                    have h8 := hch.1 (by omega)
                    intro k hk
                    by_cases e : k = i
                    · subst e; omega
                    · exact hz k (by omega)
                  · have h9 : i ≠ p := fun w => by have := hch.2 w; omega
                    have h5 := hmi
                    rw [fixB_last (show i < p by omega), ← List.cons_append, ← List.append_assoc] at h5
                    exact mtx_pre h5
                  · have h9 : i ≠ p := fun w => by have := hch.2 w; omega
                    omega
            exact loop36 ((p - 0) + 1) 0 S0 (Nat.zero_le _) (by omega) (fun k hk => absurd hk (Nat.not_lt_zero _)) (by have h5 := hmt; rw [dot0_p hp0, List.append_assoc] at h5; exact h5) (Nat.lt_succ_self _)
          · refine J_vret rfl d_M_cut_35 ⟨by decide, by decide⟩ ?_
            have hp1 : p = 0 := by omega
            subst hp1
            have e1 : (a0 ++ aa ++ dot0 0 ++ fixB q 0) = a0 ++ aa ++ cutP q 0 := by
              show a0 ++ aa ++ [] ++ [] = a0 ++ aa ++ []
              rw [List.append_nil]
            rw [e1] at hmt hS0
            exact ⟨rfl, rfl, rfl, hmt, by rw [← hS0, ← up_same1 hf18]; exact up_same1 hO⟩
        · refine J_iinc (j := 2) (b := (k : Int) + 1) (lv' := [(2, .int (iI ((k : Int) + 1))), (0, .ref (ad 98)), (1, .int (iI (((a0.length : Nat)) : Int)))]) d_M_cut_21 rfl (by omega) (by decide) rfl ?_
          refine J_goto (tgt := 2) d_M_cut_24 (by decide) ?_
          refine J_pick (lv' := [(0, .ref (ad 98)), (1, .int (iI (((a0.length : Nat)) : Int))), (2, .int (iI ((k : Int) + 1)))]) [1, 2, 0] rfl ?_
          refine ih (k + 1) ?_ (by omega)
          · have h9 : k ≠ L := fun w => by
              have h8 : 0 < p := by omega
              have := hdot h8
              rw [← w] at this
              exact c18 this
            omega
  exact loop2 ((S0 + 1 - a0.length) + 1) a0.length ⟨Nat.le_refl _, hLa⟩ (Nat.lt_succ_self _)
