/-! the class reads a number: parse -/

theorem ten3_b {w : List Nat} : ∀ f q t, q ≤ w.length → q ≤ (ten3 w f q t).1 ∧ (ten3 w f q t).1 ≤ w.length ∧ (ten3 w f q t).1 ≤ q + f := by
  intro f
  induction f with
  | zero => intro q t h; exact ⟨Nat.le_refl _, h, Nat.le_refl _⟩
  | succ f ih =>
    intro q t h
    by_cases h2 : 0 ≤ dgr (chr w q) 10
    · rw [ten3_d h2]
      have h3 := dgr_pos h2
      have := ih (q + 1) (10 * t + (dgr (chr w q) 10).toNat) (by omega)
      omega
    · rw [ten3_e h2]; exact ⟨Nat.le_refl _, h, Nat.le_add_right _ _⟩
def prX (len : Nat) (o : Pr) (z : Int) (a' : Nat) (k' : Int) (u' d' : Nat) (t' : Int) : Prop := ((z = 1 ∧ a' = len) ∧ o = some (k', u', d', t')) ∨ (¬(z = 1 ∧ a' = len) ∧ o = none)
theorem prX_n {len : Nat} {o : Pr} {z : Int} {a' : Nat} {k' : Int} {u' d' : Nat} {t' : Int} (h : o = none) (hz : z = 0) : prX len o z a' k' u' d' t' := Or.inr ⟨fun w => by omega, h⟩
theorem prX_c {len : Nat} {o : Pr} {z : Int} {a' : Nat} {k' : Int} {u' d' : Nat} {t' : Int} (h : o = if a' = len then some (k', u', d', t') else none) (hz : z = 1) : prX len o z a' k' u' d' t' := by
  by_cases e : a' = len
  · rw [if_pos e] at h; exact Or.inl ⟨⟨hz, e⟩, h⟩
  · rw [if_neg e] at h; exact Or.inr ⟨fun w => e w.2, h⟩
theorem prX_b {len : Nat} {o : Pr} {z : Int} {a' : Nat} {k' : Int} {u' d' n : Nat} {t' : Int} (h : o = if 0 < n ∧ a' = len then some (k', u', d', t') else none) (hz : (z = 1 ∧ 0 < n) ∨ (z = 0 ∧ n = 0)) : prX len o z a' k' u' d' t' := by
  by_cases e : 0 < n ∧ a' = len
  · rw [if_pos e] at h; exact Or.inl ⟨⟨by omega, e.2⟩, h⟩
  · rw [if_neg e] at h; exact Or.inr ⟨fun w => e ⟨by omega, w.2⟩, h⟩
/-- the bounds of what was read -/
def prBd (o : Pr) : Prop := ∀ k u d t, o = some (k, u, d, t) → (0 ≤ k ∧ k ≤ 2) ∧ u < 2 ^ 154 ∧ d < 2 ^ 154 ∧ (k ≠ 1 → d = 1) ∧ (-5000 ≤ t ∧ t ≤ 5000)
theorem prBd_n : prBd none := fun _ _ _ _ h => by cases h
theorem prBd_s {k : Int} {u d : Nat} {t : Int} (hk : 0 ≤ k ∧ k ≤ 2) (hu : u < 2 ^ 154) (hd : d < 2 ^ 154) (h1 : k ≠ 1 → d = 1) (ht : -5000 ≤ t ∧ t ≤ 5000) : prBd (some (k, u, d, t)) := by
  intro k' u' d' t' h
  injection h with h; injection h with h1' h; injection h with h2 h; injection h with h3 h4
  subst h1' h2 h3 h4
  exact ⟨hk, hu, hd, h1, ht⟩
theorem p154 {v n : Nat} (h : v < 10 ^ n) (hn : n ≤ 40) : v < 2 ^ 154 := Nat.lt_of_lt_of_le h (Nat.le_trans (Nat.pow_le_pow_right (by decide) hn) (by decide))
theorem p154h {v n : Nat} (h : v < 16 ^ n) (hn : n ≤ 38) : v < 2 ^ 154 := Nat.lt_of_lt_of_le h (Nat.le_trans (Nat.pow_le_pow_right (by decide) hn) (by decide))
theorem ten3_t {w : List Nat} : ∀ f q t, (ten3 w f q t).2 < 10 ^ f * (t + 1) := by
  intro f
  induction f with
  | zero => intro q t; show t < 1 * (t + 1); omega
  | succ f ih =>
    intro q t
    by_cases h2 : 0 ≤ dgr (chr w q) 10
    · rw [ten3_d h2]
      have h3 := dgr_b (c := (chr w q : Int)) (r := 10)
      have h4 := ih (q + 1) (10 * t + (dgr (chr w q) 10).toNat)
      have h5 : 10 ^ f * (10 * t + (dgr (chr w q) 10).toNat + 1) ≤ 10 ^ (f + 1) * (t + 1) := by
        rw [Nat.pow_succ, Nat.mul_assoc]
        exact Nat.mul_le_mul_left _ (by omega)
      omega
    · rw [ten3_e h2]
      have : 1 * (t + 1) ≤ 10 ^ (f + 1) * (t + 1) := Nat.mul_le_mul_right _ (Nat.pow_pos (by decide))
      show t < _
      omega
theorem prE_bd {w : List Nat} {n v q m : Nat} (hn : n ≤ 41) (hv : v < 10 ^ m) (hm : m ≤ 40) : prBd (prE w n v q) := by
  unfold prE
  have ht := ten3_t (w := w) 3 (psq w q) 0
  split
  · exact prBd_n
  · split
    · refine prBd_s (by decide) (p154 hv hm) (by decide) (fun _ => rfl) ?_
      split <;> omega
    · exact prBd_n
theorem prR_bd {w : List Nat} {n m : Nat} {y : Nat × Nat × Nat} (hn : y.2.1 ≤ 41) (hv : y.2.2 < 10 ^ m) (hm : m ≤ 40) : prBd (prR w n y) := by
  unfold prR
  split
  · exact prBd_n
  · split
    · exact prE_bd hn hv hm
    · split
      · exact prBd_s (by decide) (p154 hv hm) (by decide) (fun _ => rfl) (by omega)
      · exact prBd_n
theorem psg_b (w : List Nat) : psg w ≤ 1 := by unfold psg; split <;> decide
theorem prs_bd {w : List Nat} (hl : w.length ≤ 40) (hch : ∀ c, c ∈ w → 32 ≤ c ∧ c ≤ 126) : prBd (prs w) := by
  have hpsg : psg w ≤ w.length := by
    unfold psg
    split
    · rename_i h; have := chr_lt (w := w) (p := 0) (by omega); omega
    · exact Nat.zero_le _
  have dec : ∀ p v m, p ≤ w.length → v < 10 ^ m → m ≤ p → (mdg w 10 41 p 0 v).2.2 < 10 ^ (m + (mdg w 10 41 p 0 v).2.1) ∧ m + (mdg w 10 41 p 0 v).2.1 ≤ (mdg w 10 41 p 0 v).1 ∧ (mdg w 10 41 p 0 v).1 ≤ w.length := by
    intro p v m hp hv hm
    have h1 := mdg_v (w := w) (r := 10) (m := m) (by decide) 41 p 0 v hv
    have h2 := mdg_p (w := w) (r := 10) 41 p 0 v
    have h3 := mdg_le (w := w) (r := 10) 41 p 0 v hp
    exact ⟨h1, by omega, h3⟩
  unfold prs
  split
  · obtain ⟨d1, d2, d3⟩ := dec (psg w) 0 0 hpsg (by decide) (Nat.zero_le _)
    rw [Nat.zero_add] at d1 d2
    generalize mdg w 10 41 (psg w) 0 0 = x at *
    unfold prD
    split
    · exact prBd_s (by decide) (p154 d1 (by omega)) (by decide) (fun _ => rfl) (by decide)
    · split
      · rename_i hq
        have hlt := chr_lt (w := w) (p := x.1) (by omega)
        obtain ⟨e1, e2, e3⟩ := dec (x.1 + 1) 0 0 (by omega) (by decide) (Nat.zero_le _)
        rw [Nat.zero_add] at e1 e2
        unfold prQ
        split
        · exact prBd_s (by decide) (p154 d1 (by omega)) (p154 e1 (by omega)) (fun h => absurd rfl h) (by decide)
        · exact prBd_n
      · unfold prP
        split
        · rename_i hp
          have hlt := chr_lt (w := w) (p := x.1) (by omega)
          obtain ⟨e1, e2, e3⟩ := dec (x.1 + 1) x.2.2 x.2.1 (by omega) d1 (by omega)
          exact prR_bd (by omega) e1 (by omega)
        · exact prR_bd (y := (x.1, 0, x.2.2)) (by show 0 ≤ 41; decide) d1 (by omega)
  · rename_i hb
    have hbs : pbs w (psg w) = 16 ∨ pbs w (psg w) = 2 := by
      unfold pbs at hb ⊢
      split
      · split
        · exact Or.inl rfl
        · split
          · exact Or.inr rfl
          · rename_i h1 h2 h3; rw [if_pos h1, if_neg h2, if_neg h3] at hb; exact absurd rfl hb
      · rename_i h1; rw [if_neg h1] at hb; exact absurd rfl hb
    have hp2 : psg w + 2 ≤ w.length := by
      unfold pbs at hb
      by_cases h1 : chr w (psg w) = 48
      · rw [if_pos h1] at hb
        have : chr w (psg w + 1) ≠ 0 := by
          intro h0
          rw [if_neg (by omega), if_neg (by omega)] at hb
          exact hb rfl
        have := chr_lt this
        omega
      · rw [if_neg h1] at hb; exact absurd rfl hb
    generalize pbs w (psg w) = r at *
    have hr : 0 < r := by omega
    have h1 := mdg_v (w := w) (r := r) (m := 0) hr 41 (psg w + 2) 0 0 (by show 0 < r ^ 0; exact Nat.one_pos)
    have h2 := mdg_p (w := w) (r := r) 41 (psg w + 2) 0 0
    have h3 := mdg_le (w := w) (r := r) 41 (psg w + 2) 0 0 hp2
    rw [Nat.zero_add] at h1
    generalize mdg w r 41 (psg w + 2) 0 0 = x at *
    unfold prB
    split
    · refine prBd_s (by decide) ?_ (by decide) (fun _ => rfl) (by decide)
      exact p154h (Nat.lt_of_lt_of_le h1 (Nat.pow_le_pow_left (by omega) _)) (by omega)
    · exact prBd_n
set_option maxRecDepth 100000 in
set_option maxHeartbeats 4000000 in
theorem c_R_parseTens {l : Launch} (hfl : l.flags = flags0) {D : va_G} {g : Nat → ClassId} {ad : Nat → Nat} {N : Nat} {F0 : Nat → va_E} {W : Nat → Nat} {K S : Nat → Int} {lh : Nat → Int} {ln : List Nat} {a0 : Nat} {t0 : Int} {q6 qe te : Nat}
    (hN : 109 ≤ N) (hW : bW W) (hT7 : F0 7 = oT ad 7 (ln.length : Int)) (hT8 : F0 8 = aT g lh) (htx : tx lh ln) (hl40 : ln.length ≤ 40) (hch : ∀ c, c ∈ ln → 32 ≤ c ∧ c ≤ 126) (hRd : F0 41 = oR ad (a0 : Int) t0) (ha0 : a0 < ln.length) (hq6 : psq ln (a0 + 1) = q6) (hten : ten3 ln 3 q6 0 = (qe, te)) :
    JC l y_R_parseTens b_R_parseTens 5 (Option.some Jvm.ClassFile.FieldType.boolean) rm_R_parseTens (0, 0) D jCl (jTys g) ad N (cF ad g F0 W K S) [.ref (ad 41)] (ji ad N (fun z F' => z = (if qe = q6 then 0 else 1) ∧ F' = cF ad g (va_up F0 41 (oR ad (qe : Int) (if chr ln (a0 + 1) = 45 then -(te : Int) else (te : Int)))) W K S)) := by
  have hc1 := tchr hch (a0 + 1)
  refine JC.go hfl (own := "NumberTower$Reader") (lv := [(0, .ref (ad 41))]) rfl (by decide +kernel) (Nat.le_of_ble_eq_true rfl) rfl (fun A => ?_)
  refine J_aload_n 0 d_R_parseTens_0 rfl rfl ?_
  refine J_dup d_R_parseTens_1 rfl ?_
  refine gf_R_15 (by omega) ((cF_0 (by decide)).trans hRd) rfl d_R_parseTens_2 ?_
  refine J_iconst d_R_parseTens_5 ?_
  refine J_iadd d_R_parseTens_6 ?_
  refine pf_R_15 (by omega) ((cF_0 (by decide)).trans hRd) (Nat.le_of_ble_eq_true rfl) d_R_parseTens_7 ?_
  refine J_eqF (F2 := cF ad g (va_up F0 41 (.inr (5, [.ref (ad 7), .int (iI ((a0 : Int) + 1)), .int (iI t0)]))) W K S) (cF_up0 (by decide)) ?_
  refine J_eqF (F2 := cF ad g (va_up F0 41 (.inr (5, [.ref (ad 7), .int (iI ((a0 + 1 : Nat) : Int)), .int (iI t0)]))) W K S) (congrArg (fun qq : Int => cF ad g (va_up F0 41 (.inr (5, [.ref (ad 7), .int (iI qq), .int (iI t0)]))) W K S) (show (a0 : Int) + 1 = ((a0 + 1 : Nat) : Int) from (by omega))) ?_
  refine J_aload_n 0 d_R_parseTens_10 rfl rfl ?_
  have lab31 : ∀ (mi : Int) (hmi : (mi = 1 ∧ chr ln (a0 + 1) = 45) ∨ (mi = 0 ∧ chr ln (a0 + 1) ≠ 45)) , J l rm_R_parseTens (0, 0) "NumberTower$Reader" b_R_parseTens 5 (Option.some Jvm.ClassFile.FieldType.boolean) D jCl (jTys g) A (fun _ me => me.name = y_R_parseTens.name) (ji ad N (fun z F' => z = (if qe = q6 then 0 else 1) ∧ F' = cF ad g (va_up F0 41 (oR ad (qe : Int) (if chr ln (a0 + 1) = 45 then -(te : Int) else (te : Int)))) W K S)) ad N 0 0 31 [(0, .ref (ad 41))] [.int (iI mi)] (cF ad g (va_up F0 41 (.inr (5, [.ref (ad 7), .int (iI ((a0 + 1 : Nat) : Int)), .int (iI t0)]))) W K S) := by
    intro mi hmi
    have hmi1 : mi = 0 ∨ mi = 1 := by omega
    refine J_istore_n (lv' := [(1, .int (iI mi)), (0, .ref (ad 41))]) d_R_parseTens_31 rfl (by decide) rfl ?_
    have lab62 : J l rm_R_parseTens (0, 0) "NumberTower$Reader" b_R_parseTens 5 (Option.some Jvm.ClassFile.FieldType.boolean) D jCl (jTys g) A (fun _ me => me.name = y_R_parseTens.name) (ji ad N (fun z F' => z = (if qe = q6 then 0 else 1) ∧ F' = cF ad g (va_up F0 41 (oR ad (qe : Int) (if chr ln (a0 + 1) = 45 then -(te : Int) else (te : Int)))) W K S)) ad N 0 0 62 [(0, .ref (ad 41)), (1, .int (iI mi))] [] (cF ad g (va_up F0 41 (.inr (5, [.ref (ad 7), .int (iI (q6 : Int)), .int (iI t0)]))) W K S) := by
      have hq6b : q6 ≤ ln.length := by
        rw [← hq6]; unfold psq; split <;> omega
      have hmi0 := hmi
      replace hmi : hold _ := hmi
      replace hmi0 : hold _ := hmi0
      clear hc1
      refine J_iconst d_R_parseTens_62 ?_
      refine J_istore_n (lv' := [(2, .int (iI 0)), (0, .ref (ad 41)), (1, .int (iI mi))]) d_R_parseTens_63 rfl (by decide) rfl ?_
      refine J_iconst d_R_parseTens_64 ?_
      refine J_istore_n (lv' := [(3, .int (iI 0)), (2, .int (iI 0)), (0, .ref (ad 41)), (1, .int (iI mi))]) d_R_parseTens_65 rfl (by decide) rfl ?_
      refine J_pick (lv' := [(0, .ref (ad 41)), (1, .int (iI mi)), (2, .int (iI 0)), (3, .int (iI 0))]) [2, 3, 1, 0] rfl ?_
      have loop66 : ∀ (fuel : Nat) (q : Nat) (t : Nat) (i : Nat) (hi : i ≤ 3) (hqi : q = q6 + i) (ht3 : ten3 ln (3 - i) q t = (qe, te)) (htb : hold ((i = 0 ∧ t = 0) ∨ (i = 1 ∧ t < 10) ∨ (i = 2 ∧ t < 100) ∨ (i = 3 ∧ t < 1000))) (htc : t < 1000) (hql : q ≤ ln.length) (hfu : 3 - i < fuel), J l rm_R_parseTens (0, 0) "NumberTower$Reader" b_R_parseTens 5 (Option.some Jvm.ClassFile.FieldType.boolean) D jCl (jTys g) A (fun _ me => me.name = y_R_parseTens.name) (ji ad N (fun z F' => z = (if qe = q6 then 0 else 1) ∧ F' = cF ad g (va_up F0 41 (oR ad (qe : Int) (if chr ln (a0 + 1) = 45 then -(te : Int) else (te : Int)))) W K S)) ad N 0 0 66 [(0, .ref (ad 41)), (1, .int (iI mi)), (2, .int (iI (t : Int))), (3, .int (iI (i : Int)))] [] (cF ad g (va_up F0 41 (.inr (5, [.ref (ad 7), .int (iI (q : Int)), .int (iI t0)]))) W K S) := by
        intro fuel
        induction fuel with
        | zero => intro q t i hi hqi ht3 htb htc hql hfu; exact absurd hfu (Nat.not_lt_zero _)
        | succ fuel ih =>
          intro q t i hi hqi ht3 htb htc hql hfu
          have hcq := tchr hch q
          refine J_iload_n 3 d_R_parseTens_66 rfl rfl ?_
          refine J_iconst d_R_parseTens_67 ?_
          refine J_if_icmpge (tgt := 142) d_R_parseTens_68 (by decide) ⟨by omega, by omega⟩ ⟨by omega, by omega⟩ (fun c68 => ?_) (fun c68 => ?_)
          · refine J_aload_n 0 d_R_parseTens_142 rfl rfl ?_
            refine J_iload_n 1 d_R_parseTens_143 rfl rfl ?_
            refine J_ifeq (tgt := 152) d_R_parseTens_144 (by decide) ⟨by omega, by omega⟩ (fun c144 => ?_) (fun c144 => ?_)
            · refine J_iload_n 2 d_R_parseTens_152 rfl rfl ?_
              refine pf_R_19 (by omega) ((cF_0 (by decide)).trans (by rw [va_up_self])) (Nat.le_of_ble_eq_true rfl) d_R_parseTens_153 ?_
              refine J_eqF (F2 := cF ad g (va_up F0 41 (.inr (5, [.ref (ad 7), .int (iI (q : Int)), .int (iI (t : Int))]))) W K S) ((cF_up0 (by decide)).trans (congrArg (fun qq => cF ad g qq W K S) (up_in0))) ?_
              refine J_iconst d_R_parseTens_156 ?_
              refine J_iret rfl (nb01 (by omega)).1 d_R_parseTens_157 ⟨by decide, by decide⟩ ?_
              have hmi : (mi = 1 ∧ chr ln (a0 + 1) = 45) ∨ (mi = 0 ∧ chr ln (a0 + 1) ≠ 45) := hmi
              have h8 := ht3
              rw [show 3 - i = 0 by omega] at h8
              injection h8 with h9 h10
              refine ⟨_, rfl, rfl, rfl, (by rw [if_neg (by omega)]), ?_⟩
              rw [if_neg (by omega), ← h10, ← h9]
            · refine J_iload_n 2 d_R_parseTens_147 rfl rfl ?_
              refine J_ineg d_R_parseTens_148 ?_
              refine J_goto (tgt := 153) d_R_parseTens_149 (by decide) ?_
              refine pf_R_19 (by omega) ((cF_0 (by decide)).trans (by rw [va_up_self])) (Nat.le_of_ble_eq_true rfl) d_R_parseTens_153 ?_
              refine J_eqF (F2 := cF ad g (va_up F0 41 (.inr (5, [.ref (ad 7), .int (iI (q : Int)), .int (iI (-(t : Int)))]))) W K S) ((cF_up0 (by decide)).trans (congrArg (fun qq => cF ad g qq W K S) (up_in0))) ?_
              refine J_iconst d_R_parseTens_156 ?_
              refine J_iret rfl (nb01 (by omega)).1 d_R_parseTens_157 ⟨by decide, by decide⟩ ?_
              have hmi : (mi = 1 ∧ chr ln (a0 + 1) = 45) ∨ (mi = 0 ∧ chr ln (a0 + 1) ≠ 45) := hmi
              have h8 := ht3
              rw [show 3 - i = 0 by omega] at h8
              injection h8 with h9 h10
              refine ⟨_, rfl, rfl, rfl, (by rw [if_neg (by omega)]), ?_⟩
              rw [if_pos (by omega), ← h10, ← h9]
          · refine J_aload_n 0 d_R_parseTens_71 rfl rfl ?_
            refine gf_R_9 (by omega) ((cF_0 (by decide)).trans (by rw [va_up_self])) rfl d_R_parseTens_72 ?_
            refine J_aload_n 0 d_R_parseTens_75 rfl rfl ?_
            refine gf_R_15 (by omega) ((cF_0 (by decide)).trans (by rw [va_up_self])) rfl d_R_parseTens_76 ?_
            refine J_callVi cw_R_28 nh_T_at pn_T_at rfl rfl (by omega) ((cF_0 (by decide)).trans (by rw [va_up_ne _ _ (by decide)]; exact hT7)) (As := [.int (iI (q : Int))]) (rest := []) rfl (Nat.le_of_ble_eq_true rfl) ⟨by decide, by decide⟩ rfl ⟨by decide, by decide⟩ d_R_parseTens_79 (c_T_at hfl (k := 7) (w := ln) (hh := lh) (n := (q : Int)) (by omega) ((cF_0 (by decide)).trans (by rw [va_up_ne _ _ (by decide)]; exact hT7)) ((cF_0 (by decide)).trans (by rw [va_up_ne _ _ (by decide)]; exact hT8)) htx (by omega) ⟨by omega, by omega⟩) (fun ta1 F1 hq => ?_)
            obtain ⟨hta1, eF1⟩ := hq
            refine J_eqF eF1 ?_
            refine J_topi (r := tat ln (q : Int)) (congrArg iI hta1) ?_
            refine J_bipush d_R_parseTens_82 (i8_ok (by decide)) ?_
            refine J_callSi cw_R_66 nh_R_digitOf pn_R_digitOf rfl (As := [.int (iI (tat ln (q : Int))), .int (iI 10)]) (rest := []) rfl (Nat.le_of_ble_eq_true rfl) ⟨by decide, by decide⟩ rfl ⟨by decide, by decide⟩ d_R_parseTens_84 (c_R_digitOf hfl (c := tat ln (q : Int)) (r := 10) ⟨by omega, by omega⟩ ⟨by omega, by omega⟩) (fun z2 F2 hq => ?_)
            obtain ⟨hz2, eF2⟩ := hq
            refine J_eqF eF2 ?_
            have hdbz2 := dgr_b (c := (chr ln q : Int)) (r := 10)
            refine J_topi (r := dgr (chr ln q : Int) 10) (congrArg iI (by rw [hz2]; exact dgr_tat hch q (by omega))) ?_
            refine J_istore (lv' := [(4, .int (iI (dgr (chr ln q : Int) 10))), (0, .ref (ad 41)), (1, .int (iI mi)), (2, .int (iI (t : Int))), (3, .int (iI (i : Int)))]) d_R_parseTens_87 (by decide) rfl ?_
            refine J_iload 0 d_R_parseTens_89 rfl ?_
            refine J_ifge (tgt := 118) d_R_parseTens_91 (by decide) ⟨by omega, by omega⟩ (fun c91 => ?_) (fun c91 => ?_)
            · refine J_iload_n 3 d_R_parseTens_118 rfl rfl ?_
              refine J_bipush d_R_parseTens_119 (i8_ok (by decide)) ?_
              refine J_imul d_R_parseTens_121 ?_
              refine J_iload 0 d_R_parseTens_122 rfl ?_
              refine J_iadd d_R_parseTens_124 ?_
              refine J_topi (r := ((10 * t + (dgr (chr ln q : Int) 10).toNat : Nat) : Int)) (congrArg iI (by omega)) ?_
              refine J_istore_n (lv' := [(2, .int (iI ((10 * t + (dgr (chr ln q : Int) 10).toNat : Nat) : Int))), (4, .int (iI (dgr (chr ln q : Int) 10))), (0, .ref (ad 41)), (1, .int (iI mi)), (3, .int (iI (i : Int)))]) d_R_parseTens_125 rfl (by decide) rfl ?_
              refine J_aload_n 2 d_R_parseTens_126 rfl rfl ?_
              refine J_dup d_R_parseTens_127 rfl ?_
              refine gf_R_15 (by omega) ((cF_0 (by decide)).trans (by rw [va_up_self])) rfl d_R_parseTens_128 ?_
              refine J_iconst d_R_parseTens_131 ?_
              refine J_iadd d_R_parseTens_132 ?_
              refine pf_R_15 (by omega) ((cF_0 (by decide)).trans (by rw [va_up_self])) (Nat.le_of_ble_eq_true rfl) d_R_parseTens_133 ?_
              refine J_eqF (F2 := cF ad g (va_up F0 41 (.inr (5, [.ref (ad 7), .int (iI ((q : Int) + 1)), .int (iI t0)]))) W K S) ((cF_up0 (by decide)).trans (congrArg (fun qq => cF ad g qq W K S) (up_in0))) ?_
              refine J_iinc (j := 4) (b := (i : Int) + 1) (lv' := [(3, .int (iI ((i : Int) + 1))), (2, .int (iI ((10 * t + (dgr (chr ln q : Int) 10).toNat : Nat) : Int))), (4, .int (iI (dgr (chr ln q : Int) 10))), (0, .ref (ad 41)), (1, .int (iI mi))]) d_R_parseTens_136 rfl (by omega) (by decide) rfl ?_
              refine J_goto (tgt := 66) d_R_parseTens_139 (by decide) ?_
              refine J_pick (lv' := [(0, .ref (ad 41)), (1, .int (iI mi)), (2, .int (iI ((10 * t + (dgr (chr ln q : Int) 10).toNat : Nat) : Int))), (3, .int (iI ((i : Int) + 1)))]) [3, 4, 1, 0] rfl ?_
              refine J_eqF (F2 := cF ad g (va_up F0 41 (.inr (5, [.ref (ad 7), .int (iI ((q + 1 : Nat) : Int)), .int (iI t0)]))) W K S) (congrArg (fun qq : Int => cF ad g (va_up F0 41 (.inr (5, [.ref (ad 7), .int (iI qq), .int (iI t0)]))) W K S) (show (q : Int) + 1 = ((q + 1 : Nat) : Int) from (by omega))) ?_
              refine ih (q + 1) (10 * t + (dgr (chr ln q : Int) 10).toNat) (i + 1) (by omega) (by omega) ?_ ?_ ?_ ?_ (by omega)
              · rw [← ht3, ← ten3_d (f := 3 - (i + 1)) (t := t) (by omega), show 3 - (i + 1) + 1 = 3 - i by omega]
              · rcases htb with w | w | w | w
                · exact Or.inr (Or.inl ⟨by omega, by omega⟩)
                · exact Or.inr (Or.inr (Or.inl ⟨by omega, by omega⟩))
                · exact Or.inr (Or.inr (Or.inr ⟨by omega, by omega⟩))
                · omega
              · rcases htb with w | w | w | w <;> omega
              · omega
            · refine J_aload_n 1 d_R_parseTens_94 rfl rfl ?_
              refine J_iload_n 2 d_R_parseTens_95 rfl rfl ?_
              refine J_ifeq (tgt := 104) d_R_parseTens_96 (by decide) ⟨by omega, by omega⟩ (fun c96 => ?_) (fun c96 => ?_)
              · refine J_iload_n 3 d_R_parseTens_104 rfl rfl ?_
                refine pf_R_19 (by omega) ((cF_0 (by decide)).trans (by rw [va_up_self])) (Nat.le_of_ble_eq_true rfl) d_R_parseTens_105 ?_
                refine J_eqF (F2 := cF ad g (va_up F0 41 (.inr (5, [.ref (ad 7), .int (iI (q : Int)), .int (iI (t : Int))]))) W K S) ((cF_up0 (by decide)).trans (congrArg (fun qq => cF ad g qq W K S) (up_in0))) ?_
                refine J_iload_n 4 d_R_parseTens_108 rfl rfl ?_
                refine J_ifle (tgt := 116) d_R_parseTens_109 (by decide) ⟨by omega, by omega⟩ (fun c109 => ?_) (fun c109 => ?_)
                · refine J_iconst d_R_parseTens_116 ?_
                  refine J_iret rfl (nb01 (by omega)).1 d_R_parseTens_117 ⟨by decide, by decide⟩ ?_
                  have hmi : (mi = 1 ∧ chr ln (a0 + 1) = 45) ∨ (mi = 0 ∧ chr ln (a0 + 1) ≠ 45) := hmi
                  have h8 := ht3
                  rw [ten3_e (by omega)] at h8
                  injection h8 with h9 h10
                  refine ⟨_, rfl, rfl, rfl, (by rw [if_pos (by omega)]), ?_⟩
                  rw [if_neg (by omega), ← h10, ← h9]
                · refine J_iconst d_R_parseTens_112 ?_
                  refine J_goto (tgt := 117) d_R_parseTens_113 (by decide) ?_
                  refine J_iret rfl (nb01 (by omega)).1 d_R_parseTens_117 ⟨by decide, by decide⟩ ?_
                  have hmi : (mi = 1 ∧ chr ln (a0 + 1) = 45) ∨ (mi = 0 ∧ chr ln (a0 + 1) ≠ 45) := hmi
                  have h8 := ht3
                  rw [ten3_e (by omega)] at h8
                  injection h8 with h9 h10
                  refine ⟨_, rfl, rfl, rfl, (by rw [if_neg (by omega)]), ?_⟩
                  rw [if_neg (by omega), ← h10, ← h9]
              · refine J_iload_n 3 d_R_parseTens_99 rfl rfl ?_
                refine J_ineg d_R_parseTens_100 ?_
                refine J_goto (tgt := 105) d_R_parseTens_101 (by decide) ?_
                refine pf_R_19 (by omega) ((cF_0 (by decide)).trans (by rw [va_up_self])) (Nat.le_of_ble_eq_true rfl) d_R_parseTens_105 ?_
                refine J_eqF (F2 := cF ad g (va_up F0 41 (.inr (5, [.ref (ad 7), .int (iI (q : Int)), .int (iI (-(t : Int)))]))) W K S) ((cF_up0 (by decide)).trans (congrArg (fun qq => cF ad g qq W K S) (up_in0))) ?_
                refine J_iload_n 4 d_R_parseTens_108 rfl rfl ?_
                refine J_ifle (tgt := 116) d_R_parseTens_109 (by decide) ⟨by omega, by omega⟩ (fun c109 => ?_) (fun c109 => ?_)
                · refine J_iconst d_R_parseTens_116 ?_
                  refine J_iret rfl (nb01 (by omega)).1 d_R_parseTens_117 ⟨by decide, by decide⟩ ?_
                  have hmi : (mi = 1 ∧ chr ln (a0 + 1) = 45) ∨ (mi = 0 ∧ chr ln (a0 + 1) ≠ 45) := hmi
                  have h8 := ht3
                  rw [ten3_e (by omega)] at h8
                  injection h8 with h9 h10
                  refine ⟨_, rfl, rfl, rfl, (by rw [if_pos (by omega)]), ?_⟩
                  rw [if_pos (by omega), ← h10, ← h9]
                · refine J_iconst d_R_parseTens_112 ?_
                  refine J_goto (tgt := 117) d_R_parseTens_113 (by decide) ?_
                  refine J_iret rfl (nb01 (by omega)).1 d_R_parseTens_117 ⟨by decide, by decide⟩ ?_
                  have hmi : (mi = 1 ∧ chr ln (a0 + 1) = 45) ∨ (mi = 0 ∧ chr ln (a0 + 1) ≠ 45) := hmi
                  have h8 := ht3
                  rw [ten3_e (by omega)] at h8
                  injection h8 with h9 h10
                  refine ⟨_, rfl, rfl, rfl, (by rw [if_neg (by omega)]), ?_⟩
                  rw [if_pos (by omega), ← h10, ← h9]
      exact loop66 ((3 - 0) + 1) q6 0 0 (by decide) rfl hten (Or.inl ⟨rfl, rfl⟩) (by decide) (by omega) (Nat.lt_succ_self _)
    refine J_iload_n 0 d_R_parseTens_32 rfl rfl ?_
    refine J_ifne (tgt := 52) d_R_parseTens_33 (by decide) ⟨by omega, by omega⟩ (fun c33 => ?_) (fun c33 => ?_)
    · refine J_aload_n 1 d_R_parseTens_52 rfl rfl ?_
      refine J_dup d_R_parseTens_53 rfl ?_
      refine gf_R_15 (by omega) ((cF_0 (by decide)).trans (by rw [va_up_self])) rfl d_R_parseTens_54 ?_
      refine J_iconst d_R_parseTens_57 ?_
      refine J_iadd d_R_parseTens_58 ?_
      refine pf_R_15 (by omega) ((cF_0 (by decide)).trans (by rw [va_up_self])) (Nat.le_of_ble_eq_true rfl) d_R_parseTens_59 ?_
      refine J_eqF (F2 := cF ad g (va_up F0 41 (.inr (5, [.ref (ad 7), .int (iI (((a0 + 1 : Nat) : Int) + 1)), .int (iI t0)]))) W K S) ((cF_up0 (by decide)).trans (congrArg (fun qq => cF ad g qq W K S) (up_in0))) ?_
      refine J_pick (lv' := [(0, .ref (ad 41)), (1, .int (iI mi))]) [1, 0] rfl ?_
      refine J_eqF (F2 := cF ad g (va_up F0 41 (.inr (5, [.ref (ad 7), .int (iI (q6 : Int)), .int (iI t0)]))) W K S) (congrArg (fun qq : Int => cF ad g (va_up F0 41 (.inr (5, [.ref (ad 7), .int (iI qq), .int (iI t0)]))) W K S) (show ((a0 + 1 : Nat) : Int) + 1 = (q6 : Int) from (by rw [← hq6]; unfold psq; rw [if_pos (by omega)] <;> omega))) ?_
      exact lab62  
    · refine J_aload_n 1 d_R_parseTens_36 rfl rfl ?_
      refine gf_R_9 (by omega) ((cF_0 (by decide)).trans (by rw [va_up_self])) rfl d_R_parseTens_37 ?_
      refine J_aload_n 1 d_R_parseTens_40 rfl rfl ?_
      refine gf_R_15 (by omega) ((cF_0 (by decide)).trans (by rw [va_up_self])) rfl d_R_parseTens_41 ?_
      refine J_callVi cw_R_28 nh_T_at pn_T_at rfl rfl (by omega) ((cF_0 (by decide)).trans (by rw [va_up_ne _ _ (by decide)]; exact hT7)) (As := [.int (iI ((a0 + 1 : Nat) : Int))]) (rest := []) rfl (Nat.le_of_ble_eq_true rfl) ⟨by decide, by decide⟩ rfl ⟨by decide, by decide⟩ d_R_parseTens_44 (c_T_at hfl (k := 7) (w := ln) (hh := lh) (n := ((a0 + 1 : Nat) : Int)) (by omega) ((cF_0 (by decide)).trans (by rw [va_up_ne _ _ (by decide)]; exact hT7)) ((cF_0 (by decide)).trans (by rw [va_up_ne _ _ (by decide)]; exact hT8)) htx (by omega) ⟨by omega, by omega⟩) (fun ta3 F3 hq => ?_)
      obtain ⟨hta3, eF3⟩ := hq
      refine J_eqF eF3 ?_
      refine J_topi (r := tat ln ((a0 + 1 : Nat) : Int)) (congrArg iI hta3) ?_
      refine J_bipush d_R_parseTens_47 (i8_ok (by decide)) ?_
      refine J_if_icmpne (tgt := 62) d_R_parseTens_49 (by decide) ⟨by omega, by omega⟩ ⟨by omega, by omega⟩ (fun c49 => ?_) (fun c49 => ?_)
      · refine J_pick (lv' := [(0, .ref (ad 41)), (1, .int (iI mi))]) [1, 0] rfl ?_
        refine J_eqF (F2 := cF ad g (va_up F0 41 (.inr (5, [.ref (ad 7), .int (iI (q6 : Int)), .int (iI t0)]))) W K S) (congrArg (fun qq : Int => cF ad g (va_up F0 41 (.inr (5, [.ref (ad 7), .int (iI qq), .int (iI t0)]))) W K S) (show ((a0 + 1 : Nat) : Int) = (q6 : Int) from (by rw [← hq6]; unfold psq; rw [if_neg (by omega)] <;> omega))) ?_
        exact lab62  
      · refine J_aload_n 1 d_R_parseTens_52 rfl rfl ?_
        refine J_dup d_R_parseTens_53 rfl ?_
        refine gf_R_15 (by omega) ((cF_0 (by decide)).trans (by rw [va_up_self])) rfl d_R_parseTens_54 ?_
        refine J_iconst d_R_parseTens_57 ?_
        refine J_iadd d_R_parseTens_58 ?_
        refine pf_R_15 (by omega) ((cF_0 (by decide)).trans (by rw [va_up_self])) (Nat.le_of_ble_eq_true rfl) d_R_parseTens_59 ?_
        refine J_eqF (F2 := cF ad g (va_up F0 41 (.inr (5, [.ref (ad 7), .int (iI (((a0 + 1 : Nat) : Int) + 1)), .int (iI t0)]))) W K S) ((cF_up0 (by decide)).trans (congrArg (fun qq => cF ad g qq W K S) (up_in0))) ?_
        refine J_pick (lv' := [(0, .ref (ad 41)), (1, .int (iI mi))]) [1, 0] rfl ?_
        refine J_eqF (F2 := cF ad g (va_up F0 41 (.inr (5, [.ref (ad 7), .int (iI (q6 : Int)), .int (iI t0)]))) W K S) (congrArg (fun qq : Int => cF ad g (va_up F0 41 (.inr (5, [.ref (ad 7), .int (iI qq), .int (iI t0)]))) W K S) (show ((a0 + 1 : Nat) : Int) + 1 = (q6 : Int) from (by rw [← hq6]; unfold psq; rw [if_pos (by omega)] <;> omega))) ?_
        exact lab62  
  refine gf_R_9 (by omega) ((cF_0 (by decide)).trans (by rw [va_up_self])) rfl d_R_parseTens_11 ?_
  refine J_aload_n 0 d_R_parseTens_14 rfl rfl ?_
  refine gf_R_15 (by omega) ((cF_0 (by decide)).trans (by rw [va_up_self])) rfl d_R_parseTens_15 ?_
  refine J_callVi cw_R_28 nh_T_at pn_T_at rfl rfl (by omega) ((cF_0 (by decide)).trans (by rw [va_up_ne _ _ (by decide)]; exact hT7)) (As := [.int (iI ((a0 + 1 : Nat) : Int))]) (rest := []) rfl (Nat.le_of_ble_eq_true rfl) ⟨by decide, by decide⟩ rfl ⟨by decide, by decide⟩ d_R_parseTens_18 (c_T_at hfl (k := 7) (w := ln) (hh := lh) (n := ((a0 + 1 : Nat) : Int)) (by omega) ((cF_0 (by decide)).trans (by rw [va_up_ne _ _ (by decide)]; exact hT7)) ((cF_0 (by decide)).trans (by rw [va_up_ne _ _ (by decide)]; exact hT8)) htx (by omega) ⟨by omega, by omega⟩) (fun ta4 F4 hq => ?_)
  obtain ⟨hta4, eF4⟩ := hq
  refine J_eqF eF4 ?_
  refine J_topi (r := tat ln ((a0 + 1 : Nat) : Int)) (congrArg iI hta4) ?_
  refine J_bipush d_R_parseTens_21 (i8_ok (by decide)) ?_
  refine J_if_icmpne (tgt := 30) d_R_parseTens_23 (by decide) ⟨by omega, by omega⟩ ⟨by omega, by omega⟩ (fun c23 => ?_) (fun c23 => ?_)
  · refine J_iconst d_R_parseTens_30 ?_
    exact lab31 (0 : Int) (by omega)
  · refine J_iconst d_R_parseTens_26 ?_
    refine J_goto (tgt := 31) d_R_parseTens_27 (by decide) ?_
    exact lab31 (1 : Int) (by omega)
