/-! the class writes: rounded digits -/

def gsep (pt grp i m : Nat) : List Nat := if 0 < i ∧ 0 < pt ∧ 0 < m ∧ m % grp = 0 then [pt] else []
theorem gsep_y {pt grp i m : Nat} (h : 0 < i ∧ 0 < pt ∧ 0 < m ∧ m % grp = 0) : gsep pt grp i m = [pt] := if_pos h
theorem gsep_n {pt grp i m : Nat} (h : ¬(0 < i ∧ 0 < pt ∧ 0 < m ∧ m % grp = 0)) : gsep pt grp i m = [] := if_neg h
theorem sgr_g {dv : Nat → Nat} {cap : Int} {grp pt to i m : Nat} : sgr dv cap grp pt to (m + 1) = chd cap (dv (to + m)) :: (gsep pt grp (i + 1) m ++ sgr dv cap grp pt to m) := by
  by_cases h : 0 < pt ∧ 0 < m ∧ m % grp = 0
  · rw [sgr_y h, gsep_y ⟨by omega, h⟩]; rfl
  · rw [sgr_n h, gsep_n (fun q => h q.2)]; rfl
theorem sgr_split {dv : Nat → Nat} {cap : Int} {grp to b : Nat} : ∀ a, sgr dv cap grp 0 to (a + b) = sgr dv cap grp 0 (to + b) a ++ sgr dv cap grp 0 to b := by
  intro a
  induction a with
  | zero => rw [Nat.zero_add]; rfl
  | succ a ih =>
    rw [show a + 1 + b = a + b + 1 by omega, sgr_n (by omega), ih, sgr_n (by omega), show to + (a + b) = to + b + a by omega]; rfl
theorem sgr_drop {dv : Nat → Nat} {cap : Int} {grp to a b n : Nat} (h : n = a + b) : (sgr dv cap grp 0 to n).drop a = sgr dv cap grp 0 to b := by
  rw [h, sgr_split, List.drop_left' (sgr_1 _)]
theorem sgr_take {dv : Nat → Nat} {cap : Int} {grp to a b n : Nat} (h : n = a + b) : (sgr dv cap grp 0 to n).take a = sgr dv cap grp 0 (to + b) a := by
  rw [h, sgr_split, List.take_left' (sgr_1 _)]
theorem sgr_grp {dv : Nat → Nat} {cap : Int} {g1 g2 to : Nat} : ∀ n, sgr dv cap g1 0 to n = sgr dv cap g2 0 to n := by
  intro n
  induction n with
  | zero => rfl
  | succ n ih => rw [sgr_n (by omega), sgr_n (by omega), ih]
theorem getD_sgr {dv : Nat → Nat} {cap : Int} {g to : Nat} : ∀ n i, i < n → (sgr dv cap g 0 to n).getD i 0 = chd cap (dv (to + n - 1 - i)) := by
  intro n
  induction n with
  | zero => intro i h; omega
  | succ n ih =>
    intro i h
    rw [sgr_n (by omega)]
    cases i with
    | zero => show chd cap (dv (to + n)) = _; rw [show to + (n + 1) - 1 - 0 = to + n by omega]
    | succ i =>
      show (sgr dv cap g 0 to n).getD i 0 = _
      rw [ih i (by omega), show to + (n + 1) - 1 - (i + 1) = to + n - 1 - i by omega]
theorem tat_sgr {dv : Nat → Nat} {cap : Int} {g to n i : Nat} (h : i < n) : tat (sgr dv cap g 0 to n) (i : Int) = ((chd cap (dv (to + n - 1 - i)) : Nat) : Int) := by
  rw [tat_v (by omega) (by rw [sgr_1]; omega)]
  show ((sgr dv cap g 0 to n).getD i 0 : Int) = _
  rw [getD_sgr n i h]
/-- leastExponent -/
def leX (a : Int) : Int := (a * 30103 - 1) / 100000
theorem leX_dec1 : ∀ n : Nat, n < 320 → (10 ^ (leX ((n : Int) - 160)).toNat * 2 ^ (-((n : Int) - 160)).toNat ≤ 2 ^ ((n : Int) - 160).toNat * 10 ^ (-(leX ((n : Int) - 160))).toNat) ∧ (2 ^ ((n : Int) - 160 + 1).toNat * 10 ^ (-(leX ((n : Int) - 160) + 2)).toNat ≤ 10 ^ (leX ((n : Int) - 160) + 2).toNat * 2 ^ (-((n : Int) - 160 + 1)).toNat) ∧ (2 ^ ((n : Int) - 160 + 2).toNat * 10 ^ (-(leX ((n : Int) - 160) + 3)).toNat ≤ 10 ^ (leX ((n : Int) - 160) + 3).toNat * 2 ^ (-((n : Int) - 160 + 2)).toNat) := by decide +kernel
theorem leX_dec {a : Int} (h : -160 ≤ a ∧ a < 160) : (10 ^ (leX a).toNat * 2 ^ (-a).toNat ≤ 2 ^ a.toNat * 10 ^ (-(leX a)).toNat) ∧ (2 ^ (a + 1).toNat * 10 ^ (-(leX a + 2)).toNat ≤ 10 ^ (leX a + 2).toNat * 2 ^ (-(a + 1)).toNat) ∧ (2 ^ (a + 2).toNat * 10 ^ (-(leX a + 3)).toNat ≤ 10 ^ (leX a + 3).toNat * 2 ^ (-(a + 2)).toNat) := by
  have h1 := leX_dec1 (a + 160).toNat (by omega)
  rw [show (((a + 160).toNat : Nat) : Int) - 160 = a by omega] at h1
  exact h1
/-- powers of 2 and of 10 against a ratio -/
theorem rch_ge {u d : Nat} {B e : Int} (hp : 10 ^ e.toNat * 2 ^ (-B).toNat ≤ 2 ^ B.toNat * 10 ^ (-e).toNat) (hu : d * 2 ^ B.toNat ≤ u * 2 ^ (-B).toNat) : rch u d e := by
  unfold rch
  apply Nat.le_of_mul_le_mul_right (c := 2 ^ B.toNat * 2 ^ (-B).toNat) ?_ (Nat.mul_pos (Nat.two_pow_pos _) (Nat.two_pow_pos _))
  have a1 : d * 10 ^ e.toNat * (2 ^ B.toNat * 2 ^ (-B).toNat) = (d * 2 ^ B.toNat) * (10 ^ e.toNat * 2 ^ (-B).toNat) := by ac_rfl
  have a2 : u * 10 ^ (-e).toNat * (2 ^ B.toNat * 2 ^ (-B).toNat) = (u * 2 ^ (-B).toNat) * (2 ^ B.toNat * 10 ^ (-e).toNat) := by ac_rfl
  rw [a1, a2]
  exact Nat.mul_le_mul hu hp
theorem rch_lt {u d : Nat} {B e : Int} (hp : 2 ^ B.toNat * 10 ^ (-e).toNat ≤ 10 ^ e.toNat * 2 ^ (-B).toNat) (hu : u * 2 ^ (-B).toNat < d * 2 ^ B.toNat) : ¬ rch u d e := by
  unfold rch
  intro h
  have a1 : (u * 2 ^ (-B).toNat) * (2 ^ B.toNat * 10 ^ (-e).toNat) < (d * 2 ^ B.toNat) * (10 ^ e.toNat * 2 ^ (-B).toNat) :=
    Nat.lt_of_lt_of_le (Nat.mul_lt_mul_of_pos_right hu (Nat.mul_pos (Nat.two_pow_pos _) (Nat.pow_pos (by decide)))) (Nat.mul_le_mul_left _ hp)
  have a2 : d * 10 ^ e.toNat * (2 ^ B.toNat * 2 ^ (-B).toNat) ≤ u * 10 ^ (-e).toNat * (2 ^ B.toNat * 2 ^ (-B).toNat) := Nat.mul_le_mul_right _ h
  have e1 : d * 10 ^ e.toNat * (2 ^ B.toNat * 2 ^ (-B).toNat) = (d * 2 ^ B.toNat) * (10 ^ e.toNat * 2 ^ (-B).toNat) := by ac_rfl
  have e2 : u * 10 ^ (-e).toNat * (2 ^ B.toNat * 2 ^ (-B).toNat) = (u * 2 ^ (-B).toNat) * (2 ^ B.toNat * 10 ^ (-e).toNat) := by ac_rfl
  omega
/-- a ratio between powers of 2, by its parts' bits -/
theorem bits_rng {u d : Nat} (hu : 0 < u) (hd : 0 < d) {B : Int} (hB : B = (blen u : Int) - blen d - 1) : d * 2 ^ B.toNat ≤ u * 2 ^ (-B).toNat ∧ u * 2 ^ (-(B + 2)).toNat < d * 2 ^ (B + 2).toNat := by
  obtain ⟨u1, u2, u3⟩ := blen_rng hu
  obtain ⟨d1, d2, d3⟩ := blen_rng hd
  constructor
  · have h1 : d * 2 ^ B.toNat ≤ 2 ^ blen d * 2 ^ B.toNat := Nat.mul_le_mul_right _ (Nat.le_of_lt d2)
    have h2 : 2 ^ (blen u - 1) * 2 ^ (-B).toNat ≤ u * 2 ^ (-B).toNat := Nat.mul_le_mul_right _ u1
    have h3 : 2 ^ blen d * 2 ^ B.toNat = 2 ^ (blen u - 1) * 2 ^ (-B).toNat := by rw [← Nat.pow_add, ← Nat.pow_add]; congr 1; omega
    omega
  · have h1 : u * 2 ^ (-(B + 2)).toNat < 2 ^ blen u * 2 ^ (-(B + 2)).toNat := Nat.mul_lt_mul_of_pos_right u2 (Nat.two_pow_pos _)
    have h2 : 2 ^ (blen d - 1) * 2 ^ (B + 2).toNat ≤ d * 2 ^ (B + 2).toNat := Nat.mul_le_mul_right _ d1
    have h3 : 2 ^ blen u * 2 ^ (-(B + 2)).toNat = 2 ^ (blen d - 1) * 2 ^ (B + 2).toNat := by rw [← Nat.pow_add, ← Nat.pow_add]; congr 1; omega
    omega
theorem isX_lt {u d : Nat} {e f : Int} (hu : 0 < u) (h : isX u d e) (hf : ¬ rch u d f) : e < f := by
  apply Int.lt_of_not_ge
  intro w
  exact hf (rch_mono hu w h.1)
theorem isX_ge {u d : Nat} {e f : Int} (hu : 0 < u) (h : isX u d e) (hf : rch u d f) : f ≤ e := by
  apply Int.le_of_not_gt
  intro w
  exact h.2 (rch_mono hu (by omega) hf)
theorem leX_b {u d : Nat} {E B : Int} (hu : 0 < u) (hd : 0 < d) (hX : isX u d E) (hB : B = (blen u : Int) - blen d - 1) (hBr : -160 ≤ B ∧ B < 160) : leX B ≤ E ∧ E ≤ leX B + 2 := by
  obtain ⟨l1, l2, l3⟩ := leX_dec hBr
  obtain ⟨b1, b2⟩ := bits_rng hu hd hB
  refine ⟨isX_ge hu hX (rch_ge l1 b1), ?_⟩
  have := isX_lt hu hX (rch_lt l3 b2)
  omega
theorem rdq_big {u d m : Nat} {e E : Int} (hu : 0 < u) (hd : 0 < d) (hX : isX u d E) (he : e < E) : 10 ^ m ≤ rdq u d ((m : Int) - 1 - e) := by
  have h1 := (rch_k (k := m)).mp (rch_mono hu (show e + 1 ≤ E by omega) hX.1)
  rw [show (m : Int) - (e + 1) = (m : Int) - 1 - e by omega] at h1
  unfold rdq
  have hb : 0 < d * 10 ^ (-((m : Int) - 1 - e)).toNat := Nat.mul_pos hd (Nat.pow_pos (by decide))
  have h2 : 10 ^ m ≤ u * 10 ^ ((m : Int) - 1 - e).toNat / (d * 10 ^ (-((m : Int) - 1 - e)).toNat) := (Nat.le_div_iff_mul_le hb).mpr h1
  exact Nat.le_trans h2 (by unfold rnd; split <;> omega)
theorem ndm_big {q m : Nat} (h : 10 ^ m ≤ q) : m < ndm 10 1 q := by
  have a2 : ¬ ndg 10 q ≤ m := fun w => by have := (ndg_le (b := 10) (by decide)).mp w; omega
  unfold ndm
  split <;> omega
theorem dgL_m {q m : Nat} (h : ndm 10 1 q = m) : dgL 10 0 1 q = sgr (dgv 10 q) 0 3 0 0 m := by unfold dgL; rw [h]
theorem rep_0 (m : Nat) : List.replicate m 48 = sgr (dgv 10 0) 0 3 0 0 m := by
  induction m with
  | zero => rfl
  | succ m ih =>
    rw [sgr_n (by omega), ← ih, List.replicate_succ]
    have : dgv 10 0 (0 + m) = 0 := by unfold dgv; rw [Nat.zero_div]
    rw [this]; rfl
set_option maxRecDepth 100000 in
set_option maxHeartbeats 4000000 in
theorem c_P_putGroups {l : Launch} (hfl : l.flags = flags0) {D : va_G} {g : Nat → ClassId} {ad : Nat → Nat} {N : Nat} {F0 : Nat → va_E} {W : Nat → Nat} {K S : Nat → Int} {ex : Int} {wB : List Nat} {hB : Nat → Int} {wD : List Nat} {hD : Nat → Int} {dv : Nat → Nat} {cap : Int} {to n cnt size pt : Nat}
    (hN : 109 ≤ N) (hW : bW W) (hPn : F0 43 = oP ad ex) (hTB : F0 48 = oT ad 48 (wB.length : Int)) (hAB : F0 49 = aT g hB) (ttB : tx hB wB) (hlB : wB.length ≤ 200) (hTD : F0 50 = oT ad 50 (wD.length : Int)) (hAD : F0 51 = aT g hD) (ttD : tx hD wD) (hlD : wD.length ≤ 200) (hwd : wD = sgr dv cap 3 0 to n) (hdv : ∀ k, dv k < 16) (hcn : cnt ≤ n) (hsz : size = 3 ∨ size = 4) (hpt : pt < 128) (hln : wB.length + (sgr dv cap size pt (to + n - cnt) cnt).length ≤ 199) (hn200 : n ≤ 200) :
    JC l y_P_putGroups b_P_putGroups 5 (Option.none : Option Jvm.ClassFile.FieldType) rm_P_putGroups (0, 0) D jCl (jTys g) ad N (cF ad g F0 W K S) [.ref (ad 43), .int (iI (cnt : Int)), .int (iI (size : Int)), .int (iI (pt : Int))] (jv ad N (fun F' => ∃ h' : Nat → Int, tx h' (wB ++ sgr dv cap size pt (to + n - cnt) cnt) ∧ F' = cF ad g (va_up (va_up F0 49 (aT g h')) 48 (oT ad 48 ((wB ++ sgr dv cap size pt (to + n - cnt) cnt).length : Int))) W K S)) := by
  refine JC.go hfl (own := "NumberTower$Pen") (lv := [(0, .ref (ad 43)), (1, .int (iI (cnt : Int))), (2, .int (iI (size : Int))), (3, .int (iI (pt : Int)))]) rfl (by decide +kernel) (Nat.le_of_ble_eq_true rfl) rfl (fun A => ?_)
  refine J_iconst d_P_putGroups_0 ?_
  refine J_istore (lv' := [(4, .int (iI 0)), (0, .ref (ad 43)), (1, .int (iI (cnt : Int))), (2, .int (iI (size : Int))), (3, .int (iI (pt : Int)))]) d_P_putGroups_1 (by decide) rfl ?_
  refine J_pick (lv' := [(0, .ref (ad 43)), (1, .int (iI (cnt : Int))), (2, .int (iI (size : Int))), (3, .int (iI (pt : Int))), (4, .int (iI 0))]) [1, 2, 3, 4, 0] rfl ?_
  refine J_eqF (F2 := cF ad g (va_up F0 49 (.inl (g 1, 200, .inl (aI hB)))) W K S) (congrArg (fun qq : Nat → va_E => cF ad g qq W K S) (up_same1 (i := 49) (a := ((.inl (g 1, 200, .inl (aI hB))) : va_E)) (hAB))) ?_
  refine J_eqF (F2 := cF ad g (va_up (va_up F0 49 (.inl (g 1, 200, .inl (aI hB)))) 48 (.inr (7, [.ref (ad 49), .int (iI ((wB.length : Nat) : Int))]))) W K S) (congrArg (fun qq : Nat → va_E => cF ad g qq W K S) (up_same1 (i := 48) (a := ((.inr (7, [.ref (ad 49), .int (iI ((wB.length : Nat) : Int))])) : va_E)) (by rw [va_up_ne _ _ (by decide)]; exact hTB))) ?_
  have loop3 : ∀ (fuel : Nat) (i : Nat) (w2 : List Nat) (h2 : Nat → Int) (hi : i ≤ cnt) (tt2 : tx h2 w2) (htg : w2 ++ (gsep pt size i (cnt - i) ++ sgr dv cap size pt (to + n - cnt) (cnt - i)) = wB ++ sgr dv cap size pt (to + n - cnt) cnt) (hfu : cnt - i < fuel), J l rm_P_putGroups (0, 0) "NumberTower$Pen" b_P_putGroups 5 (Option.none : Option Jvm.ClassFile.FieldType) D jCl (jTys g) A (fun _ me => me.name = y_P_putGroups.name) (jv ad N (fun F' => ∃ h' : Nat → Int, tx h' (wB ++ sgr dv cap size pt (to + n - cnt) cnt) ∧ F' = cF ad g (va_up (va_up F0 49 (aT g h')) 48 (oT ad 48 ((wB ++ sgr dv cap size pt (to + n - cnt) cnt).length : Int))) W K S)) ad N 0 0 3 [(0, .ref (ad 43)), (1, .int (iI (cnt : Int))), (2, .int (iI (size : Int))), (3, .int (iI (pt : Int))), (4, .int (iI (i : Int)))] [] (cF ad g (va_up (va_up F0 49 (.inl (g 1, 200, .inl (aI h2)))) 48 (.inr (7, [.ref (ad 49), .int (iI ((w2.length : Nat) : Int))]))) W K S) := by
    intro fuel
    induction fuel with
    | zero => intro i w2 h2 hi tt2 htg hfu; exact absurd hfu (Nat.not_lt_zero _)
    | succ fuel ih =>
      intro i w2 h2 hi tt2 htg hfu
      have hlen := congrArg List.length htg
      simp only [List.length_append] at hlen
      have hsl := (sgr_l (dv := dv) (cap := cap) (grp := size) (pt := pt) (to := to + n - cnt) (cnt - i)).2
      have hw2l : w2.length ≤ 199 := by omega
      refine J_iload 4 d_P_putGroups_3 rfl ?_
      refine J_iload_n 1 d_P_putGroups_5 rfl rfl ?_
      refine J_if_icmpge (tgt := 61) d_P_putGroups_6 (by decide) ⟨by omega, by omega⟩ ⟨by omega, by omega⟩ (fun c6 => ?_) (fun c6 => ?_)
      · refine J_vret rfl d_P_putGroups_61 ⟨by decide, by decide⟩ ?_
        have hie : i = cnt := by omega
        have hw9 : w2 = wB ++ sgr dv cap size pt (to + n - cnt) cnt := by rw [← htg, hie, Nat.sub_self, gsep_n (by omega)]; exact (List.append_nil _).symm
        rw [← hw9]
        exact ⟨rfl, rfl, rfl, _, tt2, rfl⟩
      · have lab39 : ∀ (w3 : List Nat) (h3 : Nat → Int) (tt3 : tx h3 w3) (htg3 : w3 ++ sgr dv cap size pt (to + n - cnt) (cnt - i) = wB ++ sgr dv cap size pt (to + n - cnt) cnt) , J l rm_P_putGroups (0, 0) "NumberTower$Pen" b_P_putGroups 5 (Option.none : Option Jvm.ClassFile.FieldType) D jCl (jTys g) A (fun _ me => me.name = y_P_putGroups.name) (jv ad N (fun F' => ∃ h' : Nat → Int, tx h' (wB ++ sgr dv cap size pt (to + n - cnt) cnt) ∧ F' = cF ad g (va_up (va_up F0 49 (aT g h')) 48 (oT ad 48 ((wB ++ sgr dv cap size pt (to + n - cnt) cnt).length : Int))) W K S)) ad N 0 0 39 [(0, .ref (ad 43)), (1, .int (iI (cnt : Int))), (2, .int (iI (size : Int))), (3, .int (iI (pt : Int))), (4, .int (iI (i : Int)))] [] (cF ad g (va_up (va_up F0 49 (.inl (g 1, 200, .inl (aI h3)))) 48 (.inr (7, [.ref (ad 49), .int (iI ((w3.length : Nat) : Int))]))) W K S) := by
          intro w3 h3 tt3 htg3
          have hlen3 := congrArg List.length htg3
          simp only [List.length_append] at hlen3
          have hw3l : w3.length < 200 := by omega
          refine J_aload_n 0 d_P_putGroups_39 rfl rfl ?_
          refine gf_P_21 (by omega) ((cF_0 (by decide)).trans (by rw [va_up_ne _ _ (by decide), va_up_ne _ _ (by decide)]; exact hPn)) rfl d_P_putGroups_40 ?_
          refine J_aload_n 0 d_P_putGroups_43 rfl rfl ?_
          refine gf_P_24 (by omega) ((cF_0 (by decide)).trans (by rw [va_up_ne _ _ (by decide), va_up_ne _ _ (by decide)]; exact hPn)) rfl d_P_putGroups_44 ?_
          refine J_iload 4 d_P_putGroups_47 rfl ?_
          refine J_callVi cw_P_105 nh_T_at pn_T_at rfl rfl (by omega) ((cF_0 (by decide)).trans (by rw [va_up_ne _ _ (by decide), va_up_ne _ _ (by decide)]; exact hTD)) (As := [.int (iI (i : Int))]) (rest := [.ref (ad 48)]) rfl (Nat.le_of_ble_eq_true rfl) ⟨by decide, by decide⟩ rfl ⟨by decide, by decide⟩ d_P_putGroups_49 (c_T_at hfl (k := 50) (w := wD) (hh := hD) (n := (i : Int)) (by omega) ((cF_0 (by decide)).trans (by rw [va_up_ne _ _ (by decide), va_up_ne _ _ (by decide)]; exact hTD)) ((cF_0 (by decide)).trans (by rw [va_up_ne _ _ (by decide), va_up_ne _ _ (by decide)]; exact hAD)) ttD hlD ⟨by omega, by omega⟩) (fun ta1 F1 hq => ?_)
          obtain ⟨hta1, eF1⟩ := hq
          refine J_eqF eF1 ?_
          refine J_topi (r := tat wD (i : Int)) (congrArg iI hta1) ?_
          have htd : tat wD (i : Int) = ((chd cap (dv (to + n - 1 - i)) : Nat) : Int) := by rw [hwd]; exact tat_sgr (by omega)
          have hcb := chd_b (cap := cap) (hdv (to + n - 1 - i))
          have htg4 : w3 ++ ([chd cap (dv (to + n - 1 - i))] ++ (gsep pt size (i + 1) (cnt - (i + 1)) ++ sgr dv cap size pt (to + n - cnt) (cnt - (i + 1)))) = wB ++ sgr dv cap size pt (to + n - cnt) cnt := by
            rw [← htg3, show cnt - i = cnt - (i + 1) + 1 by omega, sgr_g (i := i), show to + n - cnt + (cnt - (i + 1)) = to + n - 1 - i by omega]; rfl
          refine J_topi (r := (((chd cap (dv (to + n - 1 - i)) : Nat)) : Int)) (congrArg iI htd) ?_
          refine J_callVv cw_P_49 nh_T_put pn_T_put rfl rfl (by omega) ((cF_0 (by decide)).trans (by rw [va_up_self])) (As := [.int (iI (((chd cap (dv (to + n - 1 - i)) : Nat)) : Int))]) (rest := []) rfl (Nat.le_of_ble_eq_true rfl) ⟨by decide, by decide⟩ rfl ⟨by decide, by decide⟩ d_P_putGroups_52 (c_T_putN hfl (k := 48) (w := w3) (hh := h3) (c := chd cap (dv (to + n - 1 - i))) (by omega) ((cF_0 (by decide)).trans (by rw [va_up_self])) ((cF_0 (by decide)).trans (by rw [va_up_ne _ _ (by decide), va_up_self])) tt3 (by omega) (by omega)) (fun  F2 hq => ?_)
          obtain ⟨hh2, htx3, eF2⟩ := hq
          refine J_eqF (F2 := cF ad g (va_up (va_up F0 49 (.inl (g 1, 200, .inl (aI hh2)))) 48 (.inr (7, [.ref (ad 49), .int (iI (((w3 ++ [chd cap (dv (to + n - 1 - i))]).length : Nat) : Int))]))) W K S) (eF2.trans (Eq.trans (congrArg (fun qF : Nat → va_E => va_up qF 48 (.inr (7, [.ref (ad 49), .int (iI (((w3 ++ [chd cap (dv (to + n - 1 - i))]).length : Nat) : Int))]))) ((cF_up0 (by decide)).trans (congrArg (fun qq => cF ad g qq W K S) (up_in1 (by decide))))) ((cF_up0 (by decide)).trans (congrArg (fun qq => cF ad g qq W K S) (up_in0))))) ?_
          refine J_iinc (j := 4) (b := (i : Int) + 1) (lv' := [(4, .int (iI ((i : Int) + 1))), (0, .ref (ad 43)), (1, .int (iI (cnt : Int))), (2, .int (iI (size : Int))), (3, .int (iI (pt : Int)))]) d_P_putGroups_55 rfl (by omega) (by decide) rfl ?_
          refine J_goto (tgt := 3) d_P_putGroups_58 (by decide) ?_
          refine J_pick (lv' := [(0, .ref (ad 43)), (1, .int (iI (cnt : Int))), (2, .int (iI (size : Int))), (3, .int (iI (pt : Int))), (4, .int (iI ((i : Int) + 1)))]) [1, 2, 3, 4, 0] rfl ?_
          exact ih (i + 1) (w3 ++ [chd cap (dv (to + n - 1 - i))]) hh2 (by omega) htx3 (by rw [List.append_assoc]; exact htg4) (by omega)
        refine J_iload_n 3 d_P_putGroups_9 rfl rfl ?_
        refine J_ifeq (tgt := 39) d_P_putGroups_10 (by decide) ⟨by omega, by omega⟩ (fun c10 => ?_) (fun c10 => ?_)
        · exact lab39 w2 h2 tt2 (by rw [← htg, gsep_n (by omega)]; rfl)
        · refine J_iload 4 d_P_putGroups_13 rfl ?_
          refine J_ifle (tgt := 39) d_P_putGroups_15 (by decide) ⟨by omega, by omega⟩ (fun c15 => ?_) (fun c15 => ?_)
          · exact lab39 w2 h2 tt2 (by rw [← htg, gsep_n (by omega)]; rfl)
          · refine J_iload_n 2 d_P_putGroups_18 rfl rfl ?_
            refine J_ifle (tgt := 39) d_P_putGroups_19 (by decide) ⟨by omega, by omega⟩ (fun c19 => ?_) (fun c19 => ?_)
            · exact lab39 w2 h2 tt2 (by rw [← htg, gsep_n (by omega)]; rfl)
            · refine J_iload_n 1 d_P_putGroups_22 rfl rfl ?_
              refine J_iload 4 d_P_putGroups_23 rfl ?_
              refine J_isub d_P_putGroups_25 ?_
              refine J_topi (r := ((cnt - i : Nat) : Int)) (congrArg iI (by omega)) ?_
              refine J_iload_n 2 d_P_putGroups_26 rfl rfl ?_
              refine J_iremn d_P_putGroups_27 (by omega) (by omega) ?_
              refine J_topi (r := (((cnt - i) % size : Nat) : Int)) (congrArg iI rfl) ?_
              have hmg := Nat.mod_lt (cnt - i) (show 0 < size by omega)
              refine J_ifne (tgt := 39) d_P_putGroups_28 (by decide) ⟨by omega, by omega⟩ (fun c28 => ?_) (fun c28 => ?_)
              · exact lab39 w2 h2 tt2 (by rw [← htg, gsep_n (by omega)]; rfl)
              · refine J_aload_n 0 d_P_putGroups_31 rfl rfl ?_
                refine gf_P_21 (by omega) ((cF_0 (by decide)).trans (by rw [va_up_ne _ _ (by decide), va_up_ne _ _ (by decide)]; exact hPn)) rfl d_P_putGroups_32 ?_
                refine J_iload_n 3 d_P_putGroups_35 rfl rfl ?_
                refine J_callVv cw_P_49 nh_T_put pn_T_put rfl rfl (by omega) ((cF_0 (by decide)).trans (by rw [va_up_self])) (As := [.int (iI (pt : Int))]) (rest := []) rfl (Nat.le_of_ble_eq_true rfl) ⟨by decide, by decide⟩ rfl ⟨by decide, by decide⟩ d_P_putGroups_36 (c_T_putN hfl (k := 48) (w := w2) (hh := h2) (c := pt) (by omega) ((cF_0 (by decide)).trans (by rw [va_up_self])) ((cF_0 (by decide)).trans (by rw [va_up_ne _ _ (by decide), va_up_self])) tt2 (by omega) (by omega)) (fun  F3 hq => ?_)
                obtain ⟨hh4, htx5, eF3⟩ := hq
                refine J_eqF (F2 := cF ad g (va_up (va_up F0 49 (.inl (g 1, 200, .inl (aI hh4)))) 48 (.inr (7, [.ref (ad 49), .int (iI (((w2 ++ [pt]).length : Nat) : Int))]))) W K S) (eF3.trans (Eq.trans (congrArg (fun qF : Nat → va_E => va_up qF 48 (.inr (7, [.ref (ad 49), .int (iI (((w2 ++ [pt]).length : Nat) : Int))]))) ((cF_up0 (by decide)).trans (congrArg (fun qq => cF ad g qq W K S) (up_in1 (by decide))))) ((cF_up0 (by decide)).trans (congrArg (fun qq => cF ad g qq W K S) (up_in0))))) ?_
                exact lab39 (w2 ++ [pt]) hh4 htx5 (by rw [← htg, gsep_y ⟨by omega, by omega, by omega, by omega⟩, List.append_assoc])
  exact loop3 ((cnt - 0) + 1) 0 wB hB (Nat.zero_le _) ttB (by rw [gsep_n (by omega)]; rfl) (Nat.lt_succ_self _)
set_option maxRecDepth 100000 in
set_option maxHeartbeats 4000000 in
theorem c_P_roundScaled {l : Launch} (hfl : l.flags = flags0) {D : va_G} {g : Nat → ClassId} {ad : Nat → Nat} {N : Nat} {F0 : Nat → va_E} {W : Nat → Nat} {K S : Nat → Int} {ex : Int}  {p u d : Nat} {n : Int}
    (hN : 109 ≤ N) (hW : bW W) (hPn : F0 43 = oP ad ex)  (hp : isU p) (hp2 : p < 52 ∨ 57 < p) (hu : W (p + 1) = u) (hd : W (p + 3) = d) (hb : u < 2 ^ 154 ∧ d < 2 ^ 154) (hd0 : 0 < d) (hn : -85 ≤ n ∧ n ≤ 85) :
    JC l y_P_roundScaled b_P_roundScaled 3 (Option.none : Option Jvm.ClassFile.FieldType) rm_P_roundScaled (0, 0) D jCl (jTys g) ad N (cF ad g F0 W K S) [.ref (ad 43), .ref (ad p), .int (iI n)] (jv ad N (fun F' => ∃ W' : Nat → Nat, bW W' ∧ W' 52 = rdq u d n ∧ (∀ j, j ≠ 52 → j ≠ 54 → j ≠ 56 → W' j = W j) ∧ F' = cF ad g F0 W' K S)) := by
  have hp4 := (isU_1 hp).1
  have hp0 := isU_0 hp
  have hxu : u * 10 ^ n.toNat < 2 ^ 450 := Nat.lt_of_lt_of_le (Nat.mul_lt_mul_of_lt_of_le hb.1 (Nat.pow_le_pow_right (by decide) (show n.toNat ≤ 85 by omega)) (Nat.pow_pos (by decide))) (by decide +kernel)
  have hyu : d * 10 ^ (-n).toNat < 2 ^ 450 := Nat.lt_of_lt_of_le (Nat.mul_lt_mul_of_lt_of_le hb.2 (Nat.pow_le_pow_right (by decide) (show (-n).toNat ≤ 85 by omega)) (Nat.pow_pos (by decide))) (by decide +kernel)
  have hqu : (u * 10 ^ n.toNat) / (d * 10 ^ (-n).toNat) < 2 ^ 450 := Nat.lt_of_le_of_lt (Nat.div_le_self _ _) hxu
  have hru : (u * 10 ^ n.toNat) % (d * 10 ^ (-n).toNat) < 2 ^ 450 := Nat.lt_of_le_of_lt (Nat.mod_le _ _) hxu
  refine JC.go hfl (own := "NumberTower$Pen") (lv := [(0, .ref (ad 43)), (1, .ref (ad p)), (2, .int (iI n))]) rfl (by decide +kernel) (Nat.le_of_ble_eq_true rfl) rfl (fun A => ?_)
  refine J_aload_n 0 d_P_roundScaled_0 rfl rfl ?_
  refine gf_P_30 (by omega) ((cF_0 (by decide)).trans hPn) rfl d_P_roundScaled_1 ?_
  refine J_aload_n 1 d_P_roundScaled_4 rfl rfl ?_
  refine gf_P_67 (by omega) (cF_U hp rfl rfl) rfl d_P_roundScaled_5 ?_
  refine J_callVv cw_P_81 nh_N_copyFrom pn_N_copyFrom rfl rfl (by omega) (cF_N (by decide) rfl) (As := [.ref (ad (p + 1))]) (rest := []) rfl (Nat.le_of_ble_eq_true rfl) ⟨by decide, by decide⟩ rfl ⟨by decide, by decide⟩ d_P_roundScaled_8 (n_copyFrom hfl (F0 := F0) (W := W) (K := K) (S := S) (k := 52) (m := p + 1) (hN := by omega) (hW := hW) (hk := (by decide)) (hm := (isU_1 hp).2.1) (x := u) (hx := hu) (hd := (by omega))) (fun  F9 hq => ?_)
  obtain ⟨hW7, eF8⟩ := hq
  refine J_eqF (F2 := cF ad g F0 (va_up W 52 u) K S) eF8 ?_
  refine J_aload_n 0 d_P_roundScaled_11 rfl rfl ?_
  refine gf_P_34 (by omega) ((cF_0 (by decide)).trans hPn) rfl d_P_roundScaled_12 ?_
  refine J_aload_n 1 d_P_roundScaled_15 rfl rfl ?_
  refine gf_P_74 (by omega) (cF_U hp rfl rfl) rfl d_P_roundScaled_16 ?_
  refine J_callVv cw_P_81 nh_N_copyFrom pn_N_copyFrom rfl rfl (by omega) (cF_N (by decide) (va_up_ne _ _ (by decide))) (As := [.ref (ad (p + 3))]) (rest := []) rfl (Nat.le_of_ble_eq_true rfl) ⟨by decide, by decide⟩ rfl ⟨by decide, by decide⟩ d_P_roundScaled_19 (n_copyFrom hfl (F0 := F0) (W := va_up W 52 u) (K := K) (S := S) (k := 54) (m := p + 3) (hN := by omega) (hW := hW7) (hk := (by decide)) (hm := (isU_1 hp).2.2) (x := d) (hx := ((va_up_ne _ _ (by omega)).trans hd)) (hd := (by omega))) (fun  F13 hq => ?_)
  obtain ⟨hW11, eF12⟩ := hq
  refine J_eqF (F2 := cF ad g F0 (va_up (va_up W 52 u) 54 d) K S) eF12 ?_
  refine J_aload_n 0 d_P_roundScaled_22 rfl rfl ?_
  refine gf_P_30 (by omega) ((cF_0 (by decide)).trans hPn) rfl d_P_roundScaled_23 ?_
  refine J_iload_n 2 d_P_roundScaled_26 rfl rfl ?_
  refine J_callVv cw_P_168 nh_N_scaleTens pn_N_scaleTens rfl rfl (by omega) (cF_N (by decide) ((va_up_ne _ _ (by decide)).trans (va_up_self ..))) (As := [.int (iI n)]) (rest := []) rfl (Nat.le_of_ble_eq_true rfl) ⟨by decide, by decide⟩ rfl ⟨by decide, by decide⟩ d_P_roundScaled_27 (n_scaleTens hfl (F0 := F0) (W := va_up (va_up W 52 u) 54 d) (K := K) (S := S) (k := 52) (n := n) (hN := by omega) (hW := hW11) (hk := (by decide)) (x := u) (hx := ((va_up_ne _ _ (by decide)).trans (va_up_self ..))) (hn := ⟨by omega, by omega⟩) (ht := Nat.lt_trans hxu (by decide))) (fun  F17 hq => ?_)
  obtain ⟨hW15, eF16⟩ := hq
  have hW18 := (congrArg bW (up_in1 (by decide))).mp hW15
  refine J_eqF (F2 := cF ad g F0 (va_up (va_up W 52 (u * 10 ^ n.toNat)) 54 d) K S) (eF16.trans (congrArg (fun qq => cF ad g F0 qq K S) (up_in1 (by decide)))) ?_
  refine J_aload_n 0 d_P_roundScaled_30 rfl rfl ?_
  refine gf_P_34 (by omega) ((cF_0 (by decide)).trans hPn) rfl d_P_roundScaled_31 ?_
  refine J_iload_n 2 d_P_roundScaled_34 rfl rfl ?_
  refine J_ineg d_P_roundScaled_35 ?_
  refine J_callVv cw_P_168 nh_N_scaleTens pn_N_scaleTens rfl rfl (by omega) (cF_N (by decide) (va_up_self ..)) (As := [.int (iI (-n))]) (rest := []) rfl (Nat.le_of_ble_eq_true rfl) ⟨by decide, by decide⟩ rfl ⟨by decide, by decide⟩ d_P_roundScaled_36 (n_scaleTens hfl (F0 := F0) (W := va_up (va_up W 52 (u * 10 ^ n.toNat)) 54 d) (K := K) (S := S) (k := 54) (n := -n) (hN := by omega) (hW := hW18) (hk := (by decide)) (x := d) (hx := (va_up_self ..)) (hn := ⟨by omega, by omega⟩) (ht := Nat.lt_trans hyu (by decide))) (fun  F22 hq => ?_)
  obtain ⟨hW20, eF21⟩ := hq
  have hW23 := (congrArg bW (up_in0)).mp hW20
  refine J_eqF (F2 := cF ad g F0 (va_up (va_up W 52 (u * 10 ^ n.toNat)) 54 (d * 10 ^ ((-n).toNat))) K S) (eF21.trans (congrArg (fun qq => cF ad g F0 qq K S) (up_in0))) ?_
  refine J_aload_n 0 d_P_roundScaled_39 rfl rfl ?_
  refine gf_P_30 (by omega) ((cF_0 (by decide)).trans hPn) rfl d_P_roundScaled_40 ?_
  refine J_aload_n 0 d_P_roundScaled_43 rfl rfl ?_
  refine gf_P_34 (by omega) ((cF_0 (by decide)).trans hPn) rfl d_P_roundScaled_44 ?_
  refine J_aload_n 0 d_P_roundScaled_47 rfl rfl ?_
  refine gf_P_37 (by omega) ((cF_0 (by decide)).trans hPn) rfl d_P_roundScaled_48 ?_
  refine J_callVv cw_P_171 nh_N_divide pn_N_divide rfl rfl (by omega) (cF_N (by decide) ((va_up_ne _ _ (by decide)).trans (va_up_self ..))) (As := [.ref (ad 54), .ref (ad 56)]) (rest := []) rfl (Nat.le_of_ble_eq_true rfl) ⟨by decide, by decide⟩ rfl ⟨by decide, by decide⟩ d_P_roundScaled_51 (n_divide hfl (F0 := F0) (W := va_up (va_up W 52 (u * 10 ^ n.toNat)) 54 (d * 10 ^ ((-n).toNat))) (K := K) (S := S) (k := 52) (m := 54) (p := 56) (hN := by omega) (hW := hW23) (hk := (by decide)) (hm := (by decide)) (hp := (by decide)) (x := u * 10 ^ n.toNat) (hx := ((va_up_ne _ _ (by decide)).trans (va_up_self ..))) (y := d * 10 ^ ((-n).toNat)) (hy := (va_up_self ..)) (hd := (by decide)) (hd1 := (by decide)) (hd2 := (by decide)) (hx4 := hxu) (hy4 := hyu)) (fun  F27 hq => ?_)
  obtain ⟨hW25, eF26⟩ := hq
  have hW28 := (congrArg bW (up_in2 (by decide) (by decide))).mp hW25
  refine J_eqF (F2 := cF ad g F0 (va_up (va_up (va_up W 52 ((u * 10 ^ n.toNat) % (d * 10 ^ ((-n).toNat)))) 54 (d * 10 ^ ((-n).toNat))) 56 ((u * 10 ^ n.toNat) / (d * 10 ^ ((-n).toNat)))) K S) (eF26.trans (congrArg (fun qq => cF ad g F0 qq K S) (up_in2 (by decide) (by decide)))) ?_
  refine J_aload_n 0 d_P_roundScaled_54 rfl rfl ?_
  refine gf_P_37 (by omega) ((cF_0 (by decide)).trans hPn) rfl d_P_roundScaled_55 ?_
  refine J_aload_n 0 d_P_roundScaled_58 rfl rfl ?_
  refine gf_P_30 (by omega) ((cF_0 (by decide)).trans hPn) rfl d_P_roundScaled_59 ?_
  refine J_aload_n 0 d_P_roundScaled_62 rfl rfl ?_
  refine gf_P_34 (by omega) ((cF_0 (by decide)).trans hPn) rfl d_P_roundScaled_63 ?_
  refine J_callVv cw_P_230 nh_N_roundBy pn_N_roundBy rfl rfl (by omega) (cF_N (by decide) (va_up_self ..)) (As := [.ref (ad 52), .ref (ad 54)]) (rest := []) rfl (Nat.le_of_ble_eq_true rfl) ⟨by decide, by decide⟩ rfl ⟨by decide, by decide⟩ d_P_roundScaled_66 (n_roundBy hfl (F0 := F0) (W := va_up (va_up (va_up W 52 ((u * 10 ^ n.toNat) % (d * 10 ^ ((-n).toNat)))) 54 (d * 10 ^ ((-n).toNat))) 56 ((u * 10 ^ n.toNat) / (d * 10 ^ ((-n).toNat)))) (K := K) (S := S) (k := 56) (p := 52) (m := 54) (hN := by omega) (hW := hW28) (hk := (by decide)) (hp := (by decide)) (hm := (by decide)) (x := (u * 10 ^ n.toNat) / (d * 10 ^ ((-n).toNat))) (hx := (va_up_self ..)) (r := (u * 10 ^ n.toNat) % (d * 10 ^ ((-n).toNat))) (hr := ((va_up_ne _ _ (by decide)).trans ((va_up_ne _ _ (by decide)).trans (va_up_self ..)))) (y := d * 10 ^ ((-n).toNat)) (hy := ((va_up_ne _ _ (by decide)).trans (va_up_self ..))) (hd0 := (by decide)) (hd1 := (by decide)) (hd2 := (by decide)) (hr4 := Nat.lt_trans hru (by decide)) (hq1 := Nat.lt_of_le_of_lt hqu (by decide))) (fun  F32 hq => ?_)
  obtain ⟨hW30, eF31⟩ := hq
  have hW33 := (congrArg bW (Eq.trans (congrArg (fun qq : Nat → Nat => va_up qq 56 (rnd ((u * 10 ^ n.toNat) / (d * 10 ^ ((-n).toNat))) ((u * 10 ^ n.toNat) % (d * 10 ^ ((-n).toNat))) (d * 10 ^ ((-n).toNat)))) (up_in2 (by decide) (by decide))) (up_in0))).mp hW30
  refine J_eqF (F2 := cF ad g F0 (va_up (va_up (va_up W 52 (((u * 10 ^ n.toNat) % (d * 10 ^ ((-n).toNat))) * 2)) 54 (d * 10 ^ ((-n).toNat))) 56 (rnd ((u * 10 ^ n.toNat) / (d * 10 ^ ((-n).toNat))) ((u * 10 ^ n.toNat) % (d * 10 ^ ((-n).toNat))) (d * 10 ^ ((-n).toNat)))) K S) (eF31.trans (congrArg (fun qq => cF ad g F0 qq K S) (Eq.trans (congrArg (fun qq : Nat → Nat => va_up qq 56 (rnd ((u * 10 ^ n.toNat) / (d * 10 ^ ((-n).toNat))) ((u * 10 ^ n.toNat) % (d * 10 ^ ((-n).toNat))) (d * 10 ^ ((-n).toNat)))) (up_in2 (by decide) (by decide))) (up_in0)))) ?_
  refine J_aload_n 0 d_P_roundScaled_69 rfl rfl ?_
  refine gf_P_30 (by omega) ((cF_0 (by decide)).trans hPn) rfl d_P_roundScaled_70 ?_
  refine J_aload_n 0 d_P_roundScaled_73 rfl rfl ?_
  refine gf_P_37 (by omega) ((cF_0 (by decide)).trans hPn) rfl d_P_roundScaled_74 ?_
  refine J_callVv cw_P_81 nh_N_copyFrom pn_N_copyFrom rfl rfl (by omega) (cF_N (by decide) ((va_up_ne _ _ (by decide)).trans ((va_up_ne _ _ (by decide)).trans (va_up_self ..)))) (As := [.ref (ad 56)]) (rest := []) rfl (Nat.le_of_ble_eq_true rfl) ⟨by decide, by decide⟩ rfl ⟨by decide, by decide⟩ d_P_roundScaled_77 (n_copyFrom hfl (F0 := F0) (W := va_up (va_up (va_up W 52 (((u * 10 ^ n.toNat) % (d * 10 ^ ((-n).toNat))) * 2)) 54 (d * 10 ^ ((-n).toNat))) 56 (rnd ((u * 10 ^ n.toNat) / (d * 10 ^ ((-n).toNat))) ((u * 10 ^ n.toNat) % (d * 10 ^ ((-n).toNat))) (d * 10 ^ ((-n).toNat)))) (K := K) (S := S) (k := 52) (m := 56) (hN := by omega) (hW := hW33) (hk := (by decide)) (hm := (by decide)) (x := rnd ((u * 10 ^ n.toNat) / (d * 10 ^ ((-n).toNat))) ((u * 10 ^ n.toNat) % (d * 10 ^ ((-n).toNat))) (d * 10 ^ ((-n).toNat))) (hx := (va_up_self ..)) (hd := (by decide))) (fun  F37 hq => ?_)
  obtain ⟨hW35, eF36⟩ := hq
  have hW38 := (congrArg bW (up_in2 (by decide) (by decide))).mp hW35
  refine J_eqF (F2 := cF ad g F0 (va_up (va_up (va_up W 52 (rnd ((u * 10 ^ n.toNat) / (d * 10 ^ ((-n).toNat))) ((u * 10 ^ n.toNat) % (d * 10 ^ ((-n).toNat))) (d * 10 ^ ((-n).toNat)))) 54 (d * 10 ^ ((-n).toNat))) 56 (rnd ((u * 10 ^ n.toNat) / (d * 10 ^ ((-n).toNat))) ((u * 10 ^ n.toNat) % (d * 10 ^ ((-n).toNat))) (d * 10 ^ ((-n).toNat)))) K S) (eF36.trans (congrArg (fun qq => cF ad g F0 qq K S) (up_in2 (by decide) (by decide)))) ?_
  refine J_vret rfl d_P_roundScaled_80 ⟨by decide, by decide⟩ ?_
  exact ⟨rfl, rfl, rfl, _, hW38, ((va_up_ne _ _ (by decide)).trans ((va_up_ne _ _ (by decide)).trans (va_up_self ..))), fun j h1 h2 h3 => (show (va_up (va_up (va_up W 52 (rnd ((u * 10 ^ n.toNat) / (d * 10 ^ ((-n).toNat))) ((u * 10 ^ n.toNat) % (d * 10 ^ ((-n).toNat))) (d * 10 ^ ((-n).toNat)))) 54 (d * 10 ^ ((-n).toNat))) 56 (rnd ((u * 10 ^ n.toNat) / (d * 10 ^ ((-n).toNat))) ((u * 10 ^ n.toNat) % (d * 10 ^ ((-n).toNat))) (d * 10 ^ ((-n).toNat)))) j = W j from by rw [va_up_ne _ _ (by assumption), va_up_ne _ _ (by assumption), va_up_ne _ _ (by assumption)]), rfl⟩
set_option maxRecDepth 100000 in
set_option maxHeartbeats 4000000 in
theorem c_P_leastExponent {l : Launch} (hfl : l.flags = flags0) {D : va_G} {g : Nat → ClassId} {ad : Nat → Nat} {N : Nat} {F0 : Nat → va_E} {W : Nat → Nat} {K S : Nat → Int}  {a : Int}
    (hN : 109 ≤ N) (hW : bW W)  (ha : -2000 ≤ a ∧ a ≤ 2000) :
    JC l y_P_leastExponent b_P_leastExponent 1 (Option.some Jvm.ClassFile.FieldType.int) rm_P_leastExponent (0, 0) D jCl (jTys g) ad N (cF ad g F0 W K S) [.int (iI a)] (ji ad N (fun z F' => z = leX a ∧ F' = cF ad g F0 W K S)) := by
  refine JC.go hfl (own := "NumberTower$Pen") (lv := [(0, .int (iI a))]) rfl (by decide +kernel) (Nat.le_of_ble_eq_true rfl) rfl (fun A => ?_)
  refine J_iload_n 0 d_P_leastExponent_0 rfl rfl ?_
  refine J_sipush d_P_leastExponent_1 (i16_ok (by decide)) ?_
  refine J_imul d_P_leastExponent_4 ?_
  refine J_iconst d_P_leastExponent_5 ?_
  refine J_isub d_P_leastExponent_6 ?_
  refine J_ldc (z := 100000) d_P_leastExponent_7 wd_840 (by decide) ?_
  refine J_callSi cw_P_164 nh_JMath_floorDiv pn_JMath_floorDiv rfl (As := [.int (iI ((a * 30103) - 1)), .int (iI 100000)]) (rest := []) rfl (Nat.le_of_ble_eq_true rfl) ⟨by decide, by decide⟩ rfl ⟨by decide, by decide⟩ d_P_leastExponent_9 (c_JMath_floorDiv hfl ⟨by omega, by omega⟩ (by decide)) (fun fd F1 hq => ?_)
  obtain ⟨hfd, eF1⟩ := hq
  refine J_eqF eF1 ?_
  refine J_iret rfl rfl d_P_leastExponent_12 ⟨by decide, by decide⟩ ?_
  exact ⟨_, rfl, rfl, rfl, hfd, rfl⟩
