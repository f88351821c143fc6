/-! operations: the Model's results and the class's are one -/
/-- the sign bit of a sign; of 0 either -/
def sbit (b s : Int) : Prop := (b = 1 ∧ s < 0) ∨ (b = 0 ∧ 0 < s) ∨ (s = 0 ∧ (b = 0 ∨ b = 1))
theorem zero_iff {a b x y s : Int} {A B X Y : Nat} (hB : 0 < B) (hY : 0 < Y) (h : A * Y = X * B) : X = 0 ↔ A = 0 := by
  constructor
  · intro e
    rw [e, Nat.zero_mul] at h
    rcases Nat.mul_eq_zero.mp h with q | q
    · exact q
    · omega
  · intro e
    rw [e, Nat.zero_mul] at h
    rcases Nat.mul_eq_zero.mp h.symm with q | q
    · exact q
    · omega
theorem le_ratio {A B A' B' T T' : Nat} (hT : 0 < T) (hT' : 0 < T') (hA : A * T' = A' * T) (hB : B * T' = B' * T) : B ≤ A ↔ B' ≤ A' := by
  constructor
  · intro h
    have := Nat.mul_le_mul_right T' h
    rw [hA, hB] at this
    exact Nat.le_of_mul_le_mul_right this hT
  · intro h
    have := Nat.mul_le_mul_right T h
    rw [← hA, ← hB] at this
    exact Nat.le_of_mul_le_mul_right this hT'
theorem plus_fin0 {k sl sr xs ys : Int} {A B A' B' T T' : Nat} (hT : 0 < T) (hT' : 0 < T') (hA : A * T' = A' * T) (hB : B * T' = B' * T) (hsl : -1 ≤ sl ∧ sl ≤ 1) (hsr : -1 ≤ sr ∧ sr ≤ 1) (hx : sbit xs sl) (hy : sbit ys sr) (hA0 : sl = 0 ↔ A' = 0) (hB0 : sr = 0 ↔ B' = 0) :
    fin k (if plS xs ys A B = 1 then -1 else 1) (plM xs ys A B) T = fin k (addS sl sr A' B') (addM sl sr A' B') T' := by
  have e1 : ∀ s, fin k s (A + B) T = fin k s (A' + B') T' := fun s => fin_ratio hT hT' (by rw [Nat.add_mul, Nat.add_mul, hA, hB])
  have e2 : ∀ s, fin k s (A - B) T = fin k s (A' - B') T' := fun s => fin_ratio hT hT' (by rw [Nat.sub_mul, Nat.sub_mul, hA, hB])
  have e3 : ∀ s, fin k s (B - A) T = fin k s (B' - A') T' := fun s => fin_ratio hT hT' (by rw [Nat.sub_mul, Nat.sub_mul, hA, hB])
  have hle := le_ratio hT hT' hA hB
  have hle2 := le_ratio hT hT' hB hA
  have zA : A' = 0 ↔ A = 0 := zero_iff (a := 0) (b := 0) (x := 0) (y := 0) (s := 0) hT hT' hA
  have zB : B' = 0 ↔ B = 0 := zero_iff (a := 0) (b := 0) (x := 0) (y := 0) (s := 0) hT hT' hB
  unfold sbit at hx hy
  obtain w1 | w1 | w1 : sl = 0 ∨ sl = 1 ∨ sl = -1 := by omega
  · have a0 : A = 0 := zA.mp (hA0.mp w1)
    have hp : plM xs ys A B = A + B := by unfold plM; split; rfl; split <;> omega
    have hq : addM sl sr A' B' = A' + B' := by unfold addM; rw [w1, Int.zero_mul, if_pos (by decide)]
    have hs : addS sl sr A' B' = sr := by unfold addS; rw [w1, Int.zero_mul, if_pos (by decide), if_pos rfl]
    have a1 : A' = 0 := hA0.mp w1
    rw [hp, hq, hs, e1]
    refine fin_sg (fun hne => ?_)
    have hS : plS xs ys A B = if xs = ys then xs else if B ≤ A then xs else ys := by unfold plS; rw [hp, if_neg (c := A + B = 0) (by omega)]
    rw [hS]
    obtain w2 | w2 | w2 : sr = 0 ∨ sr = 1 ∨ sr = -1 := by omega
    · omega
    · by_cases q : xs = ys
      · rw [if_pos q, if_neg (by omega), w2]
      · rw [if_neg q, if_neg (c := B ≤ A) (by omega), if_neg (by omega), w2]
    · by_cases q : xs = ys
      · rw [if_pos q, if_pos (by omega), w2]
      · rw [if_neg q, if_neg (c := B ≤ A) (by omega), if_pos (by omega), w2]
  all_goals
    obtain w2 | w2 | w2 : sr = 0 ∨ sr = 1 ∨ sr = -1 := by omega
    · have b0 : B = 0 := zB.mp (hB0.mp w2)
      have b1 : B' = 0 := hB0.mp w2
      have hp : plM xs ys A B = A + B := by unfold plM; split; rfl; split <;> omega
      have hq : addM sl sr A' B' = A' + B' := by unfold addM; rw [w2, Int.mul_zero, if_pos (by decide)]
      have hs : addS sl sr A' B' = sl := by unfold addS; rw [w2, Int.mul_zero, if_pos (by decide), if_neg (by omega)]
      rw [hp, hq, hs, e1]
      refine fin_sg (fun hne => ?_)
      have hS : plS xs ys A B = if xs = ys then xs else if B ≤ A then xs else ys := by unfold plS; rw [hp, if_neg (c := A + B = 0) (by omega)]
      rw [hS]
      by_cases q : xs = ys
      · rw [if_pos q]
        first
          | rw [if_pos (by omega), w1]
          | rw [if_neg (by omega), w1]
      · rw [if_neg q, if_pos (show B ≤ A by omega)]
        first
          | rw [if_pos (by omega), w1]
          | rw [if_neg (by omega), w1]
    all_goals
      by_cases q : xs = ys
      · first
          | (exfalso; omega)
          | (have hp : plM xs ys A B = A + B := by unfold plM; rw [if_pos q]
             have hq : addM sl sr A' B' = A' + B' := by unfold addM; rw [w1, w2, if_pos (by decide)]
             have hs : addS sl sr A' B' = sl := by unfold addS; rw [w1, w2, if_pos (by decide), if_neg (by decide)]
             rw [hp, hq, hs, e1]
             refine fin_sg (fun hne => ?_)
             have hS : plS xs ys A B = xs := by unfold plS; rw [hp, if_neg (c := A + B = 0) (by omega), if_pos q]
             rw [hS]
             first
               | rw [if_pos (by omega), w1]
               | rw [if_neg (by omega), w1])
      · first
          | (exfalso; omega)
          | (by_cases hl : B ≤ A
             · have hp : plM xs ys A B = A - B := by unfold plM; rw [if_neg q, if_pos hl]
               have hq : addM sl sr A' B' = A' - B' := by unfold addM; rw [w1, w2, if_neg (by decide), if_pos (hle.mp hl)]
               have hs : addS sl sr A' B' = sl := by unfold addS; rw [w1, w2, if_neg (by decide), if_pos (hle.mp hl)]
               rw [hp, hq, hs, e2]
               refine fin_sg (fun hne => ?_)
               have hS : plS xs ys A B = xs := by unfold plS; rw [hp, if_neg (c := A - B = 0) (by have := hle2; omega), if_neg q, if_pos hl]
               rw [hS]
               first
                 | rw [if_pos (by omega), w1]
                 | rw [if_neg (by omega), w1]
             · have hp : plM xs ys A B = B - A := by unfold plM; rw [if_neg q, if_neg hl]
               have hl2 : ¬ B' ≤ A' := fun w => hl (hle.mpr w)
               have hq : addM sl sr A' B' = B' - A' := by unfold addM; rw [w1, w2, if_neg (by decide), if_neg hl2]
               have hs : addS sl sr A' B' = -sl := by unfold addS; rw [w1, w2, if_neg (by decide), if_neg hl2]
               rw [hp, hq, hs, e3]
               refine fin_sg (fun hne => ?_)
               have hS : plS xs ys A B = ys := by unfold plS; rw [hp, if_neg (c := B - A = 0) (by omega), if_neg q, if_neg hl]
               rw [hS]
               first
                 | (rw [if_pos (by omega), w1]; done)
                 | (rw [if_neg (by omega), w1]; done)
                 | (rw [if_pos (by omega), w1]; rfl)
                 | (rw [if_neg (by omega), w1]; rfl))
theorem plus_fin {k sl sr xs ys : Int} {a b c d ul dl ur dr : Nat} (hb : 0 < b) (hd : 0 < d) (hdl : 0 < dl) (hdr : 0 < dr) (h1 : a * dl = ul * b) (h2 : c * dr = ur * d) (hsl : -1 ≤ sl ∧ sl ≤ 1) (hsr : -1 ≤ sr ∧ sr ≤ 1) (hx : sbit xs sl) (hy : sbit ys sr) (hl0 : sl = 0 ↔ ul = 0) (hr0 : sr = 0 ↔ ur = 0) :
    fin k (if plS xs ys (a * d) (c * b) = 1 then -1 else 1) (plM xs ys (a * d) (c * b)) (b * d) = fin k (addS sl sr (ul * dr) (ur * dl)) (addM sl sr (ul * dr) (ur * dl)) (dl * dr) := by
  refine plus_fin0 (Nat.mul_pos hb hd) (Nat.mul_pos hdl hdr) ?_ ?_ hsl hsr hx hy ?_ ?_
  · have : a * d * (dl * dr) = a * dl * (d * dr) := by ac_rfl
    rw [this, h1]; ac_rfl
  · have : c * b * (dl * dr) = c * dr * (b * dl) := by ac_rfl
    rw [this, h2]; ac_rfl
  · rw [hl0, Nat.mul_eq_zero]; constructor
    · exact Or.inl
    · rintro (q | q)
      · exact q
      · omega
  · rw [hr0, Nat.mul_eq_zero]; constructor
    · exact Or.inl
    · rintro (q | q)
      · exact q
      · omega
theorem sgp {sl sr xs ys : Int} (hsl : -1 ≤ sl ∧ sl ≤ 1) (hsr : -1 ≤ sr ∧ sr ≤ 1) (hx : sbit xs sl) (hy : sbit ys sr) (h1 : sl ≠ 0) (h2 : sr ≠ 0) : (if xs = ys then (1 : Int) else -1) = sl * sr := by
  unfold sbit at hx hy
  obtain w1 | w1 : sl = 1 ∨ sl = -1 := by omega
  all_goals (obtain w2 | w2 : sr = 1 ∨ sr = -1 := by omega)
  all_goals (rw [w1, w2])
  all_goals first
    | (rw [if_pos (by omega)]; rfl)
    | (rw [if_neg (by omega)]; rfl)
theorem prod_fin {k sl sr xs ys : Int} {a b c d ul dl ur dr : Nat} (hb : 0 < b) (hd : 0 < d) (hdl : 0 < dl) (hdr : 0 < dr) (h1 : a * dl = ul * b) (h2 : c * dr = ur * d) (hsl : -1 ≤ sl ∧ sl ≤ 1) (hsr : -1 ≤ sr ∧ sr ≤ 1) (hx : sbit xs sl) (hy : sbit ys sr) (hl0 : sl = 0 ↔ ul = 0) (hr0 : sr = 0 ↔ ur = 0) :
    fin k (if xs = ys then 1 else -1) (a * c) (b * d) = fin k (sl * sr) (ul * ur) (dl * dr) := by
  rw [fin_ratio (U' := ul * ur) (D' := dl * dr) (Nat.mul_pos hb hd) (Nat.mul_pos hdl hdr) (by
    have : a * c * (dl * dr) = a * dl * (c * dr) := by ac_rfl
    rw [this, h1, h2]; ac_rfl)]
  refine fin_sg (fun hne => sgp hsl hsr hx hy (fun e => hne ?_) (fun e => hne ?_))
  · rw [hl0.mp e, Nat.zero_mul]
  · rw [hr0.mp e, Nat.mul_zero]
theorem rat_cross {a b c d ul dl ur dr : Nat} (h1 : a * dl = ul * b) (h2 : c * dr = ur * d) : a * d * (dl * ur) = ul * dr * (b * c) := by
  have e1 : a * d * (dl * ur) = a * dl * (ur * d) := by ac_rfl
  rw [e1, h1, ← h2]; ac_rfl
theorem rat_fin {k sl sr xs ys : Int} {a b c d ul dl ur dr : Nat} (hb : 0 < b) (hc : 0 < c) (hdl : 0 < dl) (hur : 0 < ur) (h1 : a * dl = ul * b) (h2 : c * dr = ur * d) (hsl : -1 ≤ sl ∧ sl ≤ 1) (hsr : -1 ≤ sr ∧ sr ≤ 1) (hx : sbit xs sl) (hy : sbit ys sr) (hl0 : sl = 0 ↔ ul = 0) (hr0 : sr = 0 ↔ ur = 0) :
    fin k (if xs = ys then 1 else -1) (a * d) (b * c) = fin k (sl * sr) (ul * dr) (dl * ur) := by
  rw [fin_ratio (U' := ul * dr) (D' := dl * ur) (Nat.mul_pos hb hc) (Nat.mul_pos hdl hur) (rat_cross h1 h2)]
  refine fin_sg (fun hne => sgp hsl hsr hx hy (fun e => hne ?_) (fun e => ?_))
  · rw [hl0.mp e, Nat.zero_mul]
  · have := hr0.mp e; omega
/-- floors -/
theorem floor_val {sl sr xs ys : Int} {A B A' B' : Nat} (hB : 0 < B) (hB' : 0 < B') (h : A * B' = A' * B) (hsl : -1 ≤ sl ∧ sl ≤ 1) (hsr : -1 ≤ sr ∧ sr ≤ 1) (hx : sbit xs sl) (hy : sbit ys sr) (hl0 : sl = 0 ↔ A' = 0) (hr0 : sr ≠ 0) :
    flM (if xs = ys then 0 else 1) A B = flq (sl * sr) A' B' := by
  obtain ⟨d1, d2⟩ := div_ratio hB hB' h
  have d3 : A % B = 0 ↔ A' % B' = 0 := by
    constructor
    · intro e
      rw [e, Nat.zero_mul] at d2
      rcases Nat.mul_eq_zero.mp d2.symm with q | q
      · exact q
      · omega
    · intro e
      rw [e, Nat.zero_mul] at d2
      rcases Nat.mul_eq_zero.mp d2 with q | q
      · exact q
      · omega
  unfold flM flq
  rw [d1]
  by_cases z : A' % B' = 0
  · rw [if_neg (fun w => w.2 (d3.mpr z)), if_neg (fun w => w.2 z)]
  · have hA : A' ≠ 0 := fun e => z (by rw [e, Nat.zero_mod])
    have hs0 : sl ≠ 0 := fun e => hA (hl0.mp e)
    have := sgp hsl hsr hx hy hs0 hr0
    by_cases q : xs = ys
    · rw [if_pos q] at this ⊢
      rw [if_neg (fun w => absurd w.1 (by decide)), if_neg (fun w => by omega)]
    · rw [if_neg q] at this ⊢
      rw [if_pos ⟨rfl, fun w => z (d3.mp w)⟩, if_pos ⟨by omega, z⟩]
theorem floor_fin {k sl sr xs ys : Int} {A B A' B' : Nat} (hB : 0 < B) (hB' : 0 < B') (h : A * B' = A' * B) (hsl : -1 ≤ sl ∧ sl ≤ 1) (hsr : -1 ≤ sr ∧ sr ≤ 1) (hx : sbit xs sl) (hy : sbit ys sr) (hl0 : sl = 0 ↔ A' = 0) (hr0 : sr ≠ 0) :
    fin k (if flS (if xs = ys then 0 else 1) A B = 1 then -1 else 1) (flM (if xs = ys then 0 else 1) A B) 1 = fin k (sl * sr) (flq (sl * sr) A' B') 1 := by
  have hv := floor_val hB hB' h hsl hsr hx hy hl0 hr0
  rw [← hv]
  refine fin_sg (fun hne => ?_)
  have hA : A' ≠ 0 := fun e => hne (by rw [hv]; unfold flq; rw [e, Nat.zero_mod, Nat.zero_div, if_neg (fun w => w.2 rfl)])
  rw [← sgp hsl hsr hx hy (fun e => hA (hl0.mp e)) hr0]
  have hS : flS (if xs = ys then 0 else 1) A B = if xs = ys then 0 else 1 := by unfold flS; rw [if_neg hne]
  rw [hS]
  by_cases q : xs = ys
  · rw [if_pos q, if_pos q]; rfl
  · rw [if_neg q, if_neg q]; rfl
theorem rest_fin0 {k sl sr xs ys y2 : Int} {A B A' B' T T' q : Nat} (hT : 0 < T) (hT' : 0 < T') (hA : A * T' = A' * T) (hB : B * T' = B' * T) (hB0 : 0 < B) (hB0' : 0 < B') (hsl : -1 ≤ sl ∧ sl ≤ 1) (hsr : -1 ≤ sr ∧ sr ≤ 1) (hx : sbit xs sl) (hy : sbit ys sr) (hl0 : sl = 0 ↔ A' = 0) (hr0 : sr ≠ 0)
    (hQ : flM (if xs = ys then 0 else 1) A B = q) (hy2 : y2 = if ys = flS (if xs = ys then 0 else 1) A B then 1 else 0) :
    fin k (if plS xs y2 A (q * B) = 1 then -1 else 1) (plM xs y2 A (q * B)) T = fin k sr (flr (sl * sr) A' B') T' := by
  have hAB : A * B' = A' * B := by
    apply Nat.eq_of_mul_eq_mul_right hT
    have e1 : A * B' * T = A * (B' * T) := Nat.mul_assoc ..
    have e2 : A' * B * T = A' * T * B := Nat.mul_right_comm ..
    rw [e1, ← hB, e2, ← hA]; ac_rfl
  obtain ⟨d1, d2⟩ := div_ratio hB0 hB0' hAB
  have hb2 := hx
  have hb3 := hy
  unfold sbit at hb2 hb3
  have hdm := Nat.div_add_mod A B
  have hdm' := Nat.div_add_mod A' B'
  have hml := Nat.mod_lt A hB0
  have hml' := Nat.mod_lt A' hB0'
  have c1 : ∀ t : Nat, t * B = B * t := fun t => Nat.mul_comm _ _
  have c2 : ∀ t : Nat, t * B' = B' * t := fun t => Nat.mul_comm _ _
  by_cases hxy : xs = ys
  · have hq1 : q = A / B := by
      rw [← hQ, if_pos hxy]
      unfold flM
      rw [if_neg (fun w => absurd w.1 (by decide))]
    have hfs : flS (if xs = ys then 0 else 1) A B = 0 := by
      rw [if_pos hxy]
      unfold flS
      split <;> rfl
    rw [hfs] at hy2
    have hne : xs ≠ y2 := by
      rw [hy2]; split <;> omega
    have hle : q * B ≤ A := by rw [hq1]; exact Nat.div_mul_le_self A B
    have hp : plM xs y2 A (q * B) = A - q * B := by unfold plM; rw [if_neg hne, if_pos hle]
    have hsp : flr (sl * sr) A' B' = A' - q * B' := by
      unfold flr
      rw [if_neg]
      · rw [hq1, d1, c2]; omega
      · rintro ⟨w1, w2⟩
        have hA0 : A' ≠ 0 := fun e => w2 (by rw [e, Nat.zero_mod])
        have := sgp hsl hsr hx hy (fun e => hA0 (hl0.mp e)) hr0
        rw [if_pos hxy] at this
        omega
    have hc : (A - q * B) * T' = (A' - q * B') * T := by
      rw [Nat.sub_mul, Nat.sub_mul, hA, Nat.mul_assoc q, hB, ← Nat.mul_assoc]
    rw [hp, hsp, fin_ratio hT hT' hc]
    refine fin_sg (fun hn => ?_)
    have hX : A - q * B ≠ 0 := fun e => hn (by
      rw [e, Nat.zero_mul] at hc
      rcases Nat.mul_eq_zero.mp hc.symm with w | w
      · exact w
      · omega)
    have hS : plS xs y2 A (q * B) = xs := by unfold plS; rw [hp, if_neg hX, if_neg hne, if_pos hle]
    rw [hS]
    have hsl0 : sl ≠ 0 := fun e => hn (by rw [hl0.mp e, Nat.zero_sub])
    by_cases w : xs = 1
    · rw [if_pos w]; omega
    · rw [if_neg w]; omega
  · have hq2 : q = if A % B ≠ 0 then A / B + 1 else A / B := by
      rw [← hQ, if_neg hxy]
      unfold flM
      by_cases w : A % B ≠ 0
      · rw [if_pos ⟨rfl, w⟩, if_pos w]
      · rw [if_neg (fun z => w z.2), if_neg w]
    have hfs : flS (if xs = ys then 0 else 1) A B = if q = 0 then 0 else 1 := by
      rw [if_neg hxy] at hQ ⊢
      unfold flS
      rw [hQ]
    rw [hfs] at hy2
    by_cases hr : A % B = 0
    · have hr' : A' % B' = 0 := by
        rw [hr, Nat.zero_mul] at d2
        rcases Nat.mul_eq_zero.mp d2.symm with w | w
        · exact w
        · omega
      rw [if_neg (fun w => w hr)] at hq2
      have hqB : q * B = A := by rw [hq2, c1]; omega
      have hp : plM xs y2 A (q * B) = 0 := by
        unfold plM
        by_cases w : xs = y2
        · rw [if_pos w]
          have hq0 : q = 0 := by
            apply Classical.byContradiction
            intro hq0
            rw [if_neg hq0] at hy2
            apply hxy
            rw [w, hy2]
            split <;> omega
          rw [hq0, Nat.zero_mul] at hqB
          rw [hq0, ← hqB, Nat.zero_mul]
        · rw [if_neg w, hqB, if_pos (Nat.le_refl _), Nat.sub_self]
      have hsp : flr (sl * sr) A' B' = 0 := by
        unfold flr
        rw [if_neg (fun w => w.2 hr'), hr']
      rw [hp, hsp, fin_ratio (U' := 0) hT hT' (by rw [Nat.zero_mul, Nat.zero_mul])]
      exact fin_sg (fun hn => absurd rfl hn)
    · rw [if_pos hr] at hq2
      rw [if_neg (show ¬ q = 0 by rw [hq2]; exact Nat.succ_ne_zero _)] at hy2
      have hy3 : y2 = ys := by rw [hy2]; split <;> omega
      have hr' : A' % B' ≠ 0 := fun e => hr (by
        rw [e, Nat.zero_mul] at d2
        rcases Nat.mul_eq_zero.mp d2 with w | w
        · exact w
        · omega)
      have hqB : q * B = B * (A / B) + B := by rw [hq2, c1, Nat.mul_add, Nat.mul_one]
      have hqB' : q * B' = B' * (A' / B') + B' := by rw [hq2, d1, c2, Nat.mul_add, Nat.mul_one]
      have hnl : ¬ q * B ≤ A := by omega
      have hne : xs ≠ y2 := by rw [hy3]; exact hxy
      have hp : plM xs y2 A (q * B) = q * B - A := by unfold plM; rw [if_neg hne, if_neg hnl]
      have hA0 : A' ≠ 0 := fun e => hr' (by rw [e, Nat.zero_mod])
      have hsg := sgp hsl hsr hx hy (fun e => hA0 (hl0.mp e)) hr0
      rw [if_neg hxy] at hsg
      have hsp : flr (sl * sr) A' B' = q * B' - A' := by
        unfold flr
        rw [if_pos ⟨by omega, hr'⟩]
        omega
      have hc : (q * B - A) * T' = (q * B' - A') * T := by
        rw [Nat.sub_mul, Nat.sub_mul, hA, Nat.mul_assoc q, hB, ← Nat.mul_assoc]
      rw [hp, hsp, fin_ratio hT hT' hc]
      refine fin_sg (fun hn => ?_)
      have hS : plS xs y2 A (q * B) = ys := by unfold plS; rw [hp, if_neg (show ¬ q * B - A = 0 by omega), if_neg hne, if_neg hnl, hy3]
      rw [hS]
      by_cases w : ys = 1
      · rw [if_pos w]; omega
      · rw [if_neg w]; omega
theorem rest_fin {k sl sr xs ys y2 : Int} {a b c d ul dl ur dr q : Nat} (hb : 0 < b) (hc : 0 < c) (hd : 0 < d) (hdl : 0 < dl) (hdr : 0 < dr) (hur : 0 < ur) (h1 : a * dl = ul * b) (h2 : c * dr = ur * d) (hsl : -1 ≤ sl ∧ sl ≤ 1) (hsr : -1 ≤ sr ∧ sr ≤ 1) (hx : sbit xs sl) (hy : sbit ys sr) (hl0 : sl = 0 ↔ ul = 0) (hr0 : sr = 0 ↔ ur = 0)
    (hQ : flM (if xs = ys then 0 else 1) (a * d) (b * c) = q) (hy2 : y2 = if ys = flS (if xs = ys then 0 else 1) (a * d) (b * c) then 1 else 0) :
    fin k (if plS xs y2 (a * d) (c * q * b) = 1 then -1 else 1) (plM xs y2 (a * d) (c * q * b)) (b * d) = fin k sr (flr (sl * sr) (ul * dr) (dl * ur)) (dl * dr) := by
  have e : c * q * b = q * (b * c) := by ac_rfl
  rw [e]
  refine rest_fin0 (Nat.mul_pos hb hd) (Nat.mul_pos hdl hdr) ?_ ?_ (Nat.mul_pos hb hc) (Nat.mul_pos hdl hur) hsl hsr hx hy ?_ (fun e => by have := hr0.mp e; omega) hQ hy2
  · have : a * d * (dl * dr) = a * dl * (d * dr) := by ac_rfl
    rw [this, h1]; ac_rfl
  · have : b * c * (dl * dr) = c * dr * (b * dl) := by ac_rfl
    rw [this, h2]; ac_rfl
  · rw [hl0, Nat.mul_eq_zero]; constructor
    · exact Or.inl
    · rintro (q | q)
      · exact q
      · omega
theorem sh_flS {xs : Int} {a B : Nat} (hB : 0 < B) (hx : xs = 0 ∨ xs = 1) (h : xs = 1 → a ≠ 0) : flS xs a B = xs := by
  unfold flS flM
  rcases hx with w | w
  · rw [w, ite_self]
  · have ha := h w
    rw [w]
    by_cases r : a % B = 0
    · rw [if_neg (c := (1 : Int) = 1 ∧ a % B ≠ 0) (fun z => z.2 r), if_neg]
      intro z
      have := Nat.div_add_mod a B
      rw [z, r, Nat.mul_zero] at this
      omega
    · rw [if_pos (c := (1 : Int) = 1 ∧ a % B ≠ 0) ⟨rfl, r⟩, if_neg (Nat.succ_ne_zero _)]
theorem sh_flM {xs s : Int} {a B : Nat} (hB : 0 < B) (hx : (xs = 1 ∧ s < 0) ∨ (xs = 0 ∧ 0 ≤ s)) (h : xs = 1 → a ≠ 0) : flM xs a B = if 0 ≤ s then a / B else (a - 1) / B + 1 := by
  unfold flM
  rcases hx with ⟨w, w2⟩ | ⟨w, w2⟩
  · rw [if_neg (show ¬ 0 ≤ s by omega)]
    have ha := h w
    have hdm := Nat.div_add_mod a B
    have hml := Nat.mod_lt a hB
    by_cases r : a % B = 0
    · rw [if_neg (fun z => z.2 r)]
      have h1 : a / B ≠ 0 := fun z => by rw [z, r, Nat.mul_zero] at hdm; omega
      obtain ⟨t, ht⟩ : ∃ t, a / B = t + 1 := Nat.exists_eq_succ_of_ne_zero h1
      rw [ht] at hdm ⊢
      congr 1
      symm
      rw [Nat.mul_add, Nat.mul_one] at hdm
      have e : a - 1 = (B - 1) + B * t := by omega
      rw [e, Nat.add_mul_div_left _ _ hB, Nat.div_eq_of_lt (by omega), Nat.zero_add]
    · rw [if_pos ⟨w, r⟩]
      congr 1
      symm
      have e : a - 1 = (a % B - 1) + B * (a / B) := by omega
      rw [e, Nat.add_mul_div_left _ _ hB, Nat.div_eq_of_lt (by omega), Nat.zero_add]
  · rw [if_neg (fun z => by omega), if_pos w2]
theorem powF_ok {kx sx : Int} {ux dx : Nat} (hk : 0 ≤ kx ∧ kx ≤ 2) (hs : -1 ≤ sx ∧ sx ≤ 1) (hs0 : sx = 0 → ux = 0) (hd : 0 < dx) (hk0 : kx = 0 → dx = 1) : ∀ {n : Nat} {v : Vn}, powF kx sx ux dx n = some v → okv v ∧ v.1 = kx
  | 0, v, h => by
    unfold powF at h
    injection h with h
    subst h
    have h1 : fin kx 1 1 1 = some (kx, 1, 1, 1) := by
      obtain w | w | w : kx = 0 ∨ kx = 1 ∨ kx = 2 := by omega
      all_goals (rw [w]; decide +kernel)
    exact ⟨okv_fin hk (by decide) (fun e => absurd e (by decide)) (by decide) (fun _ => Nat.one_dvd _) h1, rfl⟩
  | n + 1, v, h => by
    unfold powF at h
    cases hr : powF kx sx ux dx n with
    | none => rw [hr] at h; exact absurd h (by simp)
    | some r =>
      rw [hr] at h
      obtain ⟨r1, r2⟩ := powF_ok hk hs hs0 hd hk0 hr
      obtain ⟨k', s', u, d⟩ := r
      simp only at r2
      subst r2
      obtain ⟨a1, a2, a3, a4, a5, a6, a7, a8, a9, a10⟩ := okv_b r1 (by omega)
      have h2 : fin k' (s' * sx) (u * ux) (d * dx) = some v := h
      have h3 : v.1 = k' := by
        obtain ⟨x1, x2, x3, x4⟩ := v
        exact (fin_out h2 (Nat.mul_pos a2 hd)).1
      refine ⟨okv_fin hk ?_ ?_ (Nat.mul_pos a2 hd) (fun e => by rw [a6 e, hk0 e]; exact Nat.one_dvd _) h2, h3⟩
      · obtain w | w | w : s' = 0 ∨ s' = 1 ∨ s' = -1 := by omega
        all_goals (rw [w]; omega)
      · intro e
        rcases Int.mul_eq_zero.mp e with q | q
        · rw [a8.mp q, Nat.zero_mul]
        · rw [hs0 q, Nat.mul_zero]
theorem smV_v {b s : Int} {u : Nat} (hb : (b = 1 ∧ s < 0) ∨ (b = 0 ∧ 0 ≤ s)) (hs : -1 ≤ s ∧ s ≤ 1) (h0 : s = 0 ↔ u = 0) : (smV b u = s * u ∧ -999 ≤ s * u ∧ s * u ≤ 999) ∨ (smV b u = 1000 ∧ (s * u < -999 ∨ 999 < s * u)) := by
  unfold smV
  obtain w | w | w : s = 0 ∨ s = 1 ∨ s = -1 := by omega
  · rw [h0.mp w, w]
    left
    rw [if_pos (by decide), if_neg (by omega)]
    decide
  · rw [w, Int.one_mul]
    by_cases q : u ≤ 999
    · rw [if_pos q, if_neg (by omega)]; omega
    · rw [if_neg q]; omega
  · rw [w, Int.neg_one_mul]
    by_cases q : u ≤ 999
    · rw [if_pos q, if_pos (by omega)]; omega
    · rw [if_neg q]; omega
abbrev takesP (op : Int) (x y : Vn) : Prop := (0 ≤ op ∧ op ≤ 10) ∧ ((op = 6 ∧ y.1 = 0 ∧ 0 ≤ y.2.1 * y.2.2.1 ∧ y.2.1 * y.2.2.1 ≤ 40) ∨ op < 6 ∨ (6 < op ∧ x.1 = 0 ∧ y.1 = 0 ∧ (op < 10 ∨ (-120 ≤ y.2.1 * y.2.2.1 ∧ y.2.1 * y.2.2.1 ≤ 120))))
def opV (op : Int) (x y : Vn) : Option Vn :=
  if op = 6 then powF x.1 x.2.1 x.2.2.1 x.2.2.2 (y.2.1 * y.2.2.1).toNat else if op = 10 then shF x.2.1 x.2.2.1 (y.2.1 * y.2.2.1) else if 6 < op then mixF op x.2.1 x.2.2.1 y.2.1 y.2.2.1 else reckF op x.1 x.2.1 x.2.2.1 x.2.2.2 y.1 y.2.1 y.2.2.1 y.2.2.2
def combO (R : Nat → Vn) (op a b to : Int) : Sum Int Vn :=
  if takesP op (regV R a) (regV R b) ∧ (regV R a).1 ≠ -1 ∧ (regV R b).1 ≠ -1 ∧ (0 ≤ to ∧ to ≤ 7) then
    (if 3 ≤ op ∧ op ≤ 5 ∧ (regV R b).2.2.1 = 0 then .inl 1 else optO (opV op (regV R a) (regV R b)))
  else .inl 0
/-- after kinds have met: the first operand -/
theorem meet_fin {kk k s b' : Int} {u d a b A B : Nat} (hb : 0 < b) (hd : 0 < d) (h : a * d = u * b) (hs0 : s = 0 ↔ u = 0)
    (hm : (kk = 2 ∧ k ≠ 2 → ((b' = 1 ∧ near 1 a b = none) ∨ (b' = 0 ∧ ∃ s' u9 d9, near 1 a b = some (2, s', u9, d9) ∧ A * d9 = u9 * B ∧ 0 < B ∧ A < 2 ^ 168 ∧ B < 2 ^ 168))) ∧ (¬(kk = 2 ∧ k ≠ 2) → A = a ∧ B = b)) (ha : a < 2 ^ 168 ∧ b < 2 ^ 168) :
    (b' = 1 ∧ kk = 2 ∧ k ≠ 2 ∧ meetN kk k s u d = none) ∨ (((kk = 2 ∧ k ≠ 2) → b' = 0) ∧ ∃ u9 d9, meetN kk k s u d = some (2, s, u9, d9) ∧ A * d9 = u9 * B ∧ 0 < B ∧ 0 < d9 ∧ (u = 0 ↔ u9 = 0) ∧ A < 2 ^ 168 ∧ B < 2 ^ 168 ∧ (¬(kk = 2 ∧ k ≠ 2) → u9 = u ∧ d9 = d)) := by
  unfold meetN
  by_cases q : kk = 2 ∧ k ≠ 2
  · rw [if_pos q, ← near_ratio (s := s) hb hd h]
    have hzz := zero_iff (a := 0) (b := 0) (x := 0) (y := 0) (s := 0) hb hd h
    rcases hm.1 q with ⟨w1, w2⟩ | ⟨w1, s', u9, d9, w2, w3, w4, w5, w6⟩
    · left
      refine ⟨w1, q.1, q.2, ?_⟩
      unfold near at w2 ⊢
      split at w2
      · exact absurd w2 (by simp)
      · rename_i z
        rw [if_neg z]
        split at w2
        · exact absurd w2 (by simp)
        · rename_i z2
          rw [if_neg z2]
    · right
      obtain ⟨-, o2, o3, o4, o5, o6⟩ := near_out w2 hb
      refine ⟨fun _ => w1, u9, d9, ?_, w3, w4, o2, ?_, w5, w6, fun e => absurd q e⟩
      · unfold near at w2 ⊢
        by_cases z : a = 0
        · rw [if_pos z] at w2 ⊢
          injection w2 with w2; injection w2 with h1 w2; injection w2 with h2 w2; injection w2 with h3 h4
          rw [hs0.mpr (hzz.mpr z), h3, h4]
        · rw [if_neg z] at w2 ⊢
          split at w2
          · rename_i z2
            rw [if_pos z2]
            injection w2 with w2; injection w2 with h1 w2; injection w2 with h2 w2; injection w2 with h3 h4
            rw [h3, h4]
          · exact absurd w2 (by simp)
      · rw [hzz, o5]
  · rw [if_neg q]
    obtain ⟨rfl, rfl⟩ := hm.2 q
    exact Or.inr ⟨fun e => absurd e q, u, d, rfl, h, hb, hd, Iff.rfl, ha.1, ha.2, fun _ => ⟨rfl, rfl⟩⟩
theorem mst_w {ad : Nat → Nat} {g : Nat → ClassId} {R : Nat → Vn} {ln sh : List Nat} {c : Int} {F : Nat → va_E} (h : mst ad g R ln sh c F) : ∃ hh ll f v V br kk bb rr lh xh dh th, mstd ad g R ln sh F hh ll f v V br kk bb rr lh xh dh th ∧ f 10 = c ∧ br 22 = 1 ∧ br 23 = 1 := by
  obtain ⟨hh, ll, f, v, V, br, kk, bb, rr, lh, xh, dh, th, ⟨a1, a2, a3, a4, a5, a6⟩, hc⟩ := h
  refine ⟨hh, ll, f, v, V, fun k => if k = 22 ∨ k = 23 then 1 else br k, kk, bb, rr, lh, xh, dh, th, ⟨a1, a2, a3, ?_, ?_, a6⟩, hc, rfl, rfl⟩
  · intro a ha
    by_cases q : a = 22 ∨ a = 23
    · refine ⟨fun e => ?_, fun c e => ?_⟩
      · simp only [if_pos q] at e; omega
      · simp only [if_pos q] at e; omega
    · obtain ⟨h1, h2⟩ := a4 a ha
      refine ⟨fun e => h1 ?_, fun c e => h2 c ?_⟩
      · simpa only [if_neg q] using e
      · simpa only [if_neg q] using e
  · obtain ⟨h1, h2⟩ := a5
    refine ⟨fun k => ?_, fun k k1 k2 => ?_⟩
    · show (if k = 22 ∨ k = 23 then 1 else br k) ≤ 1
      split
      · omega
      · exact h1 k
    · show (if k = 22 ∨ k = 23 then 1 else br k) = 0
      rw [if_neg (by omega)]
      exact h2 k k1 k2
