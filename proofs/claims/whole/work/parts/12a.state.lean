/-! numbers that registers hold, and the Model's state -/
theorem near_exact {s : Int} {m : Nat} {e : Int} (h1 : 4503599627370496 ≤ m) (h2 : m < 9007199254740992) : ns (su m e) (sd 1 e) = -e ∧ nq (su m e) (sd 1 e) (-e) = m ∧ near s (su m e) (sd 1 e) = if -152 ≤ e ∧ e ≤ 47 then some (2, s, lowu (su m e) (sd 1 e), lowd (su m e) (sd 1 e)) else none := by
  have p1 := sd_pos (show 0 < 1 by decide) e
  have p2 := su_pos (show 0 < m by omega) e
  have e1 : su (su m e) (-e) = m * sd (sd 1 e) (-e) := by
    unfold su sd
    rw [Int.neg_neg]; ac_rfl
  have p3 : 0 < sd (sd 1 e) (-e) := sd_pos p1 (-e)
  have hn : ns (su m e) (sd 1 e) = -e := by
    refine ns_eq p2 p1 ⟨?_, ?_⟩
    · rw [e1]; exact Nat.mul_le_mul_right _ h1
    · rw [e1]; exact Nat.mul_lt_mul_of_pos_right h2 p3
  have hq : nq (su m e) (sd 1 e) (-e) = m := by
    unfold nq
    rw [e1, Nat.mul_div_cancel _ p3, Nat.mul_mod_left]
    unfold rnd
    rw [if_neg (by omega)]
  refine ⟨hn, hq, ?_⟩
  have b1 : blen m ≤ 53 := blen_le.mpr (by omega)
  have b2 : ¬ blen m ≤ 52 := fun z => by have := blen_le.mp z; omega
  unfold near
  rw [if_neg (by omega), hn, hq, Int.neg_neg]
  by_cases c : -152 ≤ e ∧ e ≤ 47
  · rw [if_pos (by omega), if_pos c]
  · rw [if_neg (by omega), if_neg c]
theorem near_self {s s' : Int} {X Y u d : Nat} {k' : Int} (hY : 0 < Y) (h : near s X Y = some (k', s', u, d)) : near s' u d = some (k', s', u, d) ∧ Nat.Coprime u d := by
  obtain ⟨rfl, o2, o3, o4, o5, o6⟩ := near_out h hY
  by_cases z : X = 0
  · unfold near at h
    rw [if_pos z] at h
    injection h with h; injection h with h1 h; injection h with h2 h; injection h with h3 h4
    subst h2 h3 h4
    exact ⟨by unfold near; rw [if_pos rfl], by decide⟩
  · have hX : 0 < X := by omega
    obtain ⟨q1, q2⟩ := nq_rng hY (ns_inR hX hY)
    unfold near at h
    rw [if_neg z] at h
    split at h
    · rename_i hc
      injection h with h; injection h with h1 h; injection h with h2 h; injection h with h3 h4
      subst h2
      generalize ns X Y = n at *
      generalize nq X Y n = q at *
      have p1 := sd_pos (show 0 < 1 by decide) (-n)
      obtain ⟨m1, m2⟩ := low_mul (U := su q (-n)) (D := sd 1 (-n))
      have hcop := low_cop (U := su q (-n)) p1
      have hcr : u * sd 1 (-n) = su q (-n) * d := by
        rw [← h3, ← h4]
        generalize Nat.gcd (su q (-n)) (sd 1 (-n)) = G at m1 m2
        generalize lowu (su q (-n)) (sd 1 (-n)) = a at *
        generalize lowd (su q (-n)) (sd 1 (-n)) = b at *
        rw [← m1, ← m2]; ac_rfl
      rw [h3, h4] at hcop
      refine ⟨?_, hcop⟩
      have key : ∀ m e, 4503599627370496 ≤ m → m < 9007199254740992 → su m e * sd 1 (-n) = su q (-n) * sd 1 e → -152 ≤ e → e ≤ 47 → near s u d = some (2, s, u, d) := by
        intro m e k1 k2 k3 k4 k5
        have p4 := sd_pos (show 0 < 1 by decide) e
        have hc2 : u * sd 1 e = su m e * d := by
          apply Nat.eq_of_mul_eq_mul_right p1
          have t1 : u * sd 1 e * sd 1 (-n) = (u * sd 1 (-n)) * sd 1 e := by ac_rfl
          have t2 : su m e * d * sd 1 (-n) = (su m e * sd 1 (-n)) * d := by ac_rfl
          rw [t1, t2, hcr, k3]; ac_rfl
        obtain ⟨l1, l2⟩ := low_ratio o2 p4 hc2
        obtain ⟨l3, l4⟩ := low_same hcop
        rw [near_ratio (s := s) o2 p4 hc2, (near_exact (s := s) k1 k2).2.2, if_pos ⟨k4, k5⟩, ← l1, ← l2, l3, l4]
      have b1 : blen q ≤ 54 := blen_le.mpr (by omega)
      have b2 : ¬ blen q ≤ 52 := fun z => by have := blen_le.mp z; omega
      by_cases q3 : q = 9007199254740992
      · have b3 : ¬ blen q ≤ 53 := fun z => by have := blen_le.mp z; omega
        refine key 4503599627370496 (1 - n) (by decide) (by decide) ?_ (by omega) (by omega)
        rw [q3]
        unfold su sd
        rw [Nat.one_mul, Nat.one_mul, show (9007199254740992 : Nat) = 4503599627370496 * 2 ^ 1 by decide, Nat.mul_assoc, Nat.mul_assoc, Nat.mul_assoc, ← Nat.pow_add, ← Nat.pow_add, ← Nat.pow_add]
        congr 2
        omega
      · have b3 : blen q ≤ 53 := blen_le.mpr (by omega)
        exact key q (-n) q1 (by omega) rfl (by omega) (by omega)
    · exact absurd h (by simp)
theorem fin_self {kd s kd' s' : Int} {X Y u d : Nat} (hY : 0 < Y) (h : fin kd s X Y = some (kd', s', u, d)) : fin kd' s' u d = some (kd', s', u, d) ∧ Nat.Coprime u d := by
  obtain ⟨rfl, o2, o3, o4, o5, o6, o7⟩ := fin_out h hY
  by_cases k2 : kd' = 2
  · subst k2
    have h2 : near s X Y = some (2, s', u, d) := by unfold fin at h; rw [if_pos rfl] at h; exact h
    obtain ⟨n1, n2⟩ := near_self hY h2
    exact ⟨by unfold fin; rw [if_pos rfl]; exact n1, n2⟩
  · obtain ⟨w1, w2, w3, w4⟩ := o7 k2
    have hcop : Nat.Coprime u d := by rw [w1, w2]; exact low_cop hY
    obtain ⟨l3, l4⟩ := low_same hcop
    refine ⟨?_, hcop⟩
    unfold fin
    rw [if_neg k2, l3, l4, if_pos ⟨blen_le.mpr w3, blen_le.mpr w4⟩]
    by_cases z : u = 0
    · rw [if_pos z]; rw [o6, if_pos (o5.mp z)]
    · rw [if_neg z]
/-- what a register may hold -/
def okv (v : Int × Int × Nat × Nat) : Prop := v.1 = -1 ∨ ((0 ≤ v.1 ∧ v.1 ≤ 2) ∧ 0 < v.2.2.2 ∧ (-1 ≤ v.2.1 ∧ v.2.1 ≤ 1) ∧ fin v.1 v.2.1 v.2.2.1 v.2.2.2 = some v ∧ Nat.Coprime v.2.2.1 v.2.2.2 ∧ (v.1 = 0 → v.2.2.2 = 1) ∧ (v.2.1 = 0 → v.2.2.1 = 0))
theorem okv_fin {kd s : Int} {X Y : Nat} {v : Int × Int × Nat × Nat} (hk : 0 ≤ kd ∧ kd ≤ 2) (hs : -1 ≤ s ∧ s ≤ 1) (hs0 : s = 0 → X = 0) (hY : 0 < Y) (h0 : kd = 0 → Y ∣ X) (h : fin kd s X Y = some v) : okv v := by
  obtain ⟨k', s', u, d⟩ := v
  obtain ⟨rfl, o2, o3, o4, o5, o6, o7⟩ := fin_out h hY
  obtain ⟨f1, f2⟩ := fin_self hY h
  refine Or.inr ⟨hk, o2, ?_, f1, f2, fun e => ?_, fun e => ?_⟩
  · show -1 ≤ s' ∧ s' ≤ 1
    rw [o6]; split <;> omega
  · simp only at e
    obtain ⟨w1, w2, w3, w4⟩ := o7 (by omega)
    show d = 1
    rw [w2]
    unfold lowd
    rw [Nat.gcd_eq_right (h0 e), Nat.div_self hY]
  · simp only at e
    show u = 0
    by_cases z : X = 0
    · exact o5.mpr z
    · rw [o6, if_neg z] at e
      exact absurd (hs0 e) z
theorem okv_b {kd s : Int} {u d : Nat} (h : okv (kd, s, u, d)) (hk : kd ≠ -1) : (0 ≤ kd ∧ kd ≤ 2) ∧ 0 < d ∧ (-1 ≤ s ∧ s ≤ 1) ∧ fin kd s u d = some (kd, s, u, d) ∧ Nat.Coprime u d ∧ (kd = 0 → d = 1) ∧ (u < 2 ^ 154 ∧ d < 2 ^ 154) ∧ (s = 0 ↔ u = 0) ∧ (kd ≠ 2 → u < 2 ^ 120 ∧ d < 2 ^ 120) ∧ (kd = 2 → ∃ s s', near s u d = some (2, s', u, d)) := by
  rcases h with h | ⟨h1, h2, h3, h4, h5, h6, h7⟩
  · exact absurd h hk
  · obtain ⟨-, o2, o3, o4, o5, o6, o7⟩ := fin_out h4 h2
    refine ⟨h1, h2, h3, h4, h5, h6, ⟨o3, o4⟩, ⟨h7, fun z => ?_⟩, fun e => ⟨(o7 e).2.2.1, (o7 e).2.2.2⟩, fun e => ⟨s, s, ?_⟩⟩
    · simp only at o6
      rw [o6, if_pos z]
    · unfold fin at h4
      simp only at h4
      rw [if_pos e] at h4
      rw [h4, e]
abbrev Vn : Type := Int × Int × Nat × Nat
def isRg (r : Int) : Prop := 0 ≤ r ∧ r ≤ 7
/-- the number of a register, also of one that is none -/
def regV (R : Nat → Vn) (r : Int) : Vn := if 0 ≤ r ∧ r ≤ 7 then R r.toNat else (-1, 0, 0, 0)
theorem regV_in {R : Nat → Vn} {r : Int} (h : 0 ≤ r ∧ r ≤ 7) : regV R r = R r.toNat := if_pos h
theorem regV_out {R : Nat → Vn} {r : Int} (h : ¬(0 ≤ r ∧ r ≤ 7)) : regV R r = (-1, 0, 0, 0) := if_neg h
def mR (kk bb : Nat → Int) (rr : Nat → UInt64) (V : Nat → Nat) (R : Nat → Vn) : Prop := ∀ r, r < 8 → okv (R r) ∧ kk r = (R r).1 ∧ (bb r = 0 ∨ bb r = 1) ∧ ((R r).1 ≠ -1 → mreg kk bb rr V r (R r).1 (R r).2.1 (R r).2.2.1 (R r).2.2.2)
/-- an array of characters -/
def mtx (h : Nat → Int) (w : List Nat) : Prop := ∀ j, j < w.length → h j = ((w.getD j 0 : Nat) : Int)
def mstd (ad : Nat → Nat) (g : Nat → ClassId) (R : Nat → Vn) (ln sh : List Nat) (F : Nat → va_E) (hh ll f : Nat → Int) (v : UInt64) (V br : Nat → Nat) (kk bb : Nat → Int) (rr : Nat → UInt64) (lh xh dh th : Nat → Int) : Prop :=
  F 98 = oM ad f v ∧ F 99 = aB g hh ∧ F 100 = aL g ll ∧ reg br hh ll V ∧ okB br ∧ F 101 = .inl (g 0, 8, .inl (aI kk)) ∧ F 102 = .inl (g 2, 8, .inl (aI bb)) ∧ F 103 = .inl (g 3, 8, .inr (.inr (.inr (.inl rr)))) ∧ mR kk bb rr V R ∧
  F 104 = .inl (g 0, 40, .inl (aI lh)) ∧ F 105 = .inl (g 0, 260, .inl (aI xh)) ∧ F 106 = .inl (g 0, 200, .inl (aI dh)) ∧ F 107 = .inl (g 0, 260, .inl (aI th)) ∧
  (mtx lh ln ∧ f 12 = (ln.length : Int) ∧ ln.length ≤ 40 ∧ ∀ c, c ∈ ln → 32 ≤ c ∧ c ≤ 126) ∧ (mtx xh sh ∧ f 14 = (sh.length : Int) ∧ sh.length ≤ 200 ∧ ∀ c, c ∈ sh → c < 65536)
def mst (ad : Nat → Nat) (g : Nat → ClassId) (R : Nat → Vn) (ln sh : List Nat) (c : Int) (F : Nat → va_E) : Prop := ∃ hh ll f v V br kk bb rr lh xh dh th, mstd ad g R ln sh F hh ll f v V br kk bb rr lh xh dh th ∧ f 10 = c
/-- nothing but the Model's places has changed -/
def offM (F F' : Nat → va_E) : Prop := ∀ j, (j < 98 ∨ 107 < j) → F' j = F j
theorem offM_r (F : Nat → va_E) : offM F F := fun _ _ => rfl
theorem offM_t {F F' F'' : Nat → va_E} (h1 : offM F F') (h2 : offM F' F'') : offM F F'' := fun j hj => (h2 j hj).trans (h1 j hj)
theorem offM_u {F : Nat → va_E} {i : Nat} {c : va_E} (h : 98 ≤ i ∧ i ≤ 107) : offM F (va_up F i c) := fun j hj => va_up_ne _ _ (by omega)
theorem mR_fr {kk bb : Nat → Int} {rr : Nat → UInt64} {V W : Nat → Nat} {R : Nat → Vn} (h : mR kk bb rr V R) (hW : ∀ k, k < 16 → W k = V k) : mR kk bb rr W R := by
  intro r hr
  obtain ⟨h1, h2, h3, h4⟩ := h r hr
  refine ⟨h1, h2, h3, fun hk => ?_⟩
  obtain ⟨m1, m2, m3, m4⟩ := h4 hk
  refine ⟨m1, m2, ?_, ?_⟩
  · rw [hW _ (by omega), hW _ (by omega)]; exact m3
  · rw [hW _ (by omega), hW _ (by omega)]; exact m4
theorem mstd_3 {ad : Nat → Nat} {g : Nat → ClassId} {R : Nat → Vn} {ln sh : List Nat} {F : Nat → va_E} {hh ll f : Nat → Int} {v : UInt64} {V br : Nat → Nat} {kk bb : Nat → Int} {rr : Nat → UInt64} {lh xh dh th : Nat → Int} (h : mstd ad g R ln sh F hh ll f v V br kk bb rr lh xh dh th)
    {hh' ll' f' : Nat → Int} {v' : UInt64} {W br' : Nat → Nat} (hR : reg br' hh' ll' W) (hz : okB br') (hW : ∀ k, k < 16 → W k = V k) (hf12 : f' 12 = f 12) (hf14 : f' 14 = f 14) : mstd ad g R ln sh (va_up (va_up (va_up F 98 (oM ad f' v')) 99 (aB g hh')) 100 (aL g ll')) hh' ll' f' v' W br' kk bb rr lh xh dh th := by
  obtain ⟨a1, a2, a3, a4, a5, a6, a7, a8, a9, b1, b2, b3, b4, ⟨c1, c2, c3⟩, d1, d2, d3⟩ := h
  refine ⟨rfl, rfl, rfl, hR, hz, a6, a7, a8, mR_fr a9 hW, b1, b2, b3, b4, ⟨c1, hf12.trans c2, c3⟩, d1, hf14.trans d2, d3⟩
theorem mst_3 {ad : Nat → Nat} {g : Nat → ClassId} {R : Nat → Vn} {ln sh : List Nat} {F : Nat → va_E} {hh ll f : Nat → Int} {v : UInt64} {V br : Nat → Nat} {kk bb : Nat → Int} {rr : Nat → UInt64} {lh xh dh th : Nat → Int} (h : mstd ad g R ln sh F hh ll f v V br kk bb rr lh xh dh th)
    {hh' ll' f' : Nat → Int} {v' : UInt64} {W br' : Nat → Nat} {c : Int} (hR : reg br' hh' ll' W) (hz : okB br') (hW : ∀ k, k < 16 → W k = V k) (hf12 : f' 12 = f 12) (hf14 : f' 14 = f 14) (hf10 : f' 10 = c) : mst ad g R ln sh c (va_up (va_up (va_up F 98 (oM ad f' v')) 99 (aB g hh')) 100 (aL g ll')) :=
  ⟨_, _, _, _, _, _, _, _, _, _, _, _, _, mstd_3 h hR hz hW hf12 hf14, hf10⟩
theorem mst_1 {ad : Nat → Nat} {g : Nat → ClassId} {R : Nat → Vn} {ln sh : List Nat} {F : Nat → va_E} {hh ll f : Nat → Int} {v : UInt64} {V br : Nat → Nat} {kk bb : Nat → Int} {rr : Nat → UInt64} {lh xh dh th : Nat → Int} (h : mstd ad g R ln sh F hh ll f v V br kk bb rr lh xh dh th)
    {f' : Nat → Int} {v' : UInt64} {c : Int} (hf12 : f' 12 = f 12) (hf14 : f' 14 = f 14) (hf10 : f' 10 = c) : mst ad g R ln sh c (va_up F 98 (oM ad f' v')) := by
  obtain ⟨a1, a2, a3, a4, a5, a6, a7, a8, a9, b1, b2, b3, b4, ⟨c1, c2, c3⟩, d1, d2, d3⟩ := h
  exact ⟨hh, ll, f', v', V, br, kk, bb, rr, lh, xh, dh, th, ⟨rfl, a2, a3, a4, a5, a6, a7, a8, a9, b1, b2, b3, b4, ⟨c1, hf12.trans c2, c3⟩, d1, hf14.trans d2, d3⟩, hf10⟩
theorem offM_3 {F : Nat → va_E} {a b c : va_E} : offM F (va_up (va_up (va_up F 98 a) 99 b) 100 c) := offM_t (offM_u (by omega)) (offM_t (offM_u (by omega)) (offM_u (by omega)))
/-- what a register's number is, by its parts -/
theorem mR_at {kk bb : Nat → Int} {rr : Nat → UInt64} {V : Nat → Nat} {R : Nat → Vn} (h : mR kk bb rr V R) {r : Nat} (hr : r < 8) (hk : 0 ≤ kk r) : ∃ kd s u d, R r = (kd, s, u, d) ∧ okv (kd, s, u, d) ∧ kk r = kd ∧ kd ≠ -1 ∧ mreg kk bb rr V r kd s u d := by
  obtain ⟨h1, h2, h3, h4⟩ := h r hr
  refine ⟨(R r).1, (R r).2.1, (R r).2.2.1, (R r).2.2.2, rfl, h1, h2, by omega, h4 (by omega)⟩
/-- what store answers -/
def stoQ (ad : Nat → Nat) (g : Nat → ClassId) (R : Nat → Vn) (ln sh : List Nat) (to : Nat) (r : Option Vn) (kd code c0 z : Int) (F' : Nat → va_E) : Prop := (r = none ∧ z = 0 ∧ mst ad g R ln sh code F') ∨ ∃ w : Vn, r = some w ∧ okv w ∧ w.1 = kd ∧ z = kd ∧ mst ad g (va_up R to w) ln sh c0 F'
set_option maxRecDepth 100000 in
set_option maxHeartbeats 4000000 in
/-- store, at a state -/
theorem c_M_store2 {l : Launch} (hfl : l.flags = flags0) {D : va_G} {g : Nat → ClassId} {ad : Nat → Nat} {N : Nat} {F : Nat → va_E} {R : Nat → Vn} {ln sh : List Nat} {hh ll f : Nat → Int} {v : UInt64} {V br : Nat → Nat} {kk bb : Nat → Int} {rr : Nat → UInt64} {lh xh dh th : Nat → Int} {X Y to : Nat} {kd s code : Int}
    (hN : 109 ≤ N) (h : mstd ad g R ln sh F hh ll f v V br kk bb rr lh xh dh th) (hX : V 20 = X) (hY : V 21 = Y) (hY0 : 0 < Y) (hlX : lnw 28 X ≤ 18) (hlY : lnw 28 Y ≤ 18) (hbX : blen X ≤ 504) (hbY : blen Y ≤ 504) (hkd : 0 ≤ kd ∧ kd ≤ 2) (hrs : f 7 = if s < 0 then 1 else 0) (hs : -1 ≤ s ∧ s ≤ 1) (hto : to < 8) (hk0 : kd = 0 → Y ∣ X) (hs0 : s = 0 → X = 0) :
    JC l y_M_store b_M_store 4 (Option.some Jvm.ClassFile.FieldType.int) rm_M_store (0, 0) D jCl (jTys g) ad N F [.ref (ad 98), .int (iI kd), .int (iI (to : Int)), .int (iI code)] (ji ad N (fun z F' => stoQ ad g R ln sh to (fin kd s X Y) kd code (f 10) z F' ∧ offM F F')) := by
  have h0 := h
  obtain ⟨a1, a2, a3, a4, a5, a6, a7, a8, a9, b1, b2, b3, b4, ⟨c1, c2, c3⟩, d1, d2, d3⟩ := h
  refine JC.mono (c_M_store hfl hN a1 a2 a3 a4 a5 a6 a7 a8 hX hY hY0 hlX hlY hbX hbY hkd hrs hs hto (code := code)) ?_
  rintro o ad' N' F' ⟨z, r1, r2, r3, hh', ll', f', W, v', q1, q2, q3⟩
  refine ⟨z, r1, r2, r3, ?_⟩
  rcases q3 with ⟨w1, w2, w3, w4, rfl⟩ | ⟨s', u, d, x, w1, w2, w3, w4, w5, rfl⟩
  · exact ⟨Or.inl ⟨w1, w2, mst_3 h0 q1 a5 (fun k hk => w4 k (by omega)) (q2 12 (by omega)) (q2 14 (by omega)) w3⟩, offM_3⟩
  · have hok := okv_fin hkd hs hs0 hY0 hk0 w1
    refine ⟨Or.inr ⟨(kd, s', u, d), w1, hok, rfl, w2, hh', ll', f', v', W, br, va_up kk to kd, va_up bb to (if s' < 0 then 1 else 0), va_up rr to x, lh, xh, dh, th, ⟨rfl, rfl, rfl, q1, a5, rfl, rfl, rfl, ?_, b1, b2, b3, b4, ⟨c1, (q2 12 (by omega)).trans c2, c3⟩, d1, (q2 14 (by omega)).trans d2, d3⟩, w3⟩, offM_t offM_3 (offM_t (offM_u (by omega)) (offM_t (offM_u (by omega)) (offM_u (by omega))))⟩
    intro r hr
    by_cases e : r = to
    · subst e
      rw [va_up_self, va_up_self, va_up_self]
      exact ⟨hok, rfl, by split <;> omega, fun _ => w5⟩
    · rw [va_up_ne _ _ e, va_up_ne _ _ e, va_up_ne _ _ e]
      obtain ⟨k1, k2, k3, k4⟩ := a9 r hr
      refine ⟨k1, k2, k3, fun hk => ?_⟩
      obtain ⟨m1, m2, m3, m4⟩ := k4 hk
      refine ⟨by rw [va_up_ne _ _ e]; exact m1, by rw [va_up_ne _ _ e]; exact m2, ?_, ?_⟩
      · rw [w4 _ (by omega) (by omega) (by omega), w4 _ (by omega) (by omega) (by omega)]; exact m3
      · rw [w4 _ (by omega) (by omega) (by omega), w4 _ (by omega) (by omega) (by omega), va_up_ne _ _ e]; exact m4
