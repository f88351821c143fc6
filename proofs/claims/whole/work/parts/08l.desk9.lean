/-! the class's desk: inverses, powers modulo, hashes -/
/-- what Euclid's steps keep: e is 1 while base is below, else -1 -/
def eucI (m B a b s t : Nat) (e : Int) : Prop := (∃ k : Int, (a : Int) + e * s * B = k * m) ∧ (∃ k : Int, (b : Int) - e * t * B = k * m) ∧ t * a + s * b = m ∧ Nat.gcd b a = Nat.gcd B m ∧ 2 * s ≤ m
theorem eucI_0 {m B : Nat} : eucI m B m B 0 1 1 := by
  refine ⟨⟨1, by simp⟩, ⟨0, by omega⟩, by omega, rfl, by omega⟩
theorem eucI_s {m B a b s t : Nat} {e : Int} (h : eucI m B a b s t e) (hb : b ≠ 0) (hab : b < a) : eucI m B b (a % b) t (s + a / b * t) (-e) := by
  obtain ⟨⟨k1, h1⟩, ⟨k2, h2⟩, h3, h4, h5⟩ := h
  have hd := Nat.div_add_mod a b
  have hdz : (a : Int) = b * ((a / b : Nat) : Int) + ((a % b : Nat) : Int) := by exact_mod_cast hd.symm
  refine ⟨⟨k2, ?_⟩, ⟨k1 - ((a / b : Nat) : Int) * k2, ?_⟩, ?_, by rw [Nat.gcd_comm, ← h4, Nat.gcd_comm b a]; exact (by rw [Nat.gcd_comm a b, Nat.gcd_rec b a, Nat.gcd_comm]), ?_⟩
  · rw [← h2, Int.neg_mul, Int.neg_mul]; omega
  · have e1 : (((s + a / b * t : Nat) : Int)) = (s : Int) + ((a / b : Nat) : Int) * t := by push_cast; rfl
    rw [e1, Int.sub_mul, Int.mul_assoc _ k2, ← h1, ← h2, Int.mul_add, Int.add_mul, Int.mul_sub, Int.neg_mul, Int.neg_mul, Int.neg_mul, Int.neg_mul]
    have e2 : e * (((a / b : Nat) : Int) * (t : Int)) * (B : Int) = ((a / b : Nat) : Int) * (e * (t : Int) * (B : Int)) := by
      rw [← Int.mul_assoc, Int.mul_comm e, Int.mul_assoc, Int.mul_assoc, Int.mul_assoc]
    have e3 : ((a / b : Nat) : Int) * (b : Int) = b * ((a / b : Nat) : Int) := Int.mul_comm _ _
    rw [e2, e3]
    omega
  · rw [Nat.add_mul]
    have e1 : a / b * t * b = t * (b * (a / b)) := by ac_rfl
    have e2 : t * a = t * (b * (a / b)) + t * (a % b) := by rw [← Nat.mul_add, hd]
    have e3 : (s + a / b * t) * b = s * b + a / b * t * b := Nat.add_mul ..
    omega
  · have h6 : 2 ≤ a := by omega
    have h7 : t * 2 ≤ t * a := Nat.mul_le_mul_left _ h6
    omega
theorem eucI_t {m B a b s t : Nat} {e : Int} (h : eucI m B a b s t e) (ha : a ≠ 0) : t ≤ m := by
  have h1 : t * 1 ≤ t * a := Nat.mul_le_mul_left _ (by omega)
  have := h.2.2.1
  omega
theorem eucI_q {m B a b s t : Nat} {e : Int} (h : eucI m B a b s t e) (hb : b ≠ 0) : s + a / b * t ≤ m := by
  have h3 := h.2.2.1
  have h1 : (s + a / b * t) * 1 ≤ (s + a / b * t) * b := Nat.mul_le_mul_left _ (by omega)
  have h2 : t * (a / b * b) ≤ t * a := Nat.mul_le_mul_left _ (Nat.div_mul_le_self _ _)
  have e1 : a / b * t * b = t * (a / b * b) := by ac_rfl
  have e3 := Nat.add_mul s (a / b * t) b
  omega
/-- the inverse that comes out -/
theorem eucI_inv {m B s t : Nat} {e : Int} (hm : 0 < m) (h : eucI m B 1 0 s t e) : (e = -1 → s < m ∧ B * s % m = 1 % m) ∧ (e = 1 → (s = 0 → 0 < m ∧ B * 0 % m = 1 % m) ∧ (s ≠ 0 → m - s < m ∧ B * (m - s) % m = 1 % m)) := by
  obtain ⟨⟨k1, h1⟩, -, -, -, h5⟩ := h
  have mz : ∀ x y : Nat, (∃ k : Int, (x : Int) = y + k * m) → x % m = y % m := by
    rintro x y ⟨k, hk⟩
    have : ((x % m : Nat) : Int) = ((y % m : Nat) : Int) := by
      rw [Int.natCast_emod, Int.natCast_emod, hk, Int.add_mul_emod_self_right]
    exact_mod_cast this
  constructor
  · intro he
    subst he
    refine ⟨by omega, mz _ _ ⟨-k1, ?_⟩⟩
    rw [Int.neg_mul, ← h1, Int.neg_mul, Int.neg_mul, Int.natCast_mul, Int.mul_comm (B : Int), Int.one_mul]
    omega
  · intro he
    subst he
    constructor
    · intro hs
      subst hs
      refine ⟨hm, mz _ _ ⟨-k1, ?_⟩⟩
      rw [Int.neg_mul, ← h1]
      simp
    · intro hs
      refine ⟨by omega, mz _ _ ⟨B - k1, ?_⟩⟩
      rw [Int.natCast_mul, Int.natCast_sub (by omega), Int.sub_mul, ← h1, Int.mul_sub, Int.one_mul, Int.mul_comm (B : Int) (s : Int)]
      omega
set_option maxRecDepth 100000 in
set_option maxHeartbeats 4000000 in
theorem c_D_invertBase {l : Launch} (hfl : l.flags = flags0) {D : va_G} {g : Nat → ClassId} {ad : Nat → Nat} {N : Nat} {F0 : Nat → va_E} {W : Nat → Nat} {K S : Nat → Int} {m B : Nat}
    (hN : 109 ≤ N) (hW : bW W) (hDk : F0 9 = oD ad) (hm : W 39 = m) (hB : W 37 = B) (hBm : B < m) (hmb : m < 2 ^ 200) :
    JC l y_D_invertBase b_D_invertBase 8 (Option.some Jvm.ClassFile.FieldType.boolean) rm_D_invertBase (0, 0) D jCl (jTys g) ad N (cF ad g F0 W K S) [.ref (ad 9)] (ji ad N (fun z F' => ∃ W' : Nat → Nat, ((z = 1 ∧ Nat.gcd B m = 1 ∧ W' 37 < m ∧ B * W' 37 % m = 1 % m) ∨ (z = 0 ∧ Nat.gcd B m ≠ 1)) ∧ bW W' ∧ (∀ j, j ≠ 25 → j ≠ 27 → j ≠ 29 → j ≠ 31 → j ≠ 33 → j ≠ 35 → j ≠ 37 → W' j = W j) ∧ F' = cF ad g F0 W' K S)) := by
  have hm0 : 0 < m := by omega
  have hBb : B < 2 ^ 200 := Nat.lt_trans hBm hmb
  refine JC.go hfl (own := "NumberTower$Desk") (lv := [(0, .ref (ad 9))]) rfl (by decide +kernel) (Nat.le_of_ble_eq_true rfl) rfl (fun A => ?_)
  refine J_aload_n 0 d_D_invertBase_0 rfl rfl ?_
  refine gf_D_31 (by omega) ((cF_0 (by decide)).trans hDk) rfl d_D_invertBase_1 ?_
  refine J_astore_n (lv' := [(1, .ref (ad 27)), (0, .ref (ad 9))]) d_D_invertBase_4 rfl (by decide) rfl ?_
  refine J_aload_n 1 d_D_invertBase_5 rfl rfl ?_
  refine gf_D_34 (by omega) ((cF_0 (by decide)).trans hDk) rfl d_D_invertBase_6 ?_
  refine J_astore_n (lv' := [(2, .ref (ad 29)), (1, .ref (ad 27)), (0, .ref (ad 9))]) d_D_invertBase_9 rfl (by decide) rfl ?_
  refine J_aload_n 2 d_D_invertBase_10 rfl rfl ?_
  refine gf_D_37 (by omega) ((cF_0 (by decide)).trans hDk) rfl d_D_invertBase_11 ?_
  refine J_astore_n (lv' := [(3, .ref (ad 31)), (2, .ref (ad 29)), (1, .ref (ad 27)), (0, .ref (ad 9))]) d_D_invertBase_14 rfl (by decide) rfl ?_
  refine J_aload_n 3 d_D_invertBase_15 rfl rfl ?_
  refine gf_D_40 (by omega) ((cF_0 (by decide)).trans hDk) rfl d_D_invertBase_16 ?_
  refine J_astore (lv' := [(4, .ref (ad 33)), (3, .ref (ad 31)), (2, .ref (ad 29)), (1, .ref (ad 27)), (0, .ref (ad 9))]) d_D_invertBase_19 (by decide) rfl ?_
  refine J_aload_n 3 d_D_invertBase_21 rfl rfl ?_
  refine J_aload_n 4 d_D_invertBase_22 rfl rfl ?_
  refine gf_D_49 (by omega) ((cF_0 (by decide)).trans hDk) rfl d_D_invertBase_23 ?_
  refine J_callVv cw_D_89 nh_N_copyFrom pn_N_copyFrom rfl rfl (by omega) (cF_N (by decide) rfl) (As := [.ref (ad 39)]) (rest := []) rfl (Nat.le_of_ble_eq_true rfl) ⟨by decide, by decide⟩ rfl ⟨by decide, by decide⟩ d_D_invertBase_26 (n_copyFrom hfl (F0 := F0) (W := W) (K := K) (S := S) (k := 27) (m := 39) (hN := by omega) (hW := hW) (hk := (by decide)) (hm := (by decide)) (x := m) (hx := hm) (hd := (by decide))) (fun  F4 hq => ?_)
  obtain ⟨hW2, eF3⟩ := hq
  refine J_eqF (F2 := cF ad g F0 (va_up W 27 m) K S) eF3 ?_
  refine J_aload_n 2 d_D_invertBase_29 rfl rfl ?_
  refine J_aload_n 4 d_D_invertBase_30 rfl rfl ?_
  refine gf_D_46 (by omega) ((cF_0 (by decide)).trans hDk) rfl d_D_invertBase_31 ?_
  refine J_callVv cw_D_89 nh_N_copyFrom pn_N_copyFrom rfl rfl (by omega) (cF_N (by decide) (va_up_ne _ _ (by decide))) (As := [.ref (ad 37)]) (rest := []) rfl (Nat.le_of_ble_eq_true rfl) ⟨by decide, by decide⟩ rfl ⟨by decide, by decide⟩ d_D_invertBase_34 (n_copyFrom hfl (F0 := F0) (W := va_up W 27 m) (K := K) (S := S) (k := 29) (m := 37) (hN := by omega) (hW := hW2) (hk := (by decide)) (hm := (by decide)) (x := B) (hx := ((va_up_ne _ _ (by decide)).trans hB)) (hd := (by decide))) (fun  F8 hq => ?_)
  obtain ⟨hW6, eF7⟩ := hq
  refine J_eqF (F2 := cF ad g F0 (va_up (va_up W 27 m) 29 B) K S) eF7 ?_
  refine J_aload_n 1 d_D_invertBase_37 rfl rfl ?_
  refine J_callVv cw_D_171 nh_N_clear pn_N_clear rfl rfl (by omega) (cF_N (by decide) ((va_up_ne _ _ (by decide)).trans (va_up_ne _ _ (by decide)))) (As := []) (rest := []) rfl (Nat.le_of_ble_eq_true rfl) ⟨by decide, by decide⟩ rfl ⟨by decide, by decide⟩ d_D_invertBase_38 (n_clear hfl (F0 := F0) (W := va_up (va_up W 27 m) 29 B) (K := K) (S := S) (k := 31) (hN := by omega) (hW := hW6) (hk := (by decide))) (fun  F12 hq => ?_)
  obtain ⟨hW10, eF11⟩ := hq
  refine J_eqF (F2 := cF ad g F0 (va_up (va_up (va_up W 27 m) 29 B) 31 0) K S) eF11 ?_
  refine J_aload 0 d_D_invertBase_41 rfl ?_
  refine J_lconst (v := 1) d_D_invertBase_43 rfl ?_
  refine J_callVv cw_D_93 nh_N_set pn_N_set rfl rfl (by omega) (cF_N (by decide) ((va_up_ne _ _ (by decide)).trans ((va_up_ne _ _ (by decide)).trans (va_up_ne _ _ (by decide))))) (As := [.long (lI 1)]) (rest := []) rfl (Nat.le_of_ble_eq_true rfl) ⟨by decide, by decide⟩ rfl ⟨by decide, by decide⟩ d_D_invertBase_44 (n_set hfl (F0 := F0) (W := va_up (va_up (va_up W 27 m) 29 B) 31 0) (K := K) (S := S) (k := 33) (n := 1) (hN := by omega) (hW := hW10) (hk := (by decide)) (hn := by decide)) (fun  F16 hq => ?_)
  obtain ⟨hW14, eF15⟩ := hq
  refine J_eqF (F2 := cF ad g F0 (va_up (va_up (va_up (va_up W 27 m) 29 B) 31 0) 33 1) K S) eF15 ?_
  refine J_iconst d_D_invertBase_47 ?_
  refine J_istore (lv' := [(5, .int (iI 1)), (4, .ref (ad 33)), (3, .ref (ad 31)), (2, .ref (ad 29)), (1, .ref (ad 27)), (0, .ref (ad 9))]) d_D_invertBase_48 (by decide) rfl ?_
  refine J_iconst d_D_invertBase_50 ?_
  refine J_istore (lv' := [(6, .int (iI 0)), (5, .int (iI 1)), (4, .ref (ad 33)), (3, .ref (ad 31)), (2, .ref (ad 29)), (1, .ref (ad 27)), (0, .ref (ad 9))]) d_D_invertBase_51 (by decide) rfl ?_
  refine J_pick (lv' := [(0, .ref (ad 9)), (1, .ref (ad 27)), (2, .ref (ad 29)), (3, .ref (ad 31)), (4, .ref (ad 33)), (5, .int (iI 1)), (6, .int (iI 0))]) [6, 5, 4, 3, 2, 1, 0] rfl ?_
  have loop53 : ∀ (fuel : Nat) (i : Nat) (pa : Nat) (pb : Nat) (ps : Nat) (pt : Nat) (a : Nat) (b : Nat) (s : Nat) (t : Nat) (bl : Int) (W1 : Nat → Nat) (hi : i ≤ 1000) (hflg : ((pa = 27 ∧ pb = 29 ∧ ps = 31 ∧ pt = 33) ∨ (pa = 29 ∧ pb = 27 ∧ ps = 33 ∧ pt = 31))) (hpa : isN pa) (hpb : isN pb) (hps : isN ps) (hpt : isN pt) (hW1 : bW W1) (hfr : ∀ j, j ≠ 25 → j ≠ 27 → j ≠ 29 → j ≠ 31 → j ≠ 33 → j ≠ 35 → W1 j = W j) (hva : W1 pa = a) (hvb : W1 pb = b) (hvs : W1 ps = s) (hvt : W1 pt = t) (hbl : bl = 0 ∨ bl = 1) (heu : eucI m B a b s t (if bl = 1 then 1 else -1)) (hpq : a < 2 ^ 200 ∧ b < 2 ^ 200) (hpm : i = 0 ∨ a * b * 2 ^ (i - 1) ≤ m * B) (hp0 : i = 0 → a * b ≤ m * B) (hlt : b < a ∨ (a = m ∧ b = B)) (hfu : b < fuel), J l rm_D_invertBase (0, 0) "NumberTower$Desk" b_D_invertBase 8 (Option.some Jvm.ClassFile.FieldType.boolean) D jCl (jTys g) A (fun _ me => me.name = y_D_invertBase.name) (ji ad N (fun z F' => ∃ W' : Nat → Nat, ((z = 1 ∧ Nat.gcd B m = 1 ∧ W' 37 < m ∧ B * W' 37 % m = 1 % m) ∨ (z = 0 ∧ Nat.gcd B m ≠ 1)) ∧ bW W' ∧ (∀ j, j ≠ 25 → j ≠ 27 → j ≠ 29 → j ≠ 31 → j ≠ 33 → j ≠ 35 → j ≠ 37 → W' j = W j) ∧ F' = cF ad g F0 W' K S)) ad N 0 0 53 [(0, .ref (ad 9)), (1, .ref (ad pa)), (2, .ref (ad pb)), (3, .ref (ad ps)), (4, .ref (ad pt)), (5, .int (iI bl)), (6, .int (iI (i : Int)))] [] (cF ad g F0 W1 K S) := by
    intro fuel
    induction fuel with
    | zero => intro i pa pb ps pt a b s t bl W1 hi hflg hpa hpb hps hpt hW1 hfr hva hvb hvs hvt hbl heu hpq hpm hp0 hlt hfu; exact absurd hfu (Nat.not_lt_zero _)
    | succ fuel ih =>
      intro i pa pb ps pt a b s t bl W1 hi hflg hpa hpb hps hpt hW1 hfr hva hvb hvs hvt hbl heu hpq hpm hp0 hlt hfu
      refine J_iload 6 d_D_invertBase_53 rfl ?_
      refine J_sipush d_D_invertBase_55 (i16_ok (by decide)) ?_
      have lab134 : ∀  (hb0 : b = 0) , J l rm_D_invertBase (0, 0) "NumberTower$Desk" b_D_invertBase 8 (Option.some Jvm.ClassFile.FieldType.boolean) D jCl (jTys g) A (fun _ me => me.name = y_D_invertBase.name) (ji ad N (fun z F' => ∃ W' : Nat → Nat, ((z = 1 ∧ Nat.gcd B m = 1 ∧ W' 37 < m ∧ B * W' 37 % m = 1 % m) ∨ (z = 0 ∧ Nat.gcd B m ≠ 1)) ∧ bW W' ∧ (∀ j, j ≠ 25 → j ≠ 27 → j ≠ 29 → j ≠ 31 → j ≠ 33 → j ≠ 35 → j ≠ 37 → W' j = W j) ∧ F' = cF ad g F0 W' K S)) ad N 0 0 134 [(0, .ref (ad 9)), (1, .ref (ad pa)), (3, .ref (ad ps)), (5, .int (iI bl))] [] (cF ad g F0 W1 K S) := by
        intro  hb0
        refine J_aload_n 1 d_D_invertBase_134 rfl rfl ?_
        refine J_callVi cw_D_174 nh_N_isOne pn_N_isOne rfl rfl (by omega) (cF_N hpa hva) (As := []) (rest := []) rfl (Nat.le_of_ble_eq_true rfl) ⟨by decide, by decide⟩ rfl ⟨by decide, by decide⟩ d_D_invertBase_135 (n_isOne hfl (F0 := F0) (W := W1) (K := K) (S := S) (k := pa) (hN := by omega) (hW := hW1) (hk := hpa) (x := a) (hx := hva)) (fun z17 F1 hq => ?_)
        obtain ⟨hz17, eF1⟩ := hq
        refine J_eqF eF1 ?_
        refine J_ifne (tgt := 143) d_D_invertBase_138 (by decide) ⟨by omega, by omega⟩ (fun c138 => ?_) (fun c138 => ?_)
        · have ha1 : a = 1 := by omega
          rw [ha1, hb0] at heu
          obtain ⟨hi1, hi2⟩ := eucI_inv hm0 heu
          have hg1 : Nat.gcd B m = 1 := by rw [← heu.2.2.2.1, Nat.gcd_zero_left]
          refine J_aload_n 0 d_D_invertBase_143 rfl rfl ?_
          have lab182 : ∀ (W2 : Nat → Nat) (hW2 : bW W2) (hf2 : ∀ j, j ≠ 25 → j ≠ 27 → j ≠ 29 → j ≠ 31 → j ≠ 33 → j ≠ 35 → j ≠ 37 → W2 j = W j) (hv2 : W2 37 < m ∧ B * W2 37 % m = 1 % m) , J l rm_D_invertBase (0, 0) "NumberTower$Desk" b_D_invertBase 8 (Option.some Jvm.ClassFile.FieldType.boolean) D jCl (jTys g) A (fun _ me => me.name = y_D_invertBase.name) (ji ad N (fun z F' => ∃ W' : Nat → Nat, ((z = 1 ∧ Nat.gcd B m = 1 ∧ W' 37 < m ∧ B * W' 37 % m = 1 % m) ∨ (z = 0 ∧ Nat.gcd B m ≠ 1)) ∧ bW W' ∧ (∀ j, j ≠ 25 → j ≠ 27 → j ≠ 29 → j ≠ 31 → j ≠ 33 → j ≠ 35 → j ≠ 37 → W' j = W j) ∧ F' = cF ad g F0 W' K S)) ad N 0 0 182 [(0, .ref (ad 9))] [] (cF ad g F0 W2 K S) := by
            intro W2 hW2 hf2 hv2
            refine J_iconst d_D_invertBase_182 ?_
            refine J_iret rfl (nb01 (by omega)).1 d_D_invertBase_183 ⟨by decide, by decide⟩ ?_
            exact ⟨_, rfl, rfl, rfl, W2, Or.inl ⟨rfl, hg1, hv2.1, hv2.2⟩, hW2, hf2, rfl⟩
          refine gf_D_46 (by omega) ((cF_0 (by decide)).trans hDk) rfl d_D_invertBase_144 ?_
          refine J_aload_n 2 d_D_invertBase_147 rfl rfl ?_
          refine J_callVv cw_D_89 nh_N_copyFrom pn_N_copyFrom rfl rfl (by omega) (cF_N (by decide) ((hfr _ (by omega) (by omega) (by omega) (by omega) (by omega) (by omega)).trans hB)) (As := [.ref (ad ps)]) (rest := []) rfl (Nat.le_of_ble_eq_true rfl) ⟨by decide, by decide⟩ rfl ⟨by decide, by decide⟩ d_D_invertBase_148 (n_copyFrom hfl (F0 := F0) (W := W1) (K := K) (S := S) (k := 37) (m := ps) (hN := by omega) (hW := hW1) (hk := (by decide)) (hm := hps) (x := s) (hx := hvs) (hd := (by omega))) (fun  F21 hq => ?_)
          obtain ⟨hW19, eF20⟩ := hq
          refine J_eqF (F2 := cF ad g F0 (va_up W1 37 s) K S) eF20 ?_
          refine J_iload 3 d_D_invertBase_151 rfl ?_
          refine J_ifeq (tgt := 182) d_D_invertBase_153 (by decide) ⟨by omega, by omega⟩ (fun c153 => ?_) (fun c153 => ?_)
          · refine J_pick (lv' := [(0, .ref (ad 9))]) [0] rfl ?_
            exact lab182 (va_up W1 37 s) hW19 (fun j j1 j2 j3 j4 j5 j6 j7 => (show (va_up W1 37 s) j = W1 j from by rw [va_up_ne _ _ (by omega)]).trans (hfr j j1 j2 j3 j4 j5 j6)) (by rw [show (va_up W1 37 s) 37 = s from (va_up_self ..)]; first | exact hi1 (by rw [if_neg (by omega)]) | (have hs0 : s = 0 := (by omega); rw [hs0]; exact (hi2 (by rw [if_pos (by omega)])).1 hs0))
          · refine J_aload_n 2 d_D_invertBase_156 rfl rfl ?_
            refine J_callVi cw_D_120 nh_N_isZero pn_N_isZero rfl rfl (by omega) (cF_N hps ((va_up_ne _ _ (by omega)).trans hvs)) (As := []) (rest := []) rfl (Nat.le_of_ble_eq_true rfl) ⟨by decide, by decide⟩ rfl ⟨by decide, by decide⟩ d_D_invertBase_157 (n_isZero hfl (F0 := F0) (W := va_up W1 37 s) (K := K) (S := S) (k := ps) (hN := by omega) (hW := hW19) (hk := hps) (x := s) (hx := ((va_up_ne _ _ (by omega)).trans hvs))) (fun z22 F2 hq => ?_)
            obtain ⟨hz22, eF2⟩ := hq
            refine J_eqF eF2 ?_
            refine J_ifne (tgt := 182) d_D_invertBase_160 (by decide) ⟨by omega, by omega⟩ (fun c160 => ?_) (fun c160 => ?_)
            · refine J_pick (lv' := [(0, .ref (ad 9))]) [0] rfl ?_
              exact lab182 (va_up W1 37 s) hW19 (fun j j1 j2 j3 j4 j5 j6 j7 => (show (va_up W1 37 s) j = W1 j from by rw [va_up_ne _ _ (by omega)]).trans (hfr j j1 j2 j3 j4 j5 j6)) (by rw [show (va_up W1 37 s) 37 = s from (va_up_self ..)]; first | exact hi1 (by rw [if_neg (by omega)]) | (have hs0 : s = 0 := (by omega); rw [hs0]; exact (hi2 (by rw [if_pos (by omega)])).1 hs0))
            · refine J_aload_n 0 d_D_invertBase_163 rfl rfl ?_
              refine gf_D_46 (by omega) ((cF_0 (by decide)).trans hDk) rfl d_D_invertBase_164 ?_
              refine J_aload_n 0 d_D_invertBase_167 rfl rfl ?_
              refine gf_D_49 (by omega) ((cF_0 (by decide)).trans hDk) rfl d_D_invertBase_168 ?_
              refine J_callVv cw_D_89 nh_N_copyFrom pn_N_copyFrom rfl rfl (by omega) (cF_N (by decide) (va_up_self ..)) (As := [.ref (ad 39)]) (rest := []) rfl (Nat.le_of_ble_eq_true rfl) ⟨by decide, by decide⟩ rfl ⟨by decide, by decide⟩ d_D_invertBase_171 (n_copyFrom hfl (F0 := F0) (W := va_up W1 37 s) (K := K) (S := S) (k := 37) (m := 39) (hN := by omega) (hW := hW19) (hk := (by decide)) (hm := (by decide)) (x := m) (hx := ((va_up_ne _ _ (by decide)).trans ((hfr _ (by omega) (by omega) (by omega) (by omega) (by omega) (by omega)).trans hm))) (hd := (by decide))) (fun  F26 hq => ?_)
              obtain ⟨hW24, eF25⟩ := hq
              have hW27 := (congrArg bW (up_in0)).mp hW24
              refine J_eqF (F2 := cF ad g F0 (va_up W1 37 m) K S) (eF25.trans (congrArg (fun qq => cF ad g F0 qq K S) (up_in0))) ?_
              refine J_aload_n 0 d_D_invertBase_174 rfl rfl ?_
              refine gf_D_46 (by omega) ((cF_0 (by decide)).trans hDk) rfl d_D_invertBase_175 ?_
              refine J_aload_n 2 d_D_invertBase_178 rfl rfl ?_
              refine J_callVv cw_D_114 nh_N_subtract pn_N_subtract rfl rfl (by omega) (cF_N (by decide) (va_up_self ..)) (As := [.ref (ad ps)]) (rest := []) rfl (Nat.le_of_ble_eq_true rfl) ⟨by decide, by decide⟩ rfl ⟨by decide, by decide⟩ d_D_invertBase_179 (n_subtract hfl (F0 := F0) (W := va_up W1 37 m) (K := K) (S := S) (k := 37) (m := ps) (r := (m - s)) (hN := by omega) (hW := hW27) (hk := (by decide)) (hm := hps) (x := m) (hx := (va_up_self ..)) (y := s) (hy := ((va_up_ne _ _ (by omega)).trans hvs)) (hd := (by omega)) (hr := by have := heu.2.2.2.2; omega)) (fun  F31 hq => ?_)
              obtain ⟨hW29, eF30⟩ := hq
              have hW32 := (congrArg bW (up_in0)).mp hW29
              refine J_eqF (F2 := cF ad g F0 (va_up W1 37 (m - s)) K S) (eF30.trans (congrArg (fun qq => cF ad g F0 qq K S) (up_in0))) ?_
              refine J_pick (lv' := [(0, .ref (ad 9))]) [0] rfl ?_
              exact lab182 (va_up W1 37 (m - s)) hW32 (fun j j1 j2 j3 j4 j5 j6 j7 => (show (va_up W1 37 (m - s)) j = W1 j from by rw [va_up_ne _ _ (by omega)]).trans (hfr j j1 j2 j3 j4 j5 j6)) (by rw [show (va_up W1 37 (m - s)) 37 = (m - s) from (va_up_self ..)]; exact (hi2 (by rw [if_pos (by omega)])).2 (by omega))
        · refine J_iconst d_D_invertBase_141 ?_
          refine J_iret rfl (nb01 (by omega)).1 d_D_invertBase_142 ⟨by decide, by decide⟩ ?_
          exact ⟨_, rfl, rfl, rfl, W1, Or.inr ⟨rfl, fun e => by have h1 := heu.2.2.2.1; rw [hb0, Nat.gcd_zero_left] at h1; omega⟩, hW1, fun j j1 j2 j3 j4 j5 j6 j7 => hfr j j1 j2 j3 j4 j5 j6, rfl⟩
      refine J_if_icmpge (tgt := 134) d_D_invertBase_58 (by decide) ⟨by omega, by omega⟩ ⟨by omega, by omega⟩ (fun c58 => ?_) (fun c58 => ?_)
      · refine J_pick (lv' := [(0, .ref (ad 9)), (1, .ref (ad pa)), (3, .ref (ad ps)), (5, .int (iI bl))]) [0, 1, 3, 5] rfl ?_
        exact lab134  (by
          first
          | omega
          | (apply Classical.byContradiction
             intro hq1
             by_cases hpz : a = 0
             · rcases hlt with e | e <;> omega
             · have := euc_end hpm (Nat.lt_trans hmb (by decide)) (Nat.lt_trans hBb (by decide)) hq1 hpz
               omega))
      · refine J_aload_n 2 d_D_invertBase_61 rfl rfl ?_
        refine J_callVi cw_D_120 nh_N_isZero pn_N_isZero rfl rfl (by omega) (cF_N hpb hvb) (As := []) (rest := []) rfl (Nat.le_of_ble_eq_true rfl) ⟨by decide, by decide⟩ rfl ⟨by decide, by decide⟩ d_D_invertBase_62 (n_isZero hfl (F0 := F0) (W := W1) (K := K) (S := S) (k := pb) (hN := by omega) (hW := hW1) (hk := hpb) (x := b) (hx := hvb)) (fun z33 F3 hq => ?_)
        obtain ⟨hz33, eF3⟩ := hq
        refine J_eqF eF3 ?_
        refine J_ifne (tgt := 134) d_D_invertBase_65 (by decide) ⟨by omega, by omega⟩ (fun c65 => ?_) (fun c65 => ?_)
        · refine J_pick (lv' := [(0, .ref (ad 9)), (1, .ref (ad pa)), (3, .ref (ad ps)), (5, .int (iI bl))]) [0, 1, 3, 5] rfl ?_
          exact lab134  (by
            first
            | omega
            | (apply Classical.byContradiction
               intro hq1
               by_cases hpz : a = 0
               · rcases hlt with e | e <;> omega
               · have := euc_end hpm (Nat.lt_trans hmb (by decide)) (Nat.lt_trans hBb (by decide)) hq1 hpz
                 omega))
        · have hb0 : b ≠ 0 := by omega
          have hab : b < a := by
            rcases hlt with e | e
            · omega
            · omega
          have hes := eucI_s heu hb0 hab
          have hq := eucI_q heu hb0
          have hqt : a / b * t ≤ m := by omega
          have htm := eucI_t heu (by omega)
          have hqm : a / b < 2 ^ 200 := Nat.lt_of_le_of_lt (Nat.div_le_self _ _) hpq.1
          refine J_aload_n 1 d_D_invertBase_68 rfl rfl ?_
          refine J_aload_n 2 d_D_invertBase_69 rfl rfl ?_
          refine J_aload_n 0 d_D_invertBase_70 rfl rfl ?_
          refine gf_D_27 (by omega) ((cF_0 (by decide)).trans hDk) rfl d_D_invertBase_71 ?_
          refine J_callVv cw_D_117 nh_N_divide pn_N_divide rfl rfl (by omega) (cF_N hpa hva) (As := [.ref (ad pb), .ref (ad 25)]) (rest := []) rfl (Nat.le_of_ble_eq_true rfl) ⟨by decide, by decide⟩ rfl ⟨by decide, by decide⟩ d_D_invertBase_74 (n_divide hfl (F0 := F0) (W := W1) (K := K) (S := S) (k := pa) (m := pb) (p := 25) (hN := by omega) (hW := hW1) (hk := hpa) (hm := hpb) (hp := (by decide)) (x := a) (hx := hva) (y := b) (hy := hvb) (hd := (by omega)) (hd1 := (by omega)) (hd2 := (by omega)) (hx4 := Nat.lt_trans hpq.1 (by decide)) (hy4 := Nat.lt_trans hpq.2 (by decide))) (fun  F37 hq => ?_)
          obtain ⟨hW35, eF36⟩ := hq
          refine J_eqF (F2 := cF ad g F0 (va_up (va_up W1 25 (a / b)) pa (a % b)) K S) eF36 ?_
          refine J_aload_n 0 d_D_invertBase_77 rfl rfl ?_
          refine gf_D_43 (by omega) ((cF_0 (by decide)).trans hDk) rfl d_D_invertBase_78 ?_
          refine J_aload_n 0 d_D_invertBase_81 rfl rfl ?_
          refine gf_D_27 (by omega) ((cF_0 (by decide)).trans hDk) rfl d_D_invertBase_82 ?_
          refine J_aload 4 d_D_invertBase_85 rfl ?_
          refine J_callVv cw_D_97 nh_N_setProduct pn_N_setProduct rfl rfl (by omega) (cF_N (by decide) ((va_up_ne _ _ (by omega)).trans (va_up_ne _ _ (by decide)))) (As := [.ref (ad 25), .ref (ad pt)]) (rest := []) rfl (Nat.le_of_ble_eq_true rfl) ⟨by decide, by decide⟩ rfl ⟨by decide, by decide⟩ d_D_invertBase_87 (n_setProduct hfl (F0 := F0) (W := va_up (va_up W1 25 (a / b)) pa (a % b)) (K := K) (S := S) (k := 35) (m := 25) (p := pt) (hN := by omega) (hW := hW35) (hk := (by decide)) (hm := (by decide)) (hp := hpt) (x := a / b) (hx := ((va_up_ne _ _ (by omega)).trans (va_up_self ..))) (y := t) (hy := ((va_up_ne _ _ (by omega)).trans ((va_up_ne _ _ (by omega)).trans hvt))) (hd := (by decide)) (hd2 := (by omega)) (ht := Nat.lt_of_le_of_lt hqt (Nat.lt_trans hmb (by decide)))) (fun  F41 hq => ?_)
          obtain ⟨hW39, eF40⟩ := hq
          refine J_eqF (F2 := cF ad g F0 (va_up (va_up (va_up W1 25 (a / b)) pa (a % b)) 35 ((a / b) * t)) K S) eF40 ?_
          refine J_aload_n 3 d_D_invertBase_90 rfl rfl ?_
          refine J_aload_n 0 d_D_invertBase_91 rfl rfl ?_
          refine gf_D_43 (by omega) ((cF_0 (by decide)).trans hDk) rfl d_D_invertBase_92 ?_
          refine J_callVv cw_D_104 nh_N_add pn_N_add rfl rfl (by omega) (cF_N hps ((va_up_ne _ _ (by omega)).trans ((va_up_ne _ _ (by omega)).trans ((va_up_ne _ _ (by omega)).trans hvs)))) (As := [.ref (ad 35)]) (rest := []) rfl (Nat.le_of_ble_eq_true rfl) ⟨by decide, by decide⟩ rfl ⟨by decide, by decide⟩ d_D_invertBase_95 (n_add hfl (F0 := F0) (W := va_up (va_up (va_up W1 25 (a / b)) pa (a % b)) 35 ((a / b) * t)) (K := K) (S := S) (k := ps) (m := 35) (hN := by omega) (hW := hW39) (hk := hps) (hm := (by decide)) (x := s) (hx := ((va_up_ne _ _ (by omega)).trans ((va_up_ne _ _ (by omega)).trans ((va_up_ne _ _ (by omega)).trans hvs)))) (y := (a / b) * t) (hy := (va_up_self ..)) (hd := (by omega)) (ht := Nat.lt_of_le_of_lt hq (Nat.lt_trans hmb (by decide)))) (fun  F45 hq => ?_)
          obtain ⟨hW43, eF44⟩ := hq
          refine J_eqF (F2 := cF ad g F0 (va_up (va_up (va_up (va_up W1 25 (a / b)) pa (a % b)) 35 ((a / b) * t)) ps (s + ((a / b) * t))) K S) eF44 ?_
          refine J_aload_n 1 d_D_invertBase_98 rfl rfl ?_
          refine J_astore (lv' := [(7, .ref (ad pa)), (0, .ref (ad 9)), (1, .ref (ad pa)), (2, .ref (ad pb)), (3, .ref (ad ps)), (4, .ref (ad pt)), (5, .int (iI bl)), (6, .int (iI (i : Int)))]) d_D_invertBase_99 (by decide) rfl ?_
          refine J_aload_n 3 d_D_invertBase_101 rfl rfl ?_
          refine J_astore_n (lv' := [(1, .ref (ad pb)), (7, .ref (ad pa)), (0, .ref (ad 9)), (2, .ref (ad pb)), (3, .ref (ad ps)), (4, .ref (ad pt)), (5, .int (iI bl)), (6, .int (iI (i : Int)))]) d_D_invertBase_102 rfl (by decide) rfl ?_
          refine J_aload 1 d_D_invertBase_103 rfl ?_
          refine J_astore_n (lv' := [(2, .ref (ad pa)), (1, .ref (ad pb)), (7, .ref (ad pa)), (0, .ref (ad 9)), (3, .ref (ad ps)), (4, .ref (ad pt)), (5, .int (iI bl)), (6, .int (iI (i : Int)))]) d_D_invertBase_105 rfl (by decide) rfl ?_
          refine J_aload_n 4 d_D_invertBase_106 rfl rfl ?_
          refine J_astore (lv' := [(7, .ref (ad ps)), (2, .ref (ad pa)), (1, .ref (ad pb)), (0, .ref (ad 9)), (3, .ref (ad ps)), (4, .ref (ad pt)), (5, .int (iI bl)), (6, .int (iI (i : Int)))]) d_D_invertBase_107 (by decide) rfl ?_
          refine J_aload 5 d_D_invertBase_109 rfl ?_
          refine J_astore_n (lv' := [(3, .ref (ad pt)), (7, .ref (ad ps)), (2, .ref (ad pa)), (1, .ref (ad pb)), (0, .ref (ad 9)), (4, .ref (ad pt)), (5, .int (iI bl)), (6, .int (iI (i : Int)))]) d_D_invertBase_111 rfl (by decide) rfl ?_
          refine J_aload 1 d_D_invertBase_112 rfl ?_
          refine J_astore (lv' := [(4, .ref (ad ps)), (3, .ref (ad pt)), (7, .ref (ad ps)), (2, .ref (ad pa)), (1, .ref (ad pb)), (0, .ref (ad 9)), (5, .int (iI bl)), (6, .int (iI (i : Int)))]) d_D_invertBase_114 (by decide) rfl ?_
          have lab126 : ∀ (nb : Int) (hnb : (nb = 0 ∧ bl = 1) ∨ (nb = 1 ∧ bl = 0)) , J l rm_D_invertBase (0, 0) "NumberTower$Desk" b_D_invertBase 8 (Option.some Jvm.ClassFile.FieldType.boolean) D jCl (jTys g) A (fun _ me => me.name = y_D_invertBase.name) (ji ad N (fun z F' => ∃ W' : Nat → Nat, ((z = 1 ∧ Nat.gcd B m = 1 ∧ W' 37 < m ∧ B * W' 37 % m = 1 % m) ∨ (z = 0 ∧ Nat.gcd B m ≠ 1)) ∧ bW W' ∧ (∀ j, j ≠ 25 → j ≠ 27 → j ≠ 29 → j ≠ 31 → j ≠ 33 → j ≠ 35 → j ≠ 37 → W' j = W j) ∧ F' = cF ad g F0 W' K S)) ad N 0 0 126 [(0, .ref (ad 9)), (1, .ref (ad pb)), (2, .ref (ad pa)), (3, .ref (ad pt)), (4, .ref (ad ps)), (6, .int (iI (i : Int)))] [.int (iI nb)] (cF ad g F0 (va_up (va_up (va_up (va_up W1 25 (a / b)) pa (a % b)) 35 ((a / b) * t)) ps (s + ((a / b) * t))) K S) := by
            intro nb hnb
            refine J_istore (lv' := [(5, .int (iI nb)), (0, .ref (ad 9)), (1, .ref (ad pb)), (2, .ref (ad pa)), (3, .ref (ad pt)), (4, .ref (ad ps)), (6, .int (iI (i : Int)))]) d_D_invertBase_126 (by decide) rfl ?_
            refine J_iinc (j := 6) (b := (i : Int) + 1) (lv' := [(6, .int (iI ((i : Int) + 1))), (5, .int (iI nb)), (0, .ref (ad 9)), (1, .ref (ad pb)), (2, .ref (ad pa)), (3, .ref (ad pt)), (4, .ref (ad ps))]) d_D_invertBase_128 rfl (by omega) (by decide) rfl ?_
            refine J_goto (tgt := 53) d_D_invertBase_131 (by decide) ?_
            refine J_pick (lv' := [(0, .ref (ad 9)), (1, .ref (ad pb)), (2, .ref (ad pa)), (3, .ref (ad pt)), (4, .ref (ad ps)), (5, .int (iI nb)), (6, .int (iI ((i : Int) + 1)))]) [2, 3, 4, 5, 6, 1, 0] rfl ?_
            exact ih (i + 1) pb pa pt ps b (a % b) t (s + a / b * t) nb (va_up (va_up (va_up (va_up W1 25 (a / b)) pa (a % b)) 35 ((a / b) * t)) ps (s + ((a / b) * t))) (by omega) (by omega) hpb hpa hpt hps hW43 (fun j j1 j2 j3 j4 j5 j6 => (show (va_up (va_up (va_up (va_up W1 25 (a / b)) pa (a % b)) 35 ((a / b) * t)) ps (s + ((a / b) * t))) j = W1 j from by rw [va_up_ne _ _ (by omega), va_up_ne _ _ (by omega), va_up_ne _ _ (by omega), va_up_ne _ _ (by omega)]).trans (hfr j j1 j2 j3 j4 j5 j6)) (((va_up_ne _ _ (by omega)).trans ((va_up_ne _ _ (by omega)).trans ((va_up_ne _ _ (by omega)).trans ((va_up_ne _ _ (by omega)).trans hvb))))) (((va_up_ne _ _ (by omega)).trans ((va_up_ne _ _ (by omega)).trans (va_up_self ..)))) (((va_up_ne _ _ (by omega)).trans ((va_up_ne _ _ (by omega)).trans ((va_up_ne _ _ (by omega)).trans ((va_up_ne _ _ (by omega)).trans hvt))))) ((va_up_self ..)) (by omega) (by rw [show (if nb = 1 then (1 : Int) else -1) = -(if bl = 1 then 1 else -1) by (split <;> split <;> omega)]; exact hes) ⟨hpq.2, Nat.lt_of_le_of_lt (Nat.mod_le _ _) hpq.1⟩ (Or.inr (euc_step hpm hp0 hb0 (Or.inr hab))) (fun z => absurd z (Nat.succ_ne_zero _)) (Or.inl (Nat.mod_lt _ (Nat.pos_of_ne_zero hb0))) (by have := Nat.mod_lt a (Nat.pos_of_ne_zero hb0); omega)
          refine J_iload 6 d_D_invertBase_116 rfl ?_
          refine J_ifne (tgt := 125) d_D_invertBase_118 (by decide) ⟨by omega, by omega⟩ (fun c118 => ?_) (fun c118 => ?_)
          · refine J_iconst d_D_invertBase_125 ?_
            refine J_pick (lv' := [(0, .ref (ad 9)), (1, .ref (ad pb)), (2, .ref (ad pa)), (3, .ref (ad pt)), (4, .ref (ad ps)), (6, .int (iI (i : Int)))]) [5, 4, 3, 1, 0, 7] rfl ?_
            exact lab126 (0 : Int) (by omega)
          · refine J_iconst d_D_invertBase_121 ?_
            refine J_goto (tgt := 126) d_D_invertBase_122 (by decide) ?_
            refine J_pick (lv' := [(0, .ref (ad 9)), (1, .ref (ad pb)), (2, .ref (ad pa)), (3, .ref (ad pt)), (4, .ref (ad ps)), (6, .int (iI (i : Int)))]) [5, 4, 3, 1, 0, 7] rfl ?_
            exact lab126 (1 : Int) (by omega)
  exact loop53 (B + 1) 0 27 29 31 33 m B 0 1 (1 : Int) (va_up (va_up (va_up (va_up W 27 m) 29 B) 31 0) 33 1) (by omega) (by omega) (by decide) (by decide) (by decide) (by decide) hW14 (fun j j1 j2 j3 j4 j5 j6 => (show (va_up (va_up (va_up (va_up W 27 m) 29 B) 31 0) 33 1) j = W j from by rw [va_up_ne _ _ (by omega), va_up_ne _ _ (by omega), va_up_ne _ _ (by omega), va_up_ne _ _ (by omega)])) (((va_up_ne _ _ (by decide)).trans ((va_up_ne _ _ (by decide)).trans ((va_up_ne _ _ (by decide)).trans (va_up_self ..))))) (((va_up_ne _ _ (by decide)).trans ((va_up_ne _ _ (by decide)).trans (va_up_self ..)))) (((va_up_ne _ _ (by decide)).trans (va_up_self ..))) ((va_up_self ..)) (by omega) (by rw [if_pos rfl]; exact eucI_0) ⟨hmb, hBb⟩ (Or.inl rfl) (fun _ => Nat.le_refl _) (Or.inl hBm) (Nat.lt_succ_self _)
