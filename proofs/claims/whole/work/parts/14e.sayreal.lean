/-! the Model: show -/

def lzF : Nat → Nat → Nat
  | 0, _ => 0
  | f + 1, H => if H % 10 = 0 then lzF f (H / 10) + 1 else 0
/-- how many zeros a number ends in -/
def lz10 (H : Nat) : Nat := lzF H H
theorem dgv_s (b H k : Nat) : dgv b H (k + 1) = dgv b (H / b) k := by
  unfold dgv
  rw [Nat.pow_succ, Nat.mul_comm (b ^ k) b, ← Nat.div_div_eq_div_mul]
theorem dgv_z (b H : Nat) : dgv b H 0 = H % b := by unfold dgv; rw [Nat.pow_zero, Nat.div_one]
theorem lzF_eq : ∀ j f H, H ≤ f → (∀ k, k < j → dgv 10 H k = 0) → dgv 10 H j ≠ 0 → lzF f H = j := by
  intro j
  induction j with
  | zero =>
    intro f H hf h1 h2
    rw [dgv_z] at h2
    cases f with
    | zero => omega
    | succ f => exact if_neg h2
  | succ j ih =>
    intro f H hf h1 h2
    have h3 := h1 0 (Nat.succ_pos _)
    rw [dgv_z] at h3
    rw [dgv_s] at h2
    have h4 : H ≠ 0 := by
      intro w
      subst w
      exact h2 (by unfold dgv; simp)
    cases f with
    | zero => omega
    | succ f =>
      show (if H % 10 = 0 then lzF f (H / 10) + 1 else 0) = _
      rw [if_pos h3, ih f (H / 10) (by omega) (fun k hk => by rw [← dgv_s]; exact h1 _ (by omega)) h2]
theorem lz_eq {H j : Nat} (h1 : ∀ k, k < j → dgv 10 H k = 0) (h2 : dgv 10 H j ≠ 0) : lz10 H = j := lzF_eq j H H (Nat.le_refl _) h1 h2
theorem ndg_top {b H : Nat} (hb : 2 ≤ b) (hH : 0 < H) : dgv b H (ndg b H - 1) ≠ 0 := by
  have h1 := ndg_pos hb hH
  have h2 := ndg_lt (b := b) (v := H) hb
  have h3 : b ^ (ndg b H - 1) ≤ H := by
    apply Nat.le_of_not_lt
    intro w
    have := (ndg_le hb).mpr w
    omega
  have hp : 0 < b ^ (ndg b H - 1) := Nat.pow_pos (by omega)
  unfold dgv
  rw [Nat.mod_eq_of_lt]
  · have := (Nat.le_div_iff_mul_le hp).mpr (show 1 * b ^ (ndg b H - 1) ≤ H by omega)
    omega
  · rw [Nat.div_lt_iff_lt_mul hp, Nat.mul_comm, ← Nat.pow_succ, show (ndg b H - 1).succ = ndg b H by omega]
    exact h2
/-- the character at a place of a real with H's digits and the exponent e -/
def layC (H : Nat) (e p : Int) : Nat := if (ndg 10 H : Int) - 1 - (e - p) < (ndg 10 H : Int) ∧ (lz10 H : Int) ≤ (ndg 10 H : Int) - 1 - (e - p) then 48 + dgv 10 H ((ndg 10 H : Int) - 1 - (e - p)).toNat else 48
def layP (c : Int → Nat) : Nat → Int → List Nat
  | 0, _ => []
  | n + 1, p => c p :: ((if p = 0 then [46] else []) ++ layP c n (p - 1))
theorem layP_0 {c : Int → Nat} {n : Nat} {p : Int} (h : p = 0) : layP c (n + 1) p = c p :: 46 :: layP c n (p - 1) := by
  show _ :: ((if _ then _ else _) ++ _) = _
  rw [if_pos h]; rfl
theorem layP_1 {c : Int → Nat} {n : Nat} {p : Int} (h : p ≠ 0) : layP c (n + 1) p = c p :: layP c n (p - 1) := by
  show _ :: ((if _ then _ else _) ++ _) = _
  rw [if_neg h]; rfl
theorem lay_1 {w : List Nat} {a : Nat} {s x : List Nat} : w ++ [a] ++ s ++ x = w ++ (a :: [] ++ s ++ x) := by
  rw [List.append_assoc, List.append_assoc, List.append_assoc]
theorem lay_2 {w : List Nat} {a : Nat} {s x : List Nat} : w ++ [a] ++ [46] ++ s ++ x = w ++ (a :: [46] ++ s ++ x) := by
  rw [List.append_assoc, List.append_assoc, List.append_assoc, List.append_assoc]; rfl
def layF (H : Nat) (e : Int) : List Nat := layP (layC H e) (((if 0 < e then e else 0) - (if e - ((ndg 10 H : Int) - (lz10 H : Int)) + 1 < -1 then e - ((ndg 10 H : Int) - (lz10 H : Int)) + 1 else -1) + 1).toNat) (if 0 < e then e else 0)
def layE (H : Nat) (e : Int) : List Nat := ((48 + dgv 10 H (ndg 10 H - 1)) :: (if 1 < ndg 10 H - lz10 H then [46] else [])) ++ sgr (dgv 10 H) 0 3 0 (lz10 H) (ndg 10 H - 1 - lz10 H) ++ expT e 101
def realT (H : Nat) (e : Int) : List Nat := if -4 ≤ e ∧ e ≤ 15 then layF H e else layE H e
/-- a real's text without its sign -/
noncomputable def rlT (u d : Nat) : List Nat := if u = 0 then [48, 46, 48] else realT (shR u d).2 (shE u d)
def dgT (x : Nat) : List Nat := sgr (dgv 10 x) 0 3 0 0 (ndm 10 1 x)
/-- what show lays on the sheet -/
noncomputable def showV (v : Vn) : List Nat := (if v.2.1 < 0 then [45] else []) ++ (if v.1 = 2 then rlT v.2.2.1 v.2.2.2 else dgT v.2.2.1 ++ (if v.2.2.2 ≠ 1 then 47 :: dgT v.2.2.2 else []))
theorem real_z {s s' : Int} {u d : Nat} {z : UInt64} (h : near s u d = some (2, s', u, d)) (hd : 0 < d) (hz : z = fd false u (1 - (blen d : Int))) : Op.cmpValue (Jvm.FP.dcmp z Jvm.FP.dconst0) .l = 0 ↔ u = 0 := by
  obtain ⟨h1, h2, m, e0, h3, h4, h5, h6, h7⟩ := real_ok h hd
  rw [hz, h3, c_d0, dcmp_eq, fd_dec ⟨by omega, by omega, by omega⟩ ⟨by decide, by decide, by decide⟩]
  have hp := sd_pos (show 0 < 1 by decide) e0
  rw [show su 0 0 = 0 from rfl, Nat.zero_mul, show sd 1 0 = 1 from rfl, Nat.mul_one]
  constructor
  · intro w
    rw [w, Nat.zero_mul] at h7
    rcases Nat.mul_eq_zero.mp h7.symm with q | q
    · exact q
    · omega
  · intro w
    rw [w, Nat.zero_mul] at h7
    rcases Nat.mul_eq_zero.mp h7 with q | q
    · exact q
    · omega
theorem nil_ap (w : List Nat) : w ++ [] = w := List.append_nil w
theorem ndm_b {b l x n : Nat} (hb : 2 ≤ b) (h : x < b ^ n) (hl : l ≤ n) : ndm b l x ≤ n := by
  have := (ndg_le hb).mpr h
  unfold ndm
  split <;> omega
theorem dg154 {x : Nat} (h : x < 2 ^ 154) : ndm 10 1 x ≤ 50 := ndm_b (by decide) (Nat.lt_trans h (by decide)) (by decide)
/-- a text of at most n characters -/
def okT (n : Nat) (w : List Nat) : Prop := w.length ≤ n ∧ ∀ c, c ∈ w → c < 128
theorem okT_nil (n : Nat) : okT n [] := ⟨Nat.zero_le _, fun c hc => absurd hc List.not_mem_nil⟩
theorem okT_cons {n c : Nat} {w : List Nat} (hc : c < 128) (h : okT n w) : okT (n + 1) (c :: w) := ⟨by rw [List.length_cons]; exact Nat.succ_le_succ h.1, fun x hx => by
  rcases List.mem_cons.mp hx with q | q
  · rw [q]; exact hc
  · exact h.2 x q⟩
theorem okT_app {n m : Nat} {w v : List Nat} (h : okT n w) (h2 : okT m v) : okT (n + m) (w ++ v) := ⟨by rw [List.length_append]; have := h.1; have := h2.1; omega, fun x hx => by
  rcases List.mem_append.mp hx with q | q
  · exact h.2 x q
  · exact h2.2 x q⟩
theorem okT_le {n m : Nat} {w : List Nat} (h : okT n w) (hm : n ≤ m) : okT m w := ⟨Nat.le_trans h.1 hm, h.2⟩
theorem okT_one {c : Nat} (hc : c < 128) : okT 1 [c] := okT_cons hc (okT_nil 0)
theorem okT_sgr {dv : Nat → Nat} {cap : Int} {grp pt to : Nat} (hd : ∀ k, dv k < 16) (hp : pt < 128) : ∀ n, okT (2 * n) (sgr dv cap grp pt to n) := by
  intro n
  induction n with
  | zero => exact okT_nil 0
  | succ n ih =>
    have hc := chd_b (cap := cap) (hd (to + n))
    by_cases h : 0 < pt ∧ 0 < n ∧ n % grp = 0
    · rw [sgr_y h]; exact okT_cons (by omega) (okT_cons hp ih)
    · rw [sgr_n h]; exact okT_le (okT_cons (by omega) ih) (by omega)
theorem okT_sgr0 {dv : Nat → Nat} {cap : Int} {grp to : Nat} (hd : ∀ k, dv k < 16) (n : Nat) : okT n (sgr dv cap grp 0 to n) := ⟨Nat.le_of_eq (sgr_1 n), (okT_sgr hd (by decide) n).2⟩
theorem dgv_10 (v k : Nat) : dgv 10 v k < 10 := Nat.mod_lt _ (by decide)
theorem dgv_16 (v k : Nat) : dgv 10 v k < 16 := Nat.lt_trans (dgv_10 v k) (by decide)
theorem layC_b (H : Nat) (e p : Int) : layC H e p < 128 := by
  unfold layC
  have := dgv_10 H ((ndg 10 H : Int) - 1 - (e - p)).toNat
  split <;> omega
theorem okT_lay {c : Int → Nat} (hc : ∀ p, c p < 128) : ∀ n p, okT (n + (if 0 ≤ p then 1 else 0)) (layP c n p) := by
  intro n
  induction n with
  | zero => intro p; exact okT_nil _
  | succ n ih =>
    intro p
    have h1 := ih (p - 1)
    by_cases h : p = 0
    · rw [layP_0 h]
      subst h
      exact okT_le (okT_cons (hc _) (okT_cons (by decide) h1)) (by simp)
    · rw [layP_1 h]
      refine okT_le (okT_cons (hc _) h1) ?_
      split <;> split <;> omega
theorem okT_exp {e : Int} {lt : Nat} (he : -100 < e ∧ e < 100) (hl : lt < 128) : okT 4 (expT e lt) := okT_cons hl (okT_cons (by split <;> decide) (okT_cons (by omega) (okT_cons (by omega) (okT_nil 0))))
theorem okT_real {H : Nat} {e : Int} (hH : H < 10 ^ 18) (he : -60 ≤ e ∧ e ≤ 60) : okT 50 (realT H e) := by
  have hn : ndg 10 H ≤ 18 := (ndg_le (by decide)).mpr hH
  unfold realT
  split
  · unfold layF
    refine okT_le (okT_lay (layC_b H e) _ _) ?_
    (repeat' split) <;> omega
  · unfold layE
    have h1 := dgv_10 H (ndg 10 H - 1)
    have h2 : okT 1 (if 1 < ndg 10 H - lz10 H then [46] else []) := by split; exact okT_one (by decide); exact okT_nil 1
    exact okT_le (okT_app (okT_app (okT_cons (by omega) h2) (okT_sgr0 (dgv_16 H) _)) (okT_exp (by omega) (by decide))) (by omega)
theorem okT_dg {x : Nat} (h : x < 2 ^ 120) : okT 37 (dgT x) := by
  have h1 : ndm 10 1 x ≤ 37 := ndm_b (by decide) (Nat.lt_trans h (by decide)) (by decide)
  exact okT_le (okT_sgr0 (dgv_16 x) _) h1
set_option maxRecDepth 100000 in
set_option maxHeartbeats 4000000 in
theorem c_M_shownSize {l : Launch} (hfl : l.flags = flags0) {D : va_G} {g : Nat → ClassId} {ad : Nat → Nat} {N : Nat} {F : Nat → va_E} {f : Nat → Int} {v : UInt64} {xh tt : Nat → Int} {w : List Nat}
    (hN : 109 ≤ N) (hO : F 98 = oM ad f v) (h105 : F 105 = .inl (g 0, 260, .inl (aI xh))) (h107 : F 107 = .inl (g 0, 260, .inl (aI tt))) (hmt : mtx tt w) (hf18 : f 18 = (w.length : Int)) (hwl : w.length ≤ 259) :
    JC l y_M_shownSize b_M_shownSize 2 (Option.some Jvm.ClassFile.FieldType.int) rm_M_shownSize (0, 0) D jCl (jTys g) ad N F [.ref (ad 98)] (ji ad N (fun z F' => z = (w.length : Int) ∧ ∃ xh' : Nat → Int, mtx xh' w ∧ F' = va_up (va_up F 105 (.inl (g 0, 260, .inl (aI xh')))) 98 (oM ad (va_up f 14 ((w.length : Nat) : Int)) v))) := by
  refine JC.go hfl (own := "NumberTowerModel") (lv := [(0, .ref (ad 98))]) rfl (by decide +kernel) (Nat.le_of_ble_eq_true rfl) rfl (fun A => ?_)
  refine J_iconst d_M_shownSize_0 ?_
  refine J_istore_n (lv' := [(1, .int (iI 0)), (0, .ref (ad 98))]) d_M_shownSize_1 rfl (by decide) rfl ?_
  refine J_pick (lv' := [(0, .ref (ad 98)), (1, .int (iI 0))]) [1, 0] rfl ?_
  have loop2 : ∀ (fuel : Nat) (k : Nat) (x2 : Nat → Int) (hk : k ≤ w.length) (hx2 : ∀ j, j < k → x2 j = ((w.getD j 0 : Nat) : Int)) (hfu : w.length - k < fuel), J l rm_M_shownSize (0, 0) "NumberTowerModel" b_M_shownSize 2 (Option.some Jvm.ClassFile.FieldType.int) D jCl (jTys g) A (fun _ me => me.name = y_M_shownSize.name) (ji ad N (fun z F' => z = (w.length : Int) ∧ ∃ xh' : Nat → Int, mtx xh' w ∧ F' = va_up (va_up F 105 (.inl (g 0, 260, .inl (aI xh')))) 98 (oM ad (va_up f 14 ((w.length : Nat) : Int)) v))) ad N 0 0 2 [(0, .ref (ad 98)), (1, .int (iI (k : Int)))] [] (va_up F 105 (.inl (g 0, 260, .inl (aI x2)))) := by
    intro fuel
    induction fuel with
    | zero => intro k x2 hk hx2 hfu; exact absurd hfu (Nat.not_lt_zero _)
    | succ fuel ih =>
      intro k x2 hk hx2 hfu
      refine J_iload_n 1 d_M_shownSize_2 rfl rfl ?_
      refine J_aload_n 0 d_M_shownSize_3 rfl rfl ?_
      refine gf_M_265 (by omega) (by rw [va_up_ne _ _ (by decide)]; exact hO) rfl d_M_shownSize_4 ?_
      refine J_topi (r := (w.length : Int)) (congrArg iI hf18) ?_
      refine J_if_icmpge (tgt := 28) d_M_shownSize_7 (by decide) ⟨by omega, by omega⟩ ⟨by omega, by omega⟩ (fun c7 => ?_) (fun c7 => ?_)
      · refine J_aload_n 0 d_M_shownSize_28 rfl rfl ?_
        refine J_aload_n 0 d_M_shownSize_29 rfl rfl ?_
        refine gf_M_265 (by omega) (by rw [va_up_ne _ _ (by decide)]; exact hO) rfl d_M_shownSize_30 ?_
        refine J_topi (r := (w.length : Int)) (congrArg iI hf18) ?_
        refine pm_M_307 (by omega) (by rw [va_up_ne _ _ (by decide)]; exact hO) d_M_shownSize_33 ?_
        refine J_aload_n 0 d_M_shownSize_36 rfl rfl ?_
        refine gf_M_307 (by omega) (by rw [va_up_self]) rfl d_M_shownSize_37 ?_
        refine J_topi (r := (w.length : Int)) (congrArg iI (va_up_self ..)) ?_
        refine J_iret rfl rfl d_M_shownSize_40 ⟨by decide, by decide⟩ ?_
        exact ⟨_, rfl, rfl, rfl, rfl, x2, (fun j hj => hx2 j (by omega)), rfl⟩
      · refine J_aload_n 0 d_M_shownSize_10 rfl rfl ?_
        refine gf_M_30 (by omega) (by rw [va_up_ne _ _ (by decide)]; exact hO) rfl d_M_shownSize_11 ?_
        refine J_iload_n 1 d_M_shownSize_14 rfl rfl ?_
        refine J_aload_n 0 d_M_shownSize_15 rfl rfl ?_
        refine gf_M_36 (by omega) (by rw [va_up_ne _ _ (by decide)]; exact hO) rfl d_M_shownSize_16 ?_
        refine J_iload_n 1 d_M_shownSize_19 rfl rfl ?_
        refine J_iaload 0 rfl (by omega) (by rw [va_up_ne _ _ (by decide)]; exact h107) (by omega) d_M_shownSize_20 ?_
        refine J_topi (r := tt k) (congrArg (fun q => iI (tt q)) (by omega)) ?_
        refine J_iastore 0 rfl (by omega) (by rw [va_up_self]) (by omega) d_M_shownSize_21 ?_
        refine J_eqF (F2 := va_up (va_up F 105 (.inl (g 0, 260, .inl (aI x2)))) 105 (.inl (g 0, 260, .inl (aI (va_up x2 k (tt k)))))) (congrArg (fun q => va_up (va_up F 105 (.inl (g 0, 260, .inl (aI x2)))) 105 (.inl (g 0, 260, .inl (aI (va_up x2 q (tt k)))))) (by omega : (k : Int).toNat = k)) ?_
        refine J_eqF (F2 := va_up F 105 (.inl (g 0, 260, .inl (aI (va_up x2 k (tt k)))))) (up_in0) ?_
        refine J_iinc (j := 1) (b := (k : Int) + 1) (lv' := [(1, .int (iI ((k : Int) + 1))), (0, .ref (ad 98))]) d_M_shownSize_22 rfl (by omega) (by decide) rfl ?_
        refine J_goto (tgt := 2) d_M_shownSize_25 (by decide) ?_
        refine J_pick (lv' := [(0, .ref (ad 98)), (1, .int (iI ((k : Int) + 1)))]) [1, 0] rfl ?_
        exact ih (k + 1) (va_up x2 k (tt k)) (by omega) (fun j hj => by
            by_cases q : j = k
            · subst q; rw [va_up_self]; exact hmt j (by omega)
            · rw [va_up_ne _ _ q]; exact hx2 j (by omega)) (by omega)
  refine J_eqF (F2 := va_up F 105 (.inl (g 0, 260, .inl (aI xh)))) (up_same1 h105) ?_
  exact loop2 ((w.length - 0) + 1) 0 xh (by omega) (fun j hj => absurd hj (Nat.not_lt_zero _)) (Nat.lt_succ_self _)
