/-! the Model: format -/

/-- what stands ahead of the body -/
def hedT (s : Int) (pl : Nat) (sh : Int) (ty : Nat) : List Nat := (if s < 0 then [45] else if pl = 43 ∨ pl = 32 then [pl] else []) ++ (if sh ≠ 0 ∧ (ty = 98 ∨ ty = 120 ∨ ty = 88) then [48, ty] else [])
def padW (al : Nat) (ze : Int) : Nat := if 0 < al then al else if ze ≠ 0 then 61 else 62
def padC (fi : Nat) (ze : Int) : Nat := if 0 < fi then fi else if ze ≠ 0 then 48 else 32
def padT (way n c : Nat) (h b : List Nat) : List Nat :=
  if way = 60 then h ++ b ++ List.replicate n c else if way = 61 then h ++ List.replicate n c ++ b
  else if way = 94 then List.replicate (n / 2) c ++ (h ++ b) ++ List.replicate (n - n / 2) c else List.replicate n c ++ (h ++ b)
theorem padT_0 {way c : Nat} {h b : List Nat} : padT way 0 c h b = h ++ b := by
  unfold padT
  simp only [List.replicate_zero, List.append_nil, Nat.zero_div, Nat.sub_zero, List.nil_append]
  split
  · rfl
  · split
    · rfl
    · split <;> rfl
theorem padT_l {way n c : Nat} {h b : List Nat} : (padT way n c h b).length = h.length + b.length + n := by
  unfold padT
  split
  · simp only [List.length_append, List.length_replicate]
  · split
    · simp only [List.length_append, List.length_replicate]; omega
    · split
      · simp only [List.length_append, List.length_replicate]; omega
      · simp only [List.length_append, List.length_replicate]; omega
theorem okT_pad {way n c m k : Nat} {h b : List Nat} (hc : c < 128) (h1 : okT m h) (h2 : okT k b) (hl : h.length + b.length + n ≤ 200) : okT 200 (padT way n c h b) := by
  refine ⟨by rw [padT_l]; exact hl, fun x hx => ?_⟩
  have hr : ∀ k, x ∈ List.replicate k c → x < 128 := fun k hk => by rw [(List.mem_replicate.mp hk).2]; exact hc
  unfold padT at hx
  split at hx
  · rcases List.mem_append.mp hx with q | q
    · rcases List.mem_append.mp q with q | q
      · exact h1.2 x q
      · exact h2.2 x q
    · exact hr _ q
  · split at hx
    · rcases List.mem_append.mp hx with q | q
      · rcases List.mem_append.mp q with q | q
        · exact h1.2 x q
        · exact hr _ q
      · exact h2.2 x q
    · split at hx
      · rcases List.mem_append.mp hx with q | q
        · rcases List.mem_append.mp q with q | q
          · exact hr _ q
          · rcases List.mem_append.mp q with q | q
            · exact h1.2 x q
            · exact h2.2 x q
        · exact hr _ q
      · rcases List.mem_append.mp hx with q | q
        · exact hr _ q
        · rcases List.mem_append.mp q with q | q
          · exact h1.2 x q
          · exact h2.2 x q
noncomputable def fmtH (w : List Nat) (v : Vn) : List Nat := hedT v.2.1 (sPl w) (sSh w) (sTy w v.1)
noncomputable def fmtB (w : List Nat) (v : Vn) : List Nat := bodT (sTy w v.1) (sPr w) (sPa w) (sSh w) v.2.2.1 v.2.2.2
noncomputable def fmtV (w : List Nat) (v : Vn) : List Nat := padT (padW (sAl w) (sZe w)) (sWi w - ((fmtH w v).length + (fmtB w v).length : Nat)).toNat (padC (sFi w) (sZe w)) (fmtH w v) (fmtB w v)
/-- format: an exception, or a sheet -/
noncomputable def formatO (w : List Nat) (R : Nat → Vn) (a : Int) : Sum Int (List Nat) := @ite _ ((regV R a).1 ≠ -1 ∧ spG w (regV R a).1) (Classical.propDecidable _) (.inr (fmtV w (regV R a))) (.inl 0)
theorem formatO_n {w : List Nat} {R : Nat → Vn} {a : Int} (h : (regV R a).1 = -1) : formatO w R a = .inl 0 := if_neg (fun q => q.1 h)
theorem formatO_s {w : List Nat} {R : Nat → Vn} {a kd s : Int} {u d : Nat} (hv : regV R a = (kd, s, u, d)) (h : ¬ spG w kd) : formatO w R a = .inl 0 := if_neg (fun q => h (by rw [hv] at q; exact q.2))
theorem formatO_y {w : List Nat} {R : Nat → Vn} {a kd s : Int} {u d : Nat} (hv : regV R a = (kd, s, u, d)) (hk : kd ≠ -1) (h : spG w kd) : formatO w R a = .inr (fmtV w (kd, s, u, d)) := by
  unfold formatO
  rw [hv]
  exact if_pos ⟨hk, h⟩
theorem chr_le {w : List Nat} (hc : ∀ c, c ∈ w → 32 ≤ c ∧ c ≤ 126) (k : Nat) : chr w k ≤ 126 := by rcases chr_b hc k with h | h <;> omega
theorem sFi_b {w : List Nat} (hc : ∀ c, c ∈ w → 32 ≤ c ∧ c ≤ 126) : sFi w ≤ 126 := by
  have := chr_le hc 0
  by_cases h : isAl (chr w 1 : Int)
  · rw [(s1_a h).2.1]; exact this
  · by_cases h2 : isAl (chr w 0 : Int)
    · rw [(s1_b h h2).2.1]; omega
    · rw [(s1_c h h2).2.1]; omega
theorem sAl_b {w : List Nat} : sAl w = 0 ∨ sAl w = 60 ∨ sAl w = 61 ∨ sAl w = 62 ∨ sAl w = 94 := by
  by_cases h : isAl (chr w 1 : Int)
  · rw [(s1_a h).2.2]; unfold isAl at h; omega
  · by_cases h2 : isAl (chr w 0 : Int)
    · rw [(s1_b h h2).2.2]; unfold isAl at h2; omega
    · rw [(s1_c h h2).2.2]; omega
theorem sPl_b {w : List Nat} : sPl w = 0 ∨ sPl w = 43 ∨ sPl w = 45 ∨ sPl w = 32 := by unfold sPl; split <;> omega
theorem sPa_b {w : List Nat} : sPa w = 0 ∨ sPa w = 44 ∨ sPa w = 95 := by unfold sPa; split <;> omega
theorem sSh_b {w : List Nat} : sSh w = 0 ∨ sSh w = 1 := by unfold sSh; split; exact Or.inr rfl; exact Or.inl rfl
theorem sZe_b {w : List Nat} : sZe w = 0 ∨ sZe w = 1 := by unfold sZe; split; exact Or.inr rfl; exact Or.inl rfl
theorem sWi_b {w : List Nat} : -1 ≤ sWi w ∧ sWi w < 100 := by unfold sWi; split; decide; exact two2_b
theorem sPr_b {w : List Nat} : -1 ≤ sPr w ∧ sPr w < 100 := by unfold sPr; split; exact two2_b; decide
theorem sTy_l {w : List Nat} {kd : Int} : sTy w kd ≤ 120 := by have := sTy_b (w := w) (kd := kd); unfold tyB at this; omega
theorem spG_i {w : List Nat} {kd : Int} (h : spG w kd) (ht : sTy w kd = 100 ∨ sTy w kd = 98 ∨ sTy w kd = 120 ∨ sTy w kd = 88) : kd = 0 := (h.2 (by unfold spB; omega)).1

theorem xy_r {U Y x y : Nat} (hy : 0 < y) (hY : 0 < Y) (h : U * y = x * Y) (hx : x < 2 ^ 120 * y) : U < 2 ^ 120 * Y := by
  apply Nat.lt_of_mul_lt_mul_right (a := y)
  rw [h, Nat.mul_right_comm]
  exact Nat.mul_lt_mul_of_pos_right hx hY
theorem xy_b {x y : Nat} {kd : Int} (hy : 0 < y) (hk : 0 ≤ kd ∧ kd ≤ 2) (hb : kd ≠ 2 → x < 2 ^ 120 ∧ y < 2 ^ 120) (hre : kd = 2 → ∃ s s', near s x y = some (2, s', x, y)) : x < 2 ^ 120 * y := by
  by_cases h : kd = 2
  · obtain ⟨s, s', hn⟩ := hre h
    obtain ⟨h1, h2, m, e0, h3, h4, h5, h6, h7⟩ := real_ok hn hy
    have hm : m < 2 ^ 53 := by rcases h4 with ⟨rfl, rfl⟩ | h4; decide; omega
    have he : e0 ≤ 60 := h6
    have hp := sd_pos (show 0 < 1 by decide) e0
    apply Nat.lt_of_mul_lt_mul_right (a := sd 1 e0)
    rw [← h7]
    have h8 : su m e0 < 2 ^ 113 * sd 1 e0 := by
      have h9 : su m e0 < 2 ^ 53 * 2 ^ e0.toNat := Nat.mul_lt_mul_of_pos_right hm (Nat.two_pow_pos _)
      have h10 : (2 : Nat) ^ 53 * 2 ^ e0.toNat ≤ 2 ^ 113 := by rw [← Nat.pow_add]; exact Nat.pow_le_pow_right (by decide) (by omega)
      have h11 : 2 ^ 113 * 1 ≤ 2 ^ 113 * sd 1 e0 := Nat.mul_le_mul_left _ hp
      omega
    have h12 : su m e0 * y < 2 ^ 113 * sd 1 e0 * y := Nat.mul_lt_mul_of_pos_right h8 hy
    have h13 : 2 ^ 113 * sd 1 e0 * y ≤ 2 ^ 120 * y * sd 1 e0 := by
      rw [Nat.mul_right_comm]
      exact Nat.mul_le_mul_right _ (Nat.mul_le_mul_right _ (by decide))
    omega
  · have := (hb h).1
    have : 2 ^ 120 * 1 ≤ 2 ^ 120 * y := Nat.mul_le_mul_left _ hy
    omega
set_option maxRecDepth 100000 in
set_option maxHeartbeats 4000000 in
theorem c_M_format {l : Launch} (hfl : l.flags = flags0) {D : va_G} {g : Nat → ClassId} {ad : Nat → Nat} {N : Nat} {F : Nat → va_E} {R : Nat → Vn} {ln sh : List Nat} {th0 : Int} {a : Int}
    (hN : 109 ≤ N) (hM : mst ad g R ln sh th0 F) (ha : inI a) :
    JC l y_M_format b_M_format 8 (Option.some Jvm.ClassFile.FieldType.int) rm_M_format (0, 0) D jCl (jTys g) ad N F [.ref (ad 98), .int (iI a)] (ji ad N (fun z F' => mshw ad g R [] sh (formatO ln R a) z F' ∧ offM F F')) := by
  obtain ⟨hh, ll, f, v, V, br, kk, bb, rr, lh, xh, dh, tt, hD0, hth⟩ := hM
  have hD := hD0
  obtain ⟨hO, hB, hL, hR, hzz, hKk, hBb, hRr, hmr, h104, h105, h106, h107, hln, hsh⟩ := hD
  have hkI := mR_kI hmr
  refine JC.go hfl (own := "NumberTowerModel") (lv := [(0, .ref (ad 98)), (1, .int (iI a))]) rfl (by decide +kernel) (Nat.le_of_ble_eq_true rfl) rfl (fun A => ?_)
  refine J_aload_n 0 d_M_format_0 rfl rfl ?_
  refine J_iconst d_M_format_1 ?_
  refine pm_M_39 (by omega) hO d_M_format_2 ?_
  refine J_aload_n 0 d_M_format_5 rfl rfl ?_
  refine J_iload_n 1 d_M_format_6 rfl rfl ?_
  refine J_callVi cw_M_176 nh_M_isNumber pn_M_isNumber rfl rfl (by omega) (by rw [va_up_self]) (As := [.int (iI a)]) (rest := []) rfl (Nat.le_of_ble_eq_true rfl) ⟨by decide, by decide⟩ rfl ⟨by decide, by decide⟩ d_M_format_7 (c_M_isNumber hfl (r := a) (f := va_up f 10 0) (v := v) (kk := kk) hN (by rw [va_up_self]) (by rw [va_up_ne _ _ (by decide)]; exact hKk) (by omega) (fun j hj => ⟨by have := hkI j hj; omega, by have := hkI j hj; omega⟩)) (fun za F1 hq => ?_)
  obtain ⟨hza, eF1⟩ := hq
  refine J_eqF eF1 ?_
  refine J_ifeq (tgt := 30) d_M_format_10 (by decide) ⟨by omega, by omega⟩ (fun c10 => ?_) (fun c10 => ?_)
  · refine J_iconst d_M_format_30 ?_
    refine J_istore_n (lv' := [(2, .int (iI 0)), (0, .ref (ad 98)), (1, .int (iI a))]) d_M_format_31 rfl (by decide) rfl ?_
    refine J_aload_n 1 d_M_format_32 rfl rfl ?_
    refine J_iconst d_M_format_33 ?_
    refine pm_M_241 (by omega) (by rw [va_up_self]) d_M_format_34 ?_
    refine J_eqF (F2 := va_up F 98 (oM ad (va_up (va_up f 10 0) 12 0) v)) (up_in0) ?_
    refine J_iload_n 0 d_M_format_37 rfl rfl ?_
    refine J_ifne (tgt := 47) d_M_format_38 (by decide) ⟨by omega, by omega⟩ (fun c38 => ?_) (fun c38 => ?_)
    · exact absurd c38 (by decide)
    · refine J_aload_n 1 d_M_format_41 rfl rfl ?_
      refine J_iconst d_M_format_42 ?_
      refine J_callVi cw_M_135 nh_M_fail pn_M_fail rfl rfl (by omega) (by rw [va_up_self]) (As := [.int (iI 1)]) (rest := []) rfl (Nat.le_of_ble_eq_true rfl) ⟨by decide, by decide⟩ rfl ⟨by decide, by decide⟩ d_M_format_43 (c_M_fail hfl (code := 1) (f := va_up (va_up f 10 0) 12 0) (v := v) hN (by rw [va_up_self])) (fun z1 F2 hq => ?_)
      obtain ⟨hz1, eF2⟩ := hq
      refine J_eqF (F2 := va_up F 98 (oM ad (va_up (va_up f 10 1) 12 0) v)) ((eF2.trans (congrArg (fun qq : Nat → Int => va_up (va_up F 98 (oM ad (va_up (va_up f 10 0) 12 0) v)) 98 (oM ad qq v)) (up_in1 (by decide)))).trans (up_in0)) ?_
      refine J_topi (r := 0) (congrArg iI hz1) ?_
      refine J_eqF (F2 := va_up (va_up F 98 (oM ad (va_up (va_up f 10 1) 12 0) v)) 99 (.inl (g 0, 858, .inl (aI hh)))) (up_same1 (by rw [va_up_ne _ _ (by decide)]; exact hB)) ?_
      refine J_eqF (F2 := va_up (va_up (va_up F 98 (oM ad (va_up (va_up f 10 1) 12 0) v)) 99 (.inl (g 0, 858, .inl (aI hh)))) 100 (.inl (g 0, 33, .inl (aI ll)))) (up_same1 (by rw [va_up_ne _ _ (by decide), va_up_ne _ _ (by decide)]; exact hL)) ?_
      refine J_iret rfl rfl d_M_format_46 ⟨by decide, by decide⟩ ?_
      exact ⟨_, rfl, rfl, rfl, Or.inl ⟨0, formatO_n (regV_no hmr (by omega)), rfl, ⟨hh, ll, (va_up (va_up f 10 1) 12 0), v, V, br, kk, bb, rr, lh, xh, dh, tt, ⟨(by rw [va_up_ne _ _ (by decide), va_up_ne _ _ (by decide), va_up_self]), (by rw [va_up_ne _ _ (by decide), va_up_self]), (by rw [va_up_self]), hR, hzz, (by rw [va_up_ne _ _ (by decide), va_up_ne _ _ (by decide), va_up_ne _ _ (by decide)]; exact hKk), (by rw [va_up_ne _ _ (by decide), va_up_ne _ _ (by decide), va_up_ne _ _ (by decide)]; exact hBb), (by rw [va_up_ne _ _ (by decide), va_up_ne _ _ (by decide), va_up_ne _ _ (by decide)]; exact hRr), mR_fr hmr (fun k hk => (show (V) k = V k from by rfl)), (by rw [va_up_ne _ _ (by decide), va_up_ne _ _ (by decide), va_up_ne _ _ (by decide)]; exact h104), (by rw [va_up_ne _ _ (by decide), va_up_ne _ _ (by decide), va_up_ne _ _ (by decide)]; exact h105), (by rw [va_up_ne _ _ (by decide), va_up_ne _ _ (by decide), va_up_ne _ _ (by decide)]; exact h106), (by rw [va_up_ne _ _ (by decide), va_up_ne _ _ (by decide), va_up_ne _ _ (by decide)]; exact h107), ⟨fun j hj => absurd hj (Nat.not_lt_zero _), (va_up_self ..), Nat.zero_le _, fun c hc => absurd hc (List.not_mem_nil)⟩, ⟨hsh.1, ((va_up_ne _ _ (by decide)).trans (va_up_ne _ _ (by decide))).trans hsh.2.1, hsh.2.2⟩⟩, ((va_up_ne _ _ (by decide)).trans (va_up_self ..))⟩⟩, (offM_t (offM_t (offM_t (offM_r _) (offM_u (by omega))) (offM_u (by omega))) (offM_u (by omega)))⟩
  · have hkI9 := hkI a.toNat (by omega)
    obtain ⟨kd, sg, x, y, hRa, hok, hka, hkn, hmg⟩ := mR_at hmr (r := a.toNat) (by omega) (by omega)
    obtain ⟨hk1, hd0, hs1, hfin, hcop, hk0, hb, hs0, hb2, hre⟩ := okv_b hok hkn
    have hrV : regV R a = (kd, sg, x, y) := (regV_in (by omega)).trans hRa
    have hml := hln.1
    have hl40 := hln.2.2.1
    have hch := hln.2.2.2
    refine J_aload_n 0 d_M_format_13 rfl rfl ?_
    refine J_aload_n 0 d_M_format_14 rfl rfl ?_
    refine gf_M_16 (by omega) (by rw [va_up_self]) rfl d_M_format_15 ?_
    refine J_iload_n 1 d_M_format_18 rfl rfl ?_
    refine J_iaload 0 rfl (by omega) (by rw [va_up_ne _ _ (by decide)]; exact hKk) (by omega) d_M_format_19 ?_
    refine J_topi (r := kd) (congrArg iI (by omega)) ?_
    refine J_callVi cw_M_366 nh_M_spec pn_M_spec rfl rfl (by omega) (by rw [va_up_self]) (As := [.int (iI kd)]) (rest := []) rfl (Nat.le_of_ble_eq_true rfl) ⟨by decide, by decide⟩ rfl ⟨by decide, by decide⟩ d_M_format_20 (c_M_spec hfl (f := va_up f 10 0) (v := v) (lh := lh) (ln := ln) (kd := kd) hN (by rw [va_up_self]) (by rw [va_up_ne _ _ (by decide)]; exact h104) hml ((va_up_ne _ _ (by decide)).trans hln.2.1) hl40 hch hk1) (fun zs F3 hq => ?_)
    obtain ⟨hzs, f2, hf2, ⟨hg21, hg22, hg23, hg24, hg25, hg26, hg27, hg28, hg29⟩, eF3⟩ := hq
    refine J_eqF (F2 := va_up F 98 (oM ad f2 v)) (eF3.trans (up_in0)) ?_
    have hzs1 : zs = 0 ∨ zs = 1 := by rcases hzs with w | w; exact Or.inr w.1; exact Or.inl w.1
    replace hzs : hold _ := hzs
    refine J_ifeq (tgt := 30) d_M_format_23 (by decide) ⟨by omega, by omega⟩ (fun c23 => ?_) (fun c23 => ?_)
    · refine J_iconst d_M_format_30 ?_
      refine J_istore_n (lv' := [(2, .int (iI 0)), (0, .ref (ad 98)), (1, .int (iI a))]) d_M_format_31 rfl (by decide) rfl ?_
      refine J_aload_n 1 d_M_format_32 rfl rfl ?_
      refine J_iconst d_M_format_33 ?_
      refine pm_M_241 (by omega) (by rw [va_up_self]) d_M_format_34 ?_
      refine J_eqF (F2 := va_up F 98 (oM ad (va_up f2 12 0) v)) (up_in0) ?_
      refine J_iload_n 0 d_M_format_37 rfl rfl ?_
      refine J_ifne (tgt := 47) d_M_format_38 (by decide) ⟨by omega, by omega⟩ (fun c38 => ?_) (fun c38 => ?_)
      · exact absurd c38 (by decide)
      · refine J_aload_n 1 d_M_format_41 rfl rfl ?_
        refine J_iconst d_M_format_42 ?_
        refine J_callVi cw_M_135 nh_M_fail pn_M_fail rfl rfl (by omega) (by rw [va_up_self]) (As := [.int (iI 1)]) (rest := []) rfl (Nat.le_of_ble_eq_true rfl) ⟨by decide, by decide⟩ rfl ⟨by decide, by decide⟩ d_M_format_43 (c_M_fail hfl (code := 1) (f := va_up f2 12 0) (v := v) hN (by rw [va_up_self])) (fun z2 F4 hq => ?_)
        obtain ⟨hz2, eF4⟩ := hq
        refine J_eqF (F2 := va_up F 98 (oM ad (va_up (va_up f2 12 0) 10 1) v)) (eF4.trans (up_in0)) ?_
        refine J_topi (r := 0) (congrArg iI hz2) ?_
        refine J_eqF (F2 := va_up (va_up F 98 (oM ad (va_up (va_up f2 12 0) 10 1) v)) 99 (.inl (g 0, 858, .inl (aI hh)))) (up_same1 (by rw [va_up_ne _ _ (by decide)]; exact hB)) ?_
        refine J_eqF (F2 := va_up (va_up (va_up F 98 (oM ad (va_up (va_up f2 12 0) 10 1) v)) 99 (.inl (g 0, 858, .inl (aI hh)))) 100 (.inl (g 0, 33, .inl (aI ll)))) (up_same1 (by rw [va_up_ne _ _ (by decide), va_up_ne _ _ (by decide)]; exact hL)) ?_
        refine J_iret rfl rfl d_M_format_46 ⟨by decide, by decide⟩ ?_
        exact ⟨_, rfl, rfl, rfl, Or.inl ⟨0, formatO_s hrV (by rcases (show (zs = 1 ∧ spG ln kd) ∨ (zs = 0 ∧ ¬ spG ln kd) from hzs) with w | w; omega; exact w.2), rfl, ⟨hh, ll, (va_up (va_up f2 12 0) 10 1), v, V, br, kk, bb, rr, lh, xh, dh, tt, ⟨(by rw [va_up_ne _ _ (by decide), va_up_ne _ _ (by decide), va_up_self]), (by rw [va_up_ne _ _ (by decide), va_up_self]), (by rw [va_up_self]), hR, hzz, (by rw [va_up_ne _ _ (by decide), va_up_ne _ _ (by decide), va_up_ne _ _ (by decide)]; exact hKk), (by rw [va_up_ne _ _ (by decide), va_up_ne _ _ (by decide), va_up_ne _ _ (by decide)]; exact hBb), (by rw [va_up_ne _ _ (by decide), va_up_ne _ _ (by decide), va_up_ne _ _ (by decide)]; exact hRr), mR_fr hmr (fun k hk => (show (V) k = V k from by rfl)), (by rw [va_up_ne _ _ (by decide), va_up_ne _ _ (by decide), va_up_ne _ _ (by decide)]; exact h104), (by rw [va_up_ne _ _ (by decide), va_up_ne _ _ (by decide), va_up_ne _ _ (by decide)]; exact h105), (by rw [va_up_ne _ _ (by decide), va_up_ne _ _ (by decide), va_up_ne _ _ (by decide)]; exact h106), (by rw [va_up_ne _ _ (by decide), va_up_ne _ _ (by decide), va_up_ne _ _ (by decide)]; exact h107), ⟨fun j hj => absurd hj (Nat.not_lt_zero _), ((va_up_ne _ _ (by decide)).trans (va_up_self ..)), Nat.zero_le _, fun c hc => absurd hc (List.not_mem_nil)⟩, ⟨hsh.1, ((va_up_ne _ _ (by decide)).trans ((va_up_ne _ _ (by decide)).trans (((hf2 14 (by decide))).trans (va_up_ne _ _ (by decide))))).trans hsh.2.1, hsh.2.2⟩⟩, (va_up_self ..)⟩⟩, (offM_t (offM_t (offM_t (offM_r _) (offM_u (by omega))) (offM_u (by omega))) (offM_u (by omega)))⟩
    · refine J_iconst d_M_format_26 ?_
      refine J_goto (tgt := 31) d_M_format_27 (by decide) ?_
      refine J_istore_n (lv' := [(2, .int (iI 1)), (0, .ref (ad 98)), (1, .int (iI a))]) d_M_format_31 rfl (by decide) rfl ?_
      refine J_aload_n 1 d_M_format_32 rfl rfl ?_
      refine J_iconst d_M_format_33 ?_
      refine pm_M_241 (by omega) (by rw [va_up_self]) d_M_format_34 ?_
      refine J_eqF (F2 := va_up F 98 (oM ad (va_up f2 12 0) v)) (up_in0) ?_
      refine J_iload_n 0 d_M_format_37 rfl rfl ?_
      refine J_ifne (tgt := 47) d_M_format_38 (by decide) ⟨by omega, by omega⟩ (fun c38 => ?_) (fun c38 => ?_)
      · have hsG : spG ln kd := by rcases (show (zs = 1 ∧ spG ln kd) ∨ (zs = 0 ∧ ¬ spG ln kd) from hzs) with w | w; exact w.2; omega
        obtain ⟨⟨hG1, hG2, hG3, hG4⟩, hG5⟩ := id hsG
        have hPl := sPl_b (w := ln)
        have hPa := sPa_b (w := ln)
        have hSh := sSh_b (w := ln)
        have hZe := sZe_b (w := ln)
        have hWi := sWi_b (w := ln)
        have hPr := sPr_b (w := ln)
        have hTy := sTy_l (w := ln) (kd := kd)
        have hTB := sTy_b (w := ln) (kd := kd)
        have hFi := sFi_b hch
        have hAl := sAl_b (w := ln)
        have hAl9 : sAl ln ≤ 94 := by omega
        replace hG5 : hold _ := hG5
        replace hG4 : hold _ := hG4
        replace hk0 : hold _ := hk0
        replace hs0 : hold _ := hs0
        replace hb2 : hold _ := hb2
        replace hre0 : hold _ := hre
        replace hAl : hold _ := hAl
        replace hTB : hold _ := hTB
        replace hPl : hold _ := hPl
        replace hPa : hold _ := hPa
        clear hG1 hzs hzs1
        refine J_aload_n 1 d_M_format_47 rfl rfl ?_
        refine J_iload_n 2 d_M_format_48 rfl rfl ?_
        refine J_topi (r := ((a.toNat : Nat) : Int)) (congrArg iI (by omega)) ?_
        refine J_bipush d_M_format_49 (i8_ok (by decide)) ?_
        refine J_bipush d_M_format_51 (i8_ok (by decide)) ?_
        refine J_callVi cw_M_182 nh_M_fetch pn_M_fetch rfl rfl (by omega) (by rw [va_up_self]) (As := [.int (iI ((a.toNat : Nat) : Int)), .int (iI 31), .int (iI 28)]) (rest := []) rfl (Nat.le_of_ble_eq_true rfl) ⟨by decide, by decide⟩ rfl ⟨by decide, by decide⟩ d_M_format_53 (c_M_fetch hfl (r := a.toNat) (u := 31) (d := 28) (x := x) (y := y) (kd := kd) (sg := sg) (kk := kk) (bb := bb) (rr := rr) (hh := hh) (ll := ll) (f := va_up f2 12 0) (v := v) (V := V) (br := br) hN (by rw [va_up_self]) (by rw [va_up_ne _ _ (by decide)]; exact hB) (by rw [va_up_ne _ _ (by decide)]; exact hL) hR hzz (by rw [va_up_ne _ _ (by decide)]; exact hKk) (by rw [va_up_ne _ _ (by decide)]; exact hBb) (by rw [va_up_ne _ _ (by decide)]; exact hRr) (by omega) ⟨by omega, by omega⟩ ⟨by omega, by omega⟩ (hzz.2 31 (by decide) (by decide)) (hzz.2 28 (by decide) (by decide)) (by omega) (mreg_fr hmg (by omega) (fun k hk => (show (V) k = V k from by rfl))) hd0 hk1 hb hre) (fun mi F5 hq => ?_)
        obtain ⟨hmi, bh3, bl4, U, Y, hUY, hU9, hR5, eF5⟩ := hq
        refine J_eqF (F2 := va_up (va_up (va_up F 98 (oM ad (va_up f2 12 0) v)) 99 (.inl (g 0, 858, .inl (aI bh3)))) 100 (.inl (g 0, 33, .inl (aI bl4)))) eF5 ?_
        obtain ⟨hU9, hU7⟩ := hU9
        have hU8 : powY kd Y := hU7
        clear hU7
        have hmi1 : (mi = 1 ∧ sg < 0) ∨ (mi = 0 ∧ 0 ≤ sg) := by rw [hmi]; split <;> omega
        refine J_istore_n (lv' := [(3, .int (iI mi)), (2, .int (iI 1)), (0, .ref (ad 98)), (1, .int (iI a))]) d_M_format_56 rfl (by decide) rfl ?_
        refine J_aload_n 2 d_M_format_57 rfl rfl ?_
        refine J_iconst d_M_format_58 ?_
        refine pm_M_265 (by omega) (by rw [va_up_ne _ _ (by decide), va_up_ne _ _ (by decide), va_up_self]) d_M_format_59 ?_
        refine J_eqF (F2 := va_up (va_up (va_up F 98 (oM ad (va_up (va_up f2 12 0) 18 0) v)) 99 (.inl (g 0, 858, .inl (aI bh3)))) 100 (.inl (g 0, 33, .inl (aI bl4)))) (up_in2 (by decide) (by decide)) ?_
        have lab101 : ∀ (w : List Nat) (t2 : Nat → Int) (hw : w = (if sg < 0 then [45] else if sPl ln = 43 ∨ sPl ln = 32 then [sPl ln] else [])) (hwT : okT 1 w) (hm2 : mtx t2 w) , J l rm_M_format (0, 0) "NumberTowerModel" b_M_format 8 (Option.some Jvm.ClassFile.FieldType.int) D jCl (jTys g) A (fun _ me => me.name = y_M_format.name) (ji ad N (fun z F' => mshw ad g R [] sh (formatO ln R a) z F' ∧ offM F F')) ad N 0 0 101 [(0, .ref (ad 98)), (1, .int (iI a)), (2, .int (iI 1)), (3, .int (iI mi))] [] (va_up (va_up (va_up (va_up F 98 (oM ad (va_up (va_up f2 12 0) 18 ((w.length : Nat) : Int)) v)) 99 (.inl (g 0, 858, .inl (aI bh3)))) 100 (.inl (g 0, 33, .inl (aI bl4)))) 107 (.inl (g 0, 260, .inl (aI t2)))) := by
          intro w t2 hw hwT hm2
          have hwl := hwT.1
          have lab149 : ∀ (w1 : List Nat) (t3 : Nat → Int) (hw1 : w1 = w ++ (if sSh ln ≠ 0 ∧ (sTy ln kd = 98 ∨ sTy ln kd = 120 ∨ sTy ln kd = 88) then [48, sTy ln kd] else [])) (hw1T : okT 3 w1) (hm3 : mtx t3 w1) , J l rm_M_format (0, 0) "NumberTowerModel" b_M_format 8 (Option.some Jvm.ClassFile.FieldType.int) D jCl (jTys g) A (fun _ me => me.name = y_M_format.name) (ji ad N (fun z F' => mshw ad g R [] sh (formatO ln R a) z F' ∧ offM F F')) ad N 0 0 149 [(0, .ref (ad 98)), (1, .int (iI a)), (2, .int (iI 1)), (3, .int (iI mi))] [] (va_up (va_up (va_up (va_up F 98 (oM ad (va_up (va_up f2 12 0) 18 ((w1.length : Nat) : Int)) v)) 99 (.inl (g 0, 858, .inl (aI bh3)))) 100 (.inl (g 0, 33, .inl (aI bl4)))) 107 (.inl (g 0, 260, .inl (aI t3)))) := by
            intro w1 t3 hw1 hw1T hm3
            have hw1l := hw1T.1
            refine J_aload_n 0 d_M_format_149 rfl rfl ?_
            refine gf_M_265 (by omega) (by rw [va_up_ne _ _ (by decide), va_up_ne _ _ (by decide), va_up_ne _ _ (by decide), va_up_self]) rfl d_M_format_150 ?_
            refine J_topi (r := ((w1.length : Nat) : Int)) (congrArg iI (va_up_self ..)) ?_
            refine J_istore (lv' := [(4, .int (iI ((w1.length : Nat) : Int))), (0, .ref (ad 98)), (1, .int (iI a)), (2, .int (iI 1)), (3, .int (iI mi))]) d_M_format_153 (by decide) rfl ?_
            refine J_aload_n 1 d_M_format_155 rfl rfl ?_
            have hxy9 : x < 2 ^ 120 * y := xy_b hd0 hk1 (show kd ≠ 2 → _ from hb2) (hre0)
            have hUXY : U < 2 ^ 120 * Y := xy_r hd0 hUY.1 hUY.2.1 hxy9
            have hI9 : (sTy ln kd = 100 ∨ sTy ln kd = 98 ∨ sTy ln kd = 120 ∨ sTy ln kd = 88) → U = x ∧ x < 2 ^ 120 := fun w => by
              have k0 := spG_i hsG w
              have k2 : kd ≠ 2 := by omega
              exact ⟨((show (kd ≠ 2 → U = x ∧ Y = y) from hU9) k2).1, ((show kd ≠ 2 → x < 2 ^ 120 ∧ y < 2 ^ 120 from hb2) k2).1⟩
            have hokb : okT 160 (bodT (sTy ln kd) (sPr ln) (sPa ln) (sSh ln) x y) := okT_bod hd0 hxy9 (Nat.lt_trans hb.1 (by decide)) (Nat.lt_trans hb.2 (by decide)) hG3 (by rcases (show _ ∨ _ ∨ _ from hPa) with w | w | w <;> omega) (by omega) (fun w => (hI9 w).2)
            refine J_callVv cw_M_369 nh_M_body pn_M_body rfl rfl (by omega) (by rw [va_up_ne _ _ (by decide), va_up_ne _ _ (by decide), va_up_ne _ _ (by decide), va_up_self]) (As := []) (rest := []) rfl (Nat.le_of_ble_eq_true rfl) ⟨by decide, by decide⟩ rfl ⟨by decide, by decide⟩ d_M_format_156 (c_M_body hfl (dh := dh) (tt := t3) (w := w1) (hh := bh3) (ll := bl4) (f := va_up (va_up f2 12 0) 18 ((w1.length : Nat) : Int)) (v := v) (V := va_up (va_up V 28 Y) 31 U) (br := br) (x := U) (y := Y) (u := x) (d := y) (pa := sPa ln) (ty := sTy ln kd) (sh := sSh ln) (pr := sPr ln) hN (by rw [va_up_ne _ _ (by decide), va_up_ne _ _ (by decide), va_up_ne _ _ (by decide), va_up_self]) (by rw [va_up_ne _ _ (by decide), va_up_ne _ _ (by decide), va_up_self]) (by rw [va_up_ne _ _ (by decide), va_up_self]) hR5 hzz (by rw [va_up_ne _ _ (by decide), va_up_ne _ _ (by decide), va_up_ne _ _ (by decide), va_up_ne _ _ (by decide)]; exact h106) (by rw [va_up_self]) hm3 (va_up_self ..) (va_up_self ..) ((va_up_ne _ _ (by decide)).trans (va_up_self ..)) hUY.2.2.1 hUY.2.2.2 hUY.1 hd0 hUY.2.1 hUXY hI9 ((va_up_ne _ _ (by decide)).trans ((va_up_ne _ _ (by decide)).trans hg28)) ⟨hPr.1, hG3⟩ ((va_up_ne _ _ (by decide)).trans ((va_up_ne _ _ (by decide)).trans hg29)) (by omega) hTB ((va_up_ne _ _ (by decide)).trans ((va_up_ne _ _ (by decide)).trans hg27)) (by rcases (show _ ∨ _ ∨ _ from hPa) with w | w | w <;> omega) (by rcases (show _ ∨ _ ∨ _ from hPa) with w | w | w <;> omega) ((va_up_ne _ _ (by decide)).trans ((va_up_ne _ _ (by decide)).trans hg24)) hSh (by omega)) (fun  F6 hq => ?_)
            obtain ⟨bh6, bl7, f11, dh8, tt10, W9, hR12, hW13, hf14, hf1815, hmt16, eF6⟩ := hq
            refine J_eqF (F2 := va_up (va_up (va_up (va_up (va_up F 98 (oM ad f11 v)) 99 (.inl (g 0, 858, .inl (aI bh6)))) 100 (.inl (g 0, 33, .inl (aI bl7)))) 107 (.inl (g 0, 260, .inl (aI tt10)))) 106 (.inl (g 0, 200, .inl (aI dh8)))) (eF6.trans (Eq.trans (Eq.trans (Eq.trans (congrArg (fun qF : Nat → va_E => va_up qF 107 (.inl (g 0, 260, .inl (aI tt10)))) (congrArg (fun qF : Nat → va_E => va_up qF 106 (.inl (g 0, 200, .inl (aI dh8)))) (congrArg (fun qF : Nat → va_E => va_up qF 100 (.inl (g 0, 33, .inl (aI bl7)))) (congrArg (fun qF : Nat → va_E => va_up qF 99 (.inl (g 0, 858, .inl (aI bh6)))) (up_in3 (by decide) (by decide) (by decide)))))) (congrArg (fun qF : Nat → va_E => va_up qF 107 (.inl (g 0, 260, .inl (aI tt10)))) (congrArg (fun qF : Nat → va_E => va_up qF 106 (.inl (g 0, 200, .inl (aI dh8)))) (congrArg (fun qF : Nat → va_E => va_up qF 100 (.inl (g 0, 33, .inl (aI bl7)))) (up_in2 (by decide) (by decide)))))) (congrArg (fun qF : Nat → va_E => va_up qF 107 (.inl (g 0, 260, .inl (aI tt10)))) (congrArg (fun qF : Nat → va_E => va_up qF 106 (.inl (g 0, 200, .inl (aI dh8)))) (up_in1 (by decide))))) (up_in1 (by decide)))) ?_
            obtain ⟨bd, hbd⟩ : ∃ b, b = bodT (sTy ln kd) (sPr ln) (sPa ln) (sSh ln) x y := ⟨_, rfl⟩
            have hH : fmtH ln (kd, sg, x, y) = w1 := by unfold fmtH hedT; rw [hw1, hw]
            have hB : fmtB ln (kd, sg, x, y) = bd := hbd.symm
            rw [← hbd] at hokb
            have hokl := hokb.1
            have hlen : (w1 ++ bd).length = w1.length + bd.length := List.length_append
            obtain ⟨mo, hmo⟩ : ∃ z : Int, z = sWi ln - ((w1 ++ bd).length : Int) := ⟨_, rfl⟩
            refine J_eqF (F2 := va_up (va_up (va_up (va_up (va_up F 98 (oM ad (va_up f11 18 (((w1 ++ bodT (sTy ln kd) (sPr ln) (sPa ln) (sSh ln) x y).length : Nat) : Int)) v)) 99 (.inl (g 0, 858, .inl (aI bh6)))) 100 (.inl (g 0, 33, .inl (aI bl7)))) 107 (.inl (g 0, 260, .inl (aI tt10)))) 106 (.inl (g 0, 200, .inl (aI dh8)))) (congrArg (fun qq : Nat → Int => va_up (va_up (va_up (va_up (va_up F 98 (oM ad qq v)) 99 (.inl (g 0, 858, .inl (aI bh6)))) 100 (.inl (g 0, 33, .inl (aI bl7)))) 107 (.inl (g 0, 260, .inl (aI tt10)))) 106 (.inl (g 0, 200, .inl (aI dh8)))) (up_same1 (i := 18) (a := (((w1 ++ bodT (sTy ln kd) (sPr ln) (sPa ln) (sSh ln) x y).length : Nat) : Int)) (hf1815))) ?_
            have ehmt17 : (w1 ++ bodT (sTy ln kd) (sPr ln) (sPa ln) (sSh ln) x y) = w1 ++ bd := (by rw [hbd])
            have hmt17 : mtx tt10 (w1 ++ bd) := ehmt17 ▸ hmt16
            refine J_eqF (F2 := va_up (va_up (va_up (va_up (va_up F 98 (oM ad (va_up f11 18 ((w1 ++ bd).length : Int)) v)) 99 (.inl (g 0, 858, .inl (aI bh6)))) 100 (.inl (g 0, 33, .inl (aI bl7)))) 107 (.inl (g 0, 260, .inl (aI tt10)))) 106 (.inl (g 0, 200, .inl (aI dh8)))) (congrArg (fun qq : Int => va_up (va_up (va_up (va_up (va_up F 98 (oM ad (va_up f11 18 qq) v)) 99 (.inl (g 0, 858, .inl (aI bh6)))) 100 (.inl (g 0, 33, .inl (aI bl7)))) 107 (.inl (g 0, 260, .inl (aI tt10)))) 106 (.inl (g 0, 200, .inl (aI dh8)))) (show (((w1 ++ bodT (sTy ln kd) (sPr ln) (sPa ln) (sSh ln) x y).length : Nat) : Int) = ((w1 ++ bd).length : Int) from congrArg (fun qq : List Nat => ((qq.length : Nat) : Int)) ehmt17)) ?_
            refine J_aload_n 1 d_M_format_159 rfl rfl ?_
            refine gf_M_336 (by omega) (by rw [va_up_ne _ _ (by decide), va_up_ne _ _ (by decide), va_up_ne _ _ (by decide), va_up_ne _ _ (by decide), va_up_self]) rfl d_M_format_160 ?_
            refine J_topi (r := (sWi ln)) (congrArg iI ((va_up_ne _ _ (by decide)).trans (((hf14 26 (by decide) (by decide))).trans ((va_up_ne _ _ (by decide)).trans ((va_up_ne _ _ (by decide)).trans hg26))))) ?_
            refine J_aload_n 1 d_M_format_163 rfl rfl ?_
            refine gf_M_265 (by omega) (by rw [va_up_ne _ _ (by decide), va_up_ne _ _ (by decide), va_up_ne _ _ (by decide), va_up_ne _ _ (by decide), va_up_self]) rfl d_M_format_164 ?_
            refine J_topi (r := ((w1 ++ bd).length : Int)) (congrArg iI (va_up_self ..)) ?_
            refine J_isub d_M_format_167 ?_
            refine J_topi (r := mo) (congrArg iI hmo.symm) ?_
            refine J_istore (lv' := [(5, .int (iI mo)), (4, .int (iI ((w1.length : Nat) : Int))), (0, .ref (ad 98)), (1, .int (iI a)), (2, .int (iI 1)), (3, .int (iI mi))]) d_M_format_168 (by decide) rfl ?_
            have lab198 : ∀ (c : Nat) (hc : c = padC (sFi ln) (sZe ln)) (hcb : c < 128) , J l rm_M_format (0, 0) "NumberTowerModel" b_M_format 8 (Option.some Jvm.ClassFile.FieldType.int) D jCl (jTys g) A (fun _ me => me.name = y_M_format.name) (ji ad N (fun z F' => mshw ad g R [] sh (formatO ln R a) z F' ∧ offM F F')) ad N 0 0 198 [(0, .ref (ad 98)), (1, .int (iI a)), (2, .int (iI 1)), (3, .int (iI mi)), (4, .int (iI ((w1.length : Nat) : Int))), (5, .int (iI mo))] [.int (iI (c : Int))] (va_up (va_up (va_up (va_up (va_up F 98 (oM ad (va_up f11 18 ((w1 ++ bd).length : Int)) v)) 99 (.inl (g 0, 858, .inl (aI bh6)))) 100 (.inl (g 0, 33, .inl (aI bl7)))) 107 (.inl (g 0, 260, .inl (aI tt10)))) 106 (.inl (g 0, 200, .inl (aI dh8)))) := by
              intro c hc hcb
              refine J_istore (lv' := [(6, .int (iI (c : Int))), (0, .ref (ad 98)), (1, .int (iI a)), (2, .int (iI 1)), (3, .int (iI mi)), (4, .int (iI ((w1.length : Nat) : Int))), (5, .int (iI mo))]) d_M_format_198 (by decide) rfl ?_
              have lab228 : ∀ (way : Nat) (hway : way = padW (sAl ln) (sZe ln)) (hwy : way ≤ 94) , J l rm_M_format (0, 0) "NumberTowerModel" b_M_format 8 (Option.some Jvm.ClassFile.FieldType.int) D jCl (jTys g) A (fun _ me => me.name = y_M_format.name) (ji ad N (fun z F' => mshw ad g R [] sh (formatO ln R a) z F' ∧ offM F F')) ad N 0 0 228 [(0, .ref (ad 98)), (1, .int (iI a)), (2, .int (iI 1)), (3, .int (iI mi)), (4, .int (iI ((w1.length : Nat) : Int))), (5, .int (iI mo)), (6, .int (iI (c : Int)))] [.int (iI (way : Int))] (va_up (va_up (va_up (va_up (va_up F 98 (oM ad (va_up f11 18 ((w1 ++ bd).length : Int)) v)) 99 (.inl (g 0, 858, .inl (aI bh6)))) 100 (.inl (g 0, 33, .inl (aI bl7)))) 107 (.inl (g 0, 260, .inl (aI tt10)))) 106 (.inl (g 0, 200, .inl (aI dh8)))) := by
                intro way hway hwy
                refine J_istore (lv' := [(7, .int (iI (way : Int))), (0, .ref (ad 98)), (1, .int (iI a)), (2, .int (iI 1)), (3, .int (iI mi)), (4, .int (iI ((w1.length : Nat) : Int))), (5, .int (iI mo)), (6, .int (iI (c : Int)))]) d_M_format_228 (by decide) rfl ?_
                refine J_iload 6 d_M_format_230 rfl ?_
                refine J_ifle (tgt := 286) d_M_format_232 (by decide) ⟨by omega, by omega⟩ (fun c232 => ?_) (fun c232 => ?_)
                · have hfv : fmtV ln (kd, sg, x, y) = w1 ++ bd := by unfold fmtV; rw [hH, hB, show padW (sAl ln) (sZe ln) = way from hway.symm, show padC (sFi ln) (sZe ln) = c from hc.symm, show (sWi ln - (w1.length + bd.length : Nat)).toNat = mo.toNat by rw [hmo, hlen]]; rw [show mo.toNat = 0 by omega, padT_0]
                  have hok9 : okT 200 (w1 ++ bd) := okT_le (okT_app hw1T hokb) (by decide)
                  refine J_aload_n 1 d_M_format_286 rfl rfl ?_
                  refine J_callVi cw_M_313 nh_M_shownSize pn_M_shownSize rfl rfl (by omega) (by rw [va_up_ne _ _ (by decide), va_up_ne _ _ (by decide), va_up_ne _ _ (by decide), va_up_ne _ _ (by decide), va_up_self]) (As := []) (rest := []) rfl (Nat.le_of_ble_eq_true rfl) ⟨by decide, by decide⟩ rfl ⟨by decide, by decide⟩ d_M_format_287 (c_M_shownSize hfl (f := va_up f11 18 ((w1 ++ bd).length : Int)) (v := v) (xh := xh) (tt := tt10) (w := (w1 ++ bd)) hN (by rw [va_up_ne _ _ (by decide), va_up_ne _ _ (by decide), va_up_ne _ _ (by decide), va_up_ne _ _ (by decide), va_up_self]) (by rw [va_up_ne _ _ (by decide), va_up_ne _ _ (by decide), va_up_ne _ _ (by decide), va_up_ne _ _ (by decide), va_up_ne _ _ (by decide)]; exact h105) (by rw [va_up_ne _ _ (by decide), va_up_self]) hmt17 (va_up_self ..) (by have := hok9.1; omega)) (fun zz9 F7 hq => ?_)
                  obtain ⟨hzz9, xh18, hmx19, eF7⟩ := hq
                  refine J_eqF (F2 := va_up (va_up (va_up (va_up (va_up (va_up F 98 (oM ad (va_up (va_up f11 18 ((w1 ++ bd).length : Int)) 14 (((w1 ++ bd).length : Nat) : Int)) v)) 99 (.inl (g 0, 858, .inl (aI bh6)))) 100 (.inl (g 0, 33, .inl (aI bl7)))) 107 (.inl (g 0, 260, .inl (aI tt10)))) 106 (.inl (g 0, 200, .inl (aI dh8)))) 105 (.inl (g 0, 260, .inl (aI xh18)))) (eF7.trans (up_in5 (by decide) (by decide) (by decide) (by decide) (by decide))) ?_
                  refine J_topi (r := ((((w1 ++ bd).length : Nat)) : Int)) (congrArg iI hzz9) ?_
                  refine J_iret rfl rfl d_M_format_290 ⟨by decide, by decide⟩ ?_
                  exact ⟨_, rfl, rfl, rfl, Or.inr ⟨_, (formatO_y hrV hkn hsG).trans (congrArg Sum.inr hfv), rfl, hok9, ⟨bh6, bl7, (va_up (va_up f11 18 ((w1 ++ bd).length : Int)) 14 (((w1 ++ bd).length : Nat) : Int)), v, W9, br, kk, bb, rr, lh, xh18, dh8, tt10, ⟨(by rw [va_up_ne _ _ (by decide), va_up_ne _ _ (by decide), va_up_ne _ _ (by decide), va_up_ne _ _ (by decide), va_up_ne _ _ (by decide), va_up_self]), (by rw [va_up_ne _ _ (by decide), va_up_ne _ _ (by decide), va_up_ne _ _ (by decide), va_up_ne _ _ (by decide), va_up_self]), (by rw [va_up_ne _ _ (by decide), va_up_ne _ _ (by decide), va_up_ne _ _ (by decide), va_up_self]), hR12, hzz, (by rw [va_up_ne _ _ (by decide), va_up_ne _ _ (by decide), va_up_ne _ _ (by decide), va_up_ne _ _ (by decide), va_up_ne _ _ (by decide), va_up_ne _ _ (by decide)]; exact hKk), (by rw [va_up_ne _ _ (by decide), va_up_ne _ _ (by decide), va_up_ne _ _ (by decide), va_up_ne _ _ (by decide), va_up_ne _ _ (by decide), va_up_ne _ _ (by decide)]; exact hBb), (by rw [va_up_ne _ _ (by decide), va_up_ne _ _ (by decide), va_up_ne _ _ (by decide), va_up_ne _ _ (by decide), va_up_ne _ _ (by decide), va_up_ne _ _ (by decide)]; exact hRr), mR_fr hmr (fun k hk => ((show (W9) k = W9 k from by rfl).trans ((hW13 k (by omega)).trans (show (va_up (va_up V 28 Y) 31 U) k = V k from by rw [va_up_ne _ _ (by omega), va_up_ne _ _ (by omega)])))), (by rw [va_up_ne _ _ (by decide), va_up_ne _ _ (by decide), va_up_ne _ _ (by decide), va_up_ne _ _ (by decide), va_up_ne _ _ (by decide), va_up_ne _ _ (by decide)]; exact h104), (by rw [va_up_self]), (by rw [va_up_ne _ _ (by decide), va_up_self]), (by rw [va_up_ne _ _ (by decide), va_up_ne _ _ (by decide), va_up_self]), ⟨fun j hj => absurd hj (Nat.not_lt_zero _), ((va_up_ne _ _ (by decide)).trans ((va_up_ne _ _ (by decide)).trans (((hf14 12 (by decide) (by decide))).trans ((va_up_ne _ _ (by decide)).trans (va_up_self ..))))), Nat.zero_le _, fun c hc => absurd hc (List.not_mem_nil)⟩, ⟨hmx19, (va_up_self ..), hok9.1, fun c hc => Nat.lt_trans (hok9.2 c hc) (by decide)⟩⟩, ((va_up_ne _ _ (by decide)).trans ((va_up_ne _ _ (by decide)).trans (((hf14 10 (by decide) (by decide))).trans ((va_up_ne _ _ (by decide)).trans ((va_up_ne _ _ (by decide)).trans (((hf2 10 (by decide))).trans (va_up_self ..)))))))⟩⟩, (offM_t (offM_t (offM_t (offM_t (offM_t (offM_t (offM_r _) (offM_u (by omega))) (offM_u (by omega))) (offM_u (by omega))) (offM_u (by omega))) (offM_u (by omega))) (offM_u (by omega)))⟩
                · refine J_aload_n 1 d_M_format_235 rfl rfl ?_
                  refine J_iload 6 d_M_format_236 rfl ?_
                  refine J_topi (r := ((mo.toNat : Nat) : Int)) (congrArg iI (by omega)) ?_
                  refine J_iload 7 d_M_format_238 rfl ?_
                  refine J_iload 0 d_M_format_240 rfl ?_
                  refine J_bipush d_M_format_242 (i8_ok (by decide)) ?_
                  refine J_if_icmpne (tgt := 254) d_M_format_244 (by decide) ⟨by omega, by omega⟩ ⟨by omega, by omega⟩ (fun c244 => ?_) (fun c244 => ?_)
                  · refine J_iload 0 d_M_format_254 rfl ?_
                    refine J_bipush d_M_format_256 (i8_ok (by decide)) ?_
                    refine J_if_icmpne (tgt := 266) d_M_format_258 (by decide) ⟨by omega, by omega⟩ ⟨by omega, by omega⟩ (fun c258 => ?_) (fun c258 => ?_)
                    · refine J_iconst d_M_format_266 ?_
                      refine J_topi (r := ((([] : List Nat).length : Nat) : Int)) (congrArg iI rfl) ?_
                      refine J_iload 0 d_M_format_267 rfl ?_
                      refine J_bipush d_M_format_269 (i8_ok (by decide)) ?_
                      refine J_if_icmpne (tgt := 281) d_M_format_271 (by decide) ⟨by omega, by omega⟩ ⟨by omega, by omega⟩ (fun c271 => ?_) (fun c271 => ?_)
                      · refine J_iload 6 d_M_format_281 rfl ?_
                        refine J_topi (r := ((mo.toNat : Nat) : Int)) (congrArg iI (by omega)) ?_
                        refine J_eqF (F2 := va_up (va_up (va_up (va_up (va_up F 98 (oM ad (va_up f11 18 ((w1 ++ bd).length : Int)) v)) 107 (.inl (g 0, 260, .inl (aI tt10)))) 99 (.inl (g 0, 858, .inl (aI bh6)))) 100 (.inl (g 0, 33, .inl (aI bl7)))) 106 (.inl (g 0, 200, .inl (aI dh8)))) (Eq.trans (congrArg (fun qq : Nat → va_E => va_up qq 106 (.inl (g 0, 200, .inl (aI dh8)))) (up_cm (by decide))) (congrArg (fun qq : Nat → va_E => va_up (va_up qq 100 (.inl (g 0, 33, .inl (aI bl7)))) 106 (.inl (g 0, 200, .inl (aI dh8)))) (up_cm (by decide)))) ?_
                        have ehmt20 : (w1 ++ bd) = ([] : List Nat) ++ (w1 ++ bd) := rfl
                        have hmt20 : mtx tt10 (([] : List Nat) ++ (w1 ++ bd)) := ehmt20 ▸ hmt17
                        refine J_eqF (F2 := va_up (va_up (va_up (va_up (va_up F 98 (oM ad (va_up f11 18 ((([] : List Nat) ++ (w1 ++ bd)).length : Int)) v)) 107 (.inl (g 0, 260, .inl (aI tt10)))) 99 (.inl (g 0, 858, .inl (aI bh6)))) 100 (.inl (g 0, 33, .inl (aI bl7)))) 106 (.inl (g 0, 200, .inl (aI dh8)))) (congrArg (fun qq : Int => va_up (va_up (va_up (va_up (va_up F 98 (oM ad (va_up f11 18 qq) v)) 107 (.inl (g 0, 260, .inl (aI tt10)))) 99 (.inl (g 0, 858, .inl (aI bh6)))) 100 (.inl (g 0, 33, .inl (aI bl7)))) 106 (.inl (g 0, 200, .inl (aI dh8)))) (show ((w1 ++ bd).length : Int) = ((([] : List Nat) ++ (w1 ++ bd)).length : Int) from congrArg (fun qq : List Nat => ((qq.length : Nat) : Int)) ehmt20)) ?_
                        refine J_callVv cw_M_372 nh_M_pad pn_M_pad rfl rfl (by omega) (by rw [va_up_ne _ _ (by decide), va_up_ne _ _ (by decide), va_up_ne _ _ (by decide), va_up_ne _ _ (by decide), va_up_self]) (As := [.int (iI ((mo.toNat : Nat) : Int)), .int (iI (c : Int)), .int (iI ((([] : List Nat).length : Nat) : Int)), .int (iI ((mo.toNat : Nat) : Int))]) (rest := []) rfl (Nat.le_of_ble_eq_true rfl) ⟨by decide, by decide⟩ rfl ⟨by decide, by decide⟩ d_M_format_283 (c_M_pad hfl (f := va_up f11 18 ((([] : List Nat) ++ (w1 ++ bd)).length : Int)) (v := v) (tt := tt10) (a := ([] : List Nat)) (b := (w1 ++ bd)) (al := mo.toNat) (c := c) (hn := mo.toNat) hN (by rw [va_up_ne _ _ (by decide), va_up_ne _ _ (by decide), va_up_ne _ _ (by decide), va_up_ne _ _ (by decide), va_up_self]) (by rw [va_up_ne _ _ (by decide), va_up_ne _ _ (by decide), va_up_ne _ _ (by decide), va_up_self]) hmt20 (va_up_self ..) (by omega) (by simp only [List.length_append, List.length_nil]; omega)) (fun  F8 hq => ?_)
                        obtain ⟨tt21, hmt22, eF8⟩ := hq
                        refine J_eqF (F2 := va_up (va_up (va_up (va_up (va_up F 98 (oM ad (va_up f11 18 (((([] : List Nat) ++ List.replicate mo.toNat c ++ (w1 ++ bd) ++ List.replicate (mo.toNat - mo.toNat) c).length : Nat) : Int)) v)) 107 (.inl (g 0, 260, .inl (aI tt21)))) 99 (.inl (g 0, 858, .inl (aI bh6)))) 100 (.inl (g 0, 33, .inl (aI bl7)))) 106 (.inl (g 0, 200, .inl (aI dh8)))) ((eF8.trans (congrArg (fun qq : Nat → Int => va_up (va_up (va_up (va_up (va_up (va_up (va_up F 98 (oM ad (va_up f11 18 ((([] : List Nat) ++ (w1 ++ bd)).length : Int)) v)) 107 (.inl (g 0, 260, .inl (aI tt10)))) 99 (.inl (g 0, 858, .inl (aI bh6)))) 100 (.inl (g 0, 33, .inl (aI bl7)))) 106 (.inl (g 0, 200, .inl (aI dh8)))) 107 (.inl (g 0, 260, .inl (aI tt21)))) 98 (oM ad qq v)) (up_in0))).trans (Eq.trans (congrArg (fun qF : Nat → va_E => va_up qF 98 (oM ad (va_up f11 18 (((([] : List Nat) ++ List.replicate mo.toNat c ++ (w1 ++ bd) ++ List.replicate (mo.toNat - mo.toNat) c).length : Nat) : Int)) v)) (up_in3 (by decide) (by decide) (by decide))) (up_in4 (by decide) (by decide) (by decide) (by decide)))) ?_
                        have hfv : fmtV ln (kd, sg, x, y) = padT way mo.toNat c w1 bd := by unfold fmtV; rw [hH, hB, show padW (sAl ln) (sZe ln) = way from hway.symm, show padC (sFi ln) (sZe ln) = c from hc.symm, show (sWi ln - (w1.length + bd.length : Nat)).toNat = mo.toNat by rw [hmo, hlen]]
                        have hpt : padT way mo.toNat c w1 bd = (([] : List Nat) ++ List.replicate mo.toNat c ++ (w1 ++ bd) ++ List.replicate (mo.toNat - mo.toNat) c) := by unfold padT; rw [if_neg (by omega), if_neg (by omega), if_neg (by omega), Nat.sub_self]; exact (List.append_nil _).symm
                        have hok9 : okT 200 (([] : List Nat) ++ List.replicate mo.toNat c ++ (w1 ++ bd) ++ List.replicate (mo.toNat - mo.toNat) c) := hpt ▸ okT_pad hcb hw1T hokb (by omega)
                        replace hfv : fmtV ln (kd, sg, x, y) = (([] : List Nat) ++ List.replicate mo.toNat c ++ (w1 ++ bd) ++ List.replicate (mo.toNat - mo.toNat) c) := hfv.trans hpt
                        refine J_aload_n 1 d_M_format_286 rfl rfl ?_
                        refine J_callVi cw_M_313 nh_M_shownSize pn_M_shownSize rfl rfl (by omega) (by rw [va_up_ne _ _ (by decide), va_up_ne _ _ (by decide), va_up_ne _ _ (by decide), va_up_ne _ _ (by decide), va_up_self]) (As := []) (rest := []) rfl (Nat.le_of_ble_eq_true rfl) ⟨by decide, by decide⟩ rfl ⟨by decide, by decide⟩ d_M_format_287 (c_M_shownSize hfl (f := va_up f11 18 (((([] : List Nat) ++ List.replicate mo.toNat c ++ (w1 ++ bd) ++ List.replicate (mo.toNat - mo.toNat) c).length : Nat) : Int)) (v := v) (xh := xh) (tt := tt21) (w := (([] : List Nat) ++ List.replicate mo.toNat c ++ (w1 ++ bd) ++ List.replicate (mo.toNat - mo.toNat) c)) hN (by rw [va_up_ne _ _ (by decide), va_up_ne _ _ (by decide), va_up_ne _ _ (by decide), va_up_ne _ _ (by decide), va_up_self]) (by rw [va_up_ne _ _ (by decide), va_up_ne _ _ (by decide), va_up_ne _ _ (by decide), va_up_ne _ _ (by decide), va_up_ne _ _ (by decide)]; exact h105) (by rw [va_up_ne _ _ (by decide), va_up_ne _ _ (by decide), va_up_ne _ _ (by decide), va_up_self]) hmt22 (va_up_self ..) (by have := hok9.1; omega)) (fun zz9 F9 hq => ?_)
                        obtain ⟨hzz9, xh23, hmx24, eF9⟩ := hq
                        refine J_eqF (F2 := va_up (va_up (va_up (va_up (va_up (va_up F 98 (oM ad (va_up (va_up f11 18 (((([] : List Nat) ++ List.replicate mo.toNat c ++ (w1 ++ bd) ++ List.replicate (mo.toNat - mo.toNat) c).length : Nat) : Int)) 14 (((([] : List Nat) ++ List.replicate mo.toNat c ++ (w1 ++ bd) ++ List.replicate (mo.toNat - mo.toNat) c).length : Nat) : Int)) v)) 107 (.inl (g 0, 260, .inl (aI tt21)))) 99 (.inl (g 0, 858, .inl (aI bh6)))) 100 (.inl (g 0, 33, .inl (aI bl7)))) 106 (.inl (g 0, 200, .inl (aI dh8)))) 105 (.inl (g 0, 260, .inl (aI xh23)))) (eF9.trans (up_in5 (by decide) (by decide) (by decide) (by decide) (by decide))) ?_
                        refine J_topi (r := ((((([] : List Nat) ++ List.replicate mo.toNat c ++ (w1 ++ bd) ++ List.replicate (mo.toNat - mo.toNat) c).length : Nat)) : Int)) (congrArg iI hzz9) ?_
                        refine J_eqF (F2 := va_up (va_up (va_up (va_up (va_up (va_up F 98 (oM ad (va_up (va_up f11 18 (((([] : List Nat) ++ List.replicate mo.toNat c ++ (w1 ++ bd) ++ List.replicate (mo.toNat - mo.toNat) c).length : Nat) : Int)) 14 (((([] : List Nat) ++ List.replicate mo.toNat c ++ (w1 ++ bd) ++ List.replicate (mo.toNat - mo.toNat) c).length : Nat) : Int)) v)) 99 (.inl (g 0, 858, .inl (aI bh6)))) 100 (.inl (g 0, 33, .inl (aI bl7)))) 107 (.inl (g 0, 260, .inl (aI tt21)))) 106 (.inl (g 0, 200, .inl (aI dh8)))) 105 (.inl (g 0, 260, .inl (aI xh23)))) (Eq.trans (congrArg (fun qq : Nat → va_E => va_up (va_up (va_up qq 100 (.inl (g 0, 33, .inl (aI bl7)))) 106 (.inl (g 0, 200, .inl (aI dh8)))) 105 (.inl (g 0, 260, .inl (aI xh23)))) (up_cm (by decide))) (congrArg (fun qq : Nat → va_E => va_up (va_up qq 106 (.inl (g 0, 200, .inl (aI dh8)))) 105 (.inl (g 0, 260, .inl (aI xh23)))) (up_cm (by decide)))) ?_
                        refine J_iret rfl rfl d_M_format_290 ⟨by decide, by decide⟩ ?_
                        exact ⟨_, rfl, rfl, rfl, Or.inr ⟨_, (formatO_y hrV hkn hsG).trans (congrArg Sum.inr hfv), rfl, hok9, ⟨bh6, bl7, (va_up (va_up f11 18 (((([] : List Nat) ++ List.replicate mo.toNat c ++ (w1 ++ bd) ++ List.replicate (mo.toNat - mo.toNat) c).length : Nat) : Int)) 14 (((([] : List Nat) ++ List.replicate mo.toNat c ++ (w1 ++ bd) ++ List.replicate (mo.toNat - mo.toNat) c).length : Nat) : Int)), v, W9, br, kk, bb, rr, lh, xh23, dh8, tt21, ⟨(by rw [va_up_ne _ _ (by decide), va_up_ne _ _ (by decide), va_up_ne _ _ (by decide), va_up_ne _ _ (by decide), va_up_ne _ _ (by decide), va_up_self]), (by rw [va_up_ne _ _ (by decide), va_up_ne _ _ (by decide), va_up_ne _ _ (by decide), va_up_ne _ _ (by decide), va_up_self]), (by rw [va_up_ne _ _ (by decide), va_up_ne _ _ (by decide), va_up_ne _ _ (by decide), va_up_self]), hR12, hzz, (by rw [va_up_ne _ _ (by decide), va_up_ne _ _ (by decide), va_up_ne _ _ (by decide), va_up_ne _ _ (by decide), va_up_ne _ _ (by decide), va_up_ne _ _ (by decide)]; exact hKk), (by rw [va_up_ne _ _ (by decide), va_up_ne _ _ (by decide), va_up_ne _ _ (by decide), va_up_ne _ _ (by decide), va_up_ne _ _ (by decide), va_up_ne _ _ (by decide)]; exact hBb), (by rw [va_up_ne _ _ (by decide), va_up_ne _ _ (by decide), va_up_ne _ _ (by decide), va_up_ne _ _ (by decide), va_up_ne _ _ (by decide), va_up_ne _ _ (by decide)]; exact hRr), mR_fr hmr (fun k hk => ((show (W9) k = W9 k from by rfl).trans ((hW13 k (by omega)).trans (show (va_up (va_up V 28 Y) 31 U) k = V k from by rw [va_up_ne _ _ (by omega), va_up_ne _ _ (by omega)])))), (by rw [va_up_ne _ _ (by decide), va_up_ne _ _ (by decide), va_up_ne _ _ (by decide), va_up_ne _ _ (by decide), va_up_ne _ _ (by decide), va_up_ne _ _ (by decide)]; exact h104), (by rw [va_up_self]), (by rw [va_up_ne _ _ (by decide), va_up_self]), (by rw [va_up_ne _ _ (by decide), va_up_ne _ _ (by decide), va_up_self]), ⟨fun j hj => absurd hj (Nat.not_lt_zero _), ((va_up_ne _ _ (by decide)).trans ((va_up_ne _ _ (by decide)).trans (((hf14 12 (by decide) (by decide))).trans ((va_up_ne _ _ (by decide)).trans (va_up_self ..))))), Nat.zero_le _, fun c hc => absurd hc (List.not_mem_nil)⟩, ⟨hmx24, (va_up_self ..), hok9.1, fun c hc => Nat.lt_trans (hok9.2 c hc) (by decide)⟩⟩, ((va_up_ne _ _ (by decide)).trans ((va_up_ne _ _ (by decide)).trans (((hf14 10 (by decide) (by decide))).trans ((va_up_ne _ _ (by decide)).trans ((va_up_ne _ _ (by decide)).trans (((hf2 10 (by decide))).trans (va_up_self ..)))))))⟩⟩, (offM_t (offM_t (offM_t (offM_t (offM_t (offM_t (offM_r _) (offM_u (by omega))) (offM_u (by omega))) (offM_u (by omega))) (offM_u (by omega))) (offM_u (by omega))) (offM_u (by omega)))⟩
                      · refine J_iload 6 d_M_format_274 rfl ?_
                        refine J_iconst d_M_format_276 ?_
                        refine J_idivn d_M_format_277 (by omega) (by omega) ?_
                        refine J_goto (tgt := 283) d_M_format_278 (by decide) ?_
                        refine J_topi (r := ((mo.toNat / 2 : Nat) : Int)) (congrArg iI (by omega)) ?_
                        refine J_eqF (F2 := va_up (va_up (va_up (va_up (va_up F 98 (oM ad (va_up f11 18 ((w1 ++ bd).length : Int)) v)) 107 (.inl (g 0, 260, .inl (aI tt10)))) 99 (.inl (g 0, 858, .inl (aI bh6)))) 100 (.inl (g 0, 33, .inl (aI bl7)))) 106 (.inl (g 0, 200, .inl (aI dh8)))) (Eq.trans (congrArg (fun qq : Nat → va_E => va_up qq 106 (.inl (g 0, 200, .inl (aI dh8)))) (up_cm (by decide))) (congrArg (fun qq : Nat → va_E => va_up (va_up qq 100 (.inl (g 0, 33, .inl (aI bl7)))) 106 (.inl (g 0, 200, .inl (aI dh8)))) (up_cm (by decide)))) ?_
                        have ehmt25 : (w1 ++ bd) = ([] : List Nat) ++ (w1 ++ bd) := rfl
                        have hmt25 : mtx tt10 (([] : List Nat) ++ (w1 ++ bd)) := ehmt25 ▸ hmt17
                        refine J_eqF (F2 := va_up (va_up (va_up (va_up (va_up F 98 (oM ad (va_up f11 18 ((([] : List Nat) ++ (w1 ++ bd)).length : Int)) v)) 107 (.inl (g 0, 260, .inl (aI tt10)))) 99 (.inl (g 0, 858, .inl (aI bh6)))) 100 (.inl (g 0, 33, .inl (aI bl7)))) 106 (.inl (g 0, 200, .inl (aI dh8)))) (congrArg (fun qq : Int => va_up (va_up (va_up (va_up (va_up F 98 (oM ad (va_up f11 18 qq) v)) 107 (.inl (g 0, 260, .inl (aI tt10)))) 99 (.inl (g 0, 858, .inl (aI bh6)))) 100 (.inl (g 0, 33, .inl (aI bl7)))) 106 (.inl (g 0, 200, .inl (aI dh8)))) (show ((w1 ++ bd).length : Int) = ((([] : List Nat) ++ (w1 ++ bd)).length : Int) from congrArg (fun qq : List Nat => ((qq.length : Nat) : Int)) ehmt25)) ?_
                        refine J_callVv cw_M_372 nh_M_pad pn_M_pad rfl rfl (by omega) (by rw [va_up_ne _ _ (by decide), va_up_ne _ _ (by decide), va_up_ne _ _ (by decide), va_up_ne _ _ (by decide), va_up_self]) (As := [.int (iI ((mo.toNat : Nat) : Int)), .int (iI (c : Int)), .int (iI ((([] : List Nat).length : Nat) : Int)), .int (iI ((mo.toNat / 2 : Nat) : Int))]) (rest := []) rfl (Nat.le_of_ble_eq_true rfl) ⟨by decide, by decide⟩ rfl ⟨by decide, by decide⟩ d_M_format_283 (c_M_pad hfl (f := va_up f11 18 ((([] : List Nat) ++ (w1 ++ bd)).length : Int)) (v := v) (tt := tt10) (a := ([] : List Nat)) (b := (w1 ++ bd)) (al := mo.toNat) (c := c) (hn := (mo.toNat / 2)) hN (by rw [va_up_ne _ _ (by decide), va_up_ne _ _ (by decide), va_up_ne _ _ (by decide), va_up_ne _ _ (by decide), va_up_self]) (by rw [va_up_ne _ _ (by decide), va_up_ne _ _ (by decide), va_up_ne _ _ (by decide), va_up_self]) hmt25 (va_up_self ..) (by omega) (by simp only [List.length_append, List.length_nil]; omega)) (fun  F10 hq => ?_)
                        obtain ⟨tt26, hmt27, eF10⟩ := hq
                        refine J_eqF (F2 := va_up (va_up (va_up (va_up (va_up F 98 (oM ad (va_up f11 18 (((([] : List Nat) ++ List.replicate (mo.toNat / 2) c ++ (w1 ++ bd) ++ List.replicate (mo.toNat - (mo.toNat / 2)) c).length : Nat) : Int)) v)) 107 (.inl (g 0, 260, .inl (aI tt26)))) 99 (.inl (g 0, 858, .inl (aI bh6)))) 100 (.inl (g 0, 33, .inl (aI bl7)))) 106 (.inl (g 0, 200, .inl (aI dh8)))) ((eF10.trans (congrArg (fun qq : Nat → Int => va_up (va_up (va_up (va_up (va_up (va_up (va_up F 98 (oM ad (va_up f11 18 ((([] : List Nat) ++ (w1 ++ bd)).length : Int)) v)) 107 (.inl (g 0, 260, .inl (aI tt10)))) 99 (.inl (g 0, 858, .inl (aI bh6)))) 100 (.inl (g 0, 33, .inl (aI bl7)))) 106 (.inl (g 0, 200, .inl (aI dh8)))) 107 (.inl (g 0, 260, .inl (aI tt26)))) 98 (oM ad qq v)) (up_in0))).trans (Eq.trans (congrArg (fun qF : Nat → va_E => va_up qF 98 (oM ad (va_up f11 18 (((([] : List Nat) ++ List.replicate (mo.toNat / 2) c ++ (w1 ++ bd) ++ List.replicate (mo.toNat - (mo.toNat / 2)) c).length : Nat) : Int)) v)) (up_in3 (by decide) (by decide) (by decide))) (up_in4 (by decide) (by decide) (by decide) (by decide)))) ?_
                        have hfv : fmtV ln (kd, sg, x, y) = padT way mo.toNat c w1 bd := by unfold fmtV; rw [hH, hB, show padW (sAl ln) (sZe ln) = way from hway.symm, show padC (sFi ln) (sZe ln) = c from hc.symm, show (sWi ln - (w1.length + bd.length : Nat)).toNat = mo.toNat by rw [hmo, hlen]]
                        have hpt : padT way mo.toNat c w1 bd = (([] : List Nat) ++ List.replicate (mo.toNat / 2) c ++ (w1 ++ bd) ++ List.replicate (mo.toNat - (mo.toNat / 2)) c) := by unfold padT; rw [if_neg (by omega), if_neg (by omega), if_pos (by omega)]; rfl
                        have hok9 : okT 200 (([] : List Nat) ++ List.replicate (mo.toNat / 2) c ++ (w1 ++ bd) ++ List.replicate (mo.toNat - (mo.toNat / 2)) c) := hpt ▸ okT_pad hcb hw1T hokb (by omega)
                        replace hfv : fmtV ln (kd, sg, x, y) = (([] : List Nat) ++ List.replicate (mo.toNat / 2) c ++ (w1 ++ bd) ++ List.replicate (mo.toNat - (mo.toNat / 2)) c) := hfv.trans hpt
                        refine J_aload_n 1 d_M_format_286 rfl rfl ?_
                        refine J_callVi cw_M_313 nh_M_shownSize pn_M_shownSize rfl rfl (by omega) (by rw [va_up_ne _ _ (by decide), va_up_ne _ _ (by decide), va_up_ne _ _ (by decide), va_up_ne _ _ (by decide), va_up_self]) (As := []) (rest := []) rfl (Nat.le_of_ble_eq_true rfl) ⟨by decide, by decide⟩ rfl ⟨by decide, by decide⟩ d_M_format_287 (c_M_shownSize hfl (f := va_up f11 18 (((([] : List Nat) ++ List.replicate (mo.toNat / 2) c ++ (w1 ++ bd) ++ List.replicate (mo.toNat - (mo.toNat / 2)) c).length : Nat) : Int)) (v := v) (xh := xh) (tt := tt26) (w := (([] : List Nat) ++ List.replicate (mo.toNat / 2) c ++ (w1 ++ bd) ++ List.replicate (mo.toNat - (mo.toNat / 2)) c)) hN (by rw [va_up_ne _ _ (by decide), va_up_ne _ _ (by decide), va_up_ne _ _ (by decide), va_up_ne _ _ (by decide), va_up_self]) (by rw [va_up_ne _ _ (by decide), va_up_ne _ _ (by decide), va_up_ne _ _ (by decide), va_up_ne _ _ (by decide), va_up_ne _ _ (by decide)]; exact h105) (by rw [va_up_ne _ _ (by decide), va_up_ne _ _ (by decide), va_up_ne _ _ (by decide), va_up_self]) hmt27 (va_up_self ..) (by have := hok9.1; omega)) (fun zz9 F11 hq => ?_)
                        obtain ⟨hzz9, xh28, hmx29, eF11⟩ := hq
                        refine J_eqF (F2 := va_up (va_up (va_up (va_up (va_up (va_up F 98 (oM ad (va_up (va_up f11 18 (((([] : List Nat) ++ List.replicate (mo.toNat / 2) c ++ (w1 ++ bd) ++ List.replicate (mo.toNat - (mo.toNat / 2)) c).length : Nat) : Int)) 14 (((([] : List Nat) ++ List.replicate (mo.toNat / 2) c ++ (w1 ++ bd) ++ List.replicate (mo.toNat - (mo.toNat / 2)) c).length : Nat) : Int)) v)) 107 (.inl (g 0, 260, .inl (aI tt26)))) 99 (.inl (g 0, 858, .inl (aI bh6)))) 100 (.inl (g 0, 33, .inl (aI bl7)))) 106 (.inl (g 0, 200, .inl (aI dh8)))) 105 (.inl (g 0, 260, .inl (aI xh28)))) (eF11.trans (up_in5 (by decide) (by decide) (by decide) (by decide) (by decide))) ?_
                        refine J_topi (r := ((((([] : List Nat) ++ List.replicate (mo.toNat / 2) c ++ (w1 ++ bd) ++ List.replicate (mo.toNat - (mo.toNat / 2)) c).length : Nat)) : Int)) (congrArg iI hzz9) ?_
                        refine J_eqF (F2 := va_up (va_up (va_up (va_up (va_up (va_up F 98 (oM ad (va_up (va_up f11 18 (((([] : List Nat) ++ List.replicate (mo.toNat / 2) c ++ (w1 ++ bd) ++ List.replicate (mo.toNat - (mo.toNat / 2)) c).length : Nat) : Int)) 14 (((([] : List Nat) ++ List.replicate (mo.toNat / 2) c ++ (w1 ++ bd) ++ List.replicate (mo.toNat - (mo.toNat / 2)) c).length : Nat) : Int)) v)) 99 (.inl (g 0, 858, .inl (aI bh6)))) 100 (.inl (g 0, 33, .inl (aI bl7)))) 107 (.inl (g 0, 260, .inl (aI tt26)))) 106 (.inl (g 0, 200, .inl (aI dh8)))) 105 (.inl (g 0, 260, .inl (aI xh28)))) (Eq.trans (congrArg (fun qq : Nat → va_E => va_up (va_up (va_up qq 100 (.inl (g 0, 33, .inl (aI bl7)))) 106 (.inl (g 0, 200, .inl (aI dh8)))) 105 (.inl (g 0, 260, .inl (aI xh28)))) (up_cm (by decide))) (congrArg (fun qq : Nat → va_E => va_up (va_up qq 106 (.inl (g 0, 200, .inl (aI dh8)))) 105 (.inl (g 0, 260, .inl (aI xh28)))) (up_cm (by decide)))) ?_
                        refine J_iret rfl rfl d_M_format_290 ⟨by decide, by decide⟩ ?_
                        exact ⟨_, rfl, rfl, rfl, Or.inr ⟨_, (formatO_y hrV hkn hsG).trans (congrArg Sum.inr hfv), rfl, hok9, ⟨bh6, bl7, (va_up (va_up f11 18 (((([] : List Nat) ++ List.replicate (mo.toNat / 2) c ++ (w1 ++ bd) ++ List.replicate (mo.toNat - (mo.toNat / 2)) c).length : Nat) : Int)) 14 (((([] : List Nat) ++ List.replicate (mo.toNat / 2) c ++ (w1 ++ bd) ++ List.replicate (mo.toNat - (mo.toNat / 2)) c).length : Nat) : Int)), v, W9, br, kk, bb, rr, lh, xh28, dh8, tt26, ⟨(by rw [va_up_ne _ _ (by decide), va_up_ne _ _ (by decide), va_up_ne _ _ (by decide), va_up_ne _ _ (by decide), va_up_ne _ _ (by decide), va_up_self]), (by rw [va_up_ne _ _ (by decide), va_up_ne _ _ (by decide), va_up_ne _ _ (by decide), va_up_ne _ _ (by decide), va_up_self]), (by rw [va_up_ne _ _ (by decide), va_up_ne _ _ (by decide), va_up_ne _ _ (by decide), va_up_self]), hR12, hzz, (by rw [va_up_ne _ _ (by decide), va_up_ne _ _ (by decide), va_up_ne _ _ (by decide), va_up_ne _ _ (by decide), va_up_ne _ _ (by decide), va_up_ne _ _ (by decide)]; exact hKk), (by rw [va_up_ne _ _ (by decide), va_up_ne _ _ (by decide), va_up_ne _ _ (by decide), va_up_ne _ _ (by decide), va_up_ne _ _ (by decide), va_up_ne _ _ (by decide)]; exact hBb), (by rw [va_up_ne _ _ (by decide), va_up_ne _ _ (by decide), va_up_ne _ _ (by decide), va_up_ne _ _ (by decide), va_up_ne _ _ (by decide), va_up_ne _ _ (by decide)]; exact hRr), mR_fr hmr (fun k hk => ((show (W9) k = W9 k from by rfl).trans ((hW13 k (by omega)).trans (show (va_up (va_up V 28 Y) 31 U) k = V k from by rw [va_up_ne _ _ (by omega), va_up_ne _ _ (by omega)])))), (by rw [va_up_ne _ _ (by decide), va_up_ne _ _ (by decide), va_up_ne _ _ (by decide), va_up_ne _ _ (by decide), va_up_ne _ _ (by decide), va_up_ne _ _ (by decide)]; exact h104), (by rw [va_up_self]), (by rw [va_up_ne _ _ (by decide), va_up_self]), (by rw [va_up_ne _ _ (by decide), va_up_ne _ _ (by decide), va_up_self]), ⟨fun j hj => absurd hj (Nat.not_lt_zero _), ((va_up_ne _ _ (by decide)).trans ((va_up_ne _ _ (by decide)).trans (((hf14 12 (by decide) (by decide))).trans ((va_up_ne _ _ (by decide)).trans (va_up_self ..))))), Nat.zero_le _, fun c hc => absurd hc (List.not_mem_nil)⟩, ⟨hmx29, (va_up_self ..), hok9.1, fun c hc => Nat.lt_trans (hok9.2 c hc) (by decide)⟩⟩, ((va_up_ne _ _ (by decide)).trans ((va_up_ne _ _ (by decide)).trans (((hf14 10 (by decide) (by decide))).trans ((va_up_ne _ _ (by decide)).trans ((va_up_ne _ _ (by decide)).trans (((hf2 10 (by decide))).trans (va_up_self ..)))))))⟩⟩, (offM_t (offM_t (offM_t (offM_t (offM_t (offM_t (offM_r _) (offM_u (by omega))) (offM_u (by omega))) (offM_u (by omega))) (offM_u (by omega))) (offM_u (by omega))) (offM_u (by omega)))⟩
                    · refine J_iload 5 d_M_format_261 rfl ?_
                      refine J_goto (tgt := 267) d_M_format_263 (by decide) ?_
                      refine J_topi (r := ((w1.length : Nat) : Int)) (congrArg iI rfl) ?_
                      refine J_iload 0 d_M_format_267 rfl ?_
                      refine J_bipush d_M_format_269 (i8_ok (by decide)) ?_
                      refine J_if_icmpne (tgt := 281) d_M_format_271 (by decide) ⟨by omega, by omega⟩ ⟨by omega, by omega⟩ (fun c271 => ?_) (fun c271 => ?_)
                      · refine J_iload 6 d_M_format_281 rfl ?_
                        refine J_topi (r := ((mo.toNat : Nat) : Int)) (congrArg iI (by omega)) ?_
                        refine J_eqF (F2 := va_up (va_up (va_up (va_up (va_up F 98 (oM ad (va_up f11 18 ((w1 ++ bd).length : Int)) v)) 107 (.inl (g 0, 260, .inl (aI tt10)))) 99 (.inl (g 0, 858, .inl (aI bh6)))) 100 (.inl (g 0, 33, .inl (aI bl7)))) 106 (.inl (g 0, 200, .inl (aI dh8)))) (Eq.trans (congrArg (fun qq : Nat → va_E => va_up qq 106 (.inl (g 0, 200, .inl (aI dh8)))) (up_cm (by decide))) (congrArg (fun qq : Nat → va_E => va_up (va_up qq 100 (.inl (g 0, 33, .inl (aI bl7)))) 106 (.inl (g 0, 200, .inl (aI dh8)))) (up_cm (by decide)))) ?_
                        have ehmt30 : (w1 ++ bd) = w1 ++ bd := rfl
                        have hmt30 : mtx tt10 (w1 ++ bd) := ehmt30 ▸ hmt17
                        refine J_eqF (F2 := va_up (va_up (va_up (va_up (va_up F 98 (oM ad (va_up f11 18 ((w1 ++ bd).length : Int)) v)) 107 (.inl (g 0, 260, .inl (aI tt10)))) 99 (.inl (g 0, 858, .inl (aI bh6)))) 100 (.inl (g 0, 33, .inl (aI bl7)))) 106 (.inl (g 0, 200, .inl (aI dh8)))) (congrArg (fun qq : Int => va_up (va_up (va_up (va_up (va_up F 98 (oM ad (va_up f11 18 qq) v)) 107 (.inl (g 0, 260, .inl (aI tt10)))) 99 (.inl (g 0, 858, .inl (aI bh6)))) 100 (.inl (g 0, 33, .inl (aI bl7)))) 106 (.inl (g 0, 200, .inl (aI dh8)))) (show ((w1 ++ bd).length : Int) = ((w1 ++ bd).length : Int) from congrArg (fun qq : List Nat => ((qq.length : Nat) : Int)) ehmt30)) ?_
                        refine J_callVv cw_M_372 nh_M_pad pn_M_pad rfl rfl (by omega) (by rw [va_up_ne _ _ (by decide), va_up_ne _ _ (by decide), va_up_ne _ _ (by decide), va_up_ne _ _ (by decide), va_up_self]) (As := [.int (iI ((mo.toNat : Nat) : Int)), .int (iI (c : Int)), .int (iI ((w1.length : Nat) : Int)), .int (iI ((mo.toNat : Nat) : Int))]) (rest := []) rfl (Nat.le_of_ble_eq_true rfl) ⟨by decide, by decide⟩ rfl ⟨by decide, by decide⟩ d_M_format_283 (c_M_pad hfl (f := va_up f11 18 ((w1 ++ bd).length : Int)) (v := v) (tt := tt10) (a := w1) (b := bd) (al := mo.toNat) (c := c) (hn := mo.toNat) hN (by rw [va_up_ne _ _ (by decide), va_up_ne _ _ (by decide), va_up_ne _ _ (by decide), va_up_ne _ _ (by decide), va_up_self]) (by rw [va_up_ne _ _ (by decide), va_up_ne _ _ (by decide), va_up_ne _ _ (by decide), va_up_self]) hmt30 (va_up_self ..) (by omega) (by simp only [List.length_append, List.length_nil]; omega)) (fun  F12 hq => ?_)
                        obtain ⟨tt31, hmt32, eF12⟩ := hq
                        refine J_eqF (F2 := va_up (va_up (va_up (va_up (va_up F 98 (oM ad (va_up f11 18 (((w1 ++ List.replicate mo.toNat c ++ bd ++ List.replicate (mo.toNat - mo.toNat) c).length : Nat) : Int)) v)) 107 (.inl (g 0, 260, .inl (aI tt31)))) 99 (.inl (g 0, 858, .inl (aI bh6)))) 100 (.inl (g 0, 33, .inl (aI bl7)))) 106 (.inl (g 0, 200, .inl (aI dh8)))) ((eF12.trans (congrArg (fun qq : Nat → Int => va_up (va_up (va_up (va_up (va_up (va_up (va_up F 98 (oM ad (va_up f11 18 ((w1 ++ bd).length : Int)) v)) 107 (.inl (g 0, 260, .inl (aI tt10)))) 99 (.inl (g 0, 858, .inl (aI bh6)))) 100 (.inl (g 0, 33, .inl (aI bl7)))) 106 (.inl (g 0, 200, .inl (aI dh8)))) 107 (.inl (g 0, 260, .inl (aI tt31)))) 98 (oM ad qq v)) (up_in0))).trans (Eq.trans (congrArg (fun qF : Nat → va_E => va_up qF 98 (oM ad (va_up f11 18 (((w1 ++ List.replicate mo.toNat c ++ bd ++ List.replicate (mo.toNat - mo.toNat) c).length : Nat) : Int)) v)) (up_in3 (by decide) (by decide) (by decide))) (up_in4 (by decide) (by decide) (by decide) (by decide)))) ?_
                        have hfv : fmtV ln (kd, sg, x, y) = padT way mo.toNat c w1 bd := by unfold fmtV; rw [hH, hB, show padW (sAl ln) (sZe ln) = way from hway.symm, show padC (sFi ln) (sZe ln) = c from hc.symm, show (sWi ln - (w1.length + bd.length : Nat)).toNat = mo.toNat by rw [hmo, hlen]]
                        have hpt : padT way mo.toNat c w1 bd = (w1 ++ List.replicate mo.toNat c ++ bd ++ List.replicate (mo.toNat - mo.toNat) c) := by unfold padT; rw [if_neg (by omega), if_pos (by omega), Nat.sub_self]; exact (List.append_nil _).symm
                        have hok9 : okT 200 (w1 ++ List.replicate mo.toNat c ++ bd ++ List.replicate (mo.toNat - mo.toNat) c) := hpt ▸ okT_pad hcb hw1T hokb (by omega)
                        replace hfv : fmtV ln (kd, sg, x, y) = (w1 ++ List.replicate mo.toNat c ++ bd ++ List.replicate (mo.toNat - mo.toNat) c) := hfv.trans hpt
                        refine J_aload_n 1 d_M_format_286 rfl rfl ?_
                        refine J_callVi cw_M_313 nh_M_shownSize pn_M_shownSize rfl rfl (by omega) (by rw [va_up_ne _ _ (by decide), va_up_ne _ _ (by decide), va_up_ne _ _ (by decide), va_up_ne _ _ (by decide), va_up_self]) (As := []) (rest := []) rfl (Nat.le_of_ble_eq_true rfl) ⟨by decide, by decide⟩ rfl ⟨by decide, by decide⟩ d_M_format_287 (c_M_shownSize hfl (f := va_up f11 18 (((w1 ++ List.replicate mo.toNat c ++ bd ++ List.replicate (mo.toNat - mo.toNat) c).length : Nat) : Int)) (v := v) (xh := xh) (tt := tt31) (w := (w1 ++ List.replicate mo.toNat c ++ bd ++ List.replicate (mo.toNat - mo.toNat) c)) hN (by rw [va_up_ne _ _ (by decide), va_up_ne _ _ (by decide), va_up_ne _ _ (by decide), va_up_ne _ _ (by decide), va_up_self]) (by rw [va_up_ne _ _ (by decide), va_up_ne _ _ (by decide), va_up_ne _ _ (by decide), va_up_ne _ _ (by decide), va_up_ne _ _ (by decide)]; exact h105) (by rw [va_up_ne _ _ (by decide), va_up_ne _ _ (by decide), va_up_ne _ _ (by decide), va_up_self]) hmt32 (va_up_self ..) (by have := hok9.1; omega)) (fun zz9 F13 hq => ?_)
                        obtain ⟨hzz9, xh33, hmx34, eF13⟩ := hq
                        refine J_eqF (F2 := va_up (va_up (va_up (va_up (va_up (va_up F 98 (oM ad (va_up (va_up f11 18 (((w1 ++ List.replicate mo.toNat c ++ bd ++ List.replicate (mo.toNat - mo.toNat) c).length : Nat) : Int)) 14 (((w1 ++ List.replicate mo.toNat c ++ bd ++ List.replicate (mo.toNat - mo.toNat) c).length : Nat) : Int)) v)) 107 (.inl (g 0, 260, .inl (aI tt31)))) 99 (.inl (g 0, 858, .inl (aI bh6)))) 100 (.inl (g 0, 33, .inl (aI bl7)))) 106 (.inl (g 0, 200, .inl (aI dh8)))) 105 (.inl (g 0, 260, .inl (aI xh33)))) (eF13.trans (up_in5 (by decide) (by decide) (by decide) (by decide) (by decide))) ?_
                        refine J_topi (r := ((((w1 ++ List.replicate mo.toNat c ++ bd ++ List.replicate (mo.toNat - mo.toNat) c).length : Nat)) : Int)) (congrArg iI hzz9) ?_
                        refine J_eqF (F2 := va_up (va_up (va_up (va_up (va_up (va_up F 98 (oM ad (va_up (va_up f11 18 (((w1 ++ List.replicate mo.toNat c ++ bd ++ List.replicate (mo.toNat - mo.toNat) c).length : Nat) : Int)) 14 (((w1 ++ List.replicate mo.toNat c ++ bd ++ List.replicate (mo.toNat - mo.toNat) c).length : Nat) : Int)) v)) 99 (.inl (g 0, 858, .inl (aI bh6)))) 100 (.inl (g 0, 33, .inl (aI bl7)))) 107 (.inl (g 0, 260, .inl (aI tt31)))) 106 (.inl (g 0, 200, .inl (aI dh8)))) 105 (.inl (g 0, 260, .inl (aI xh33)))) (Eq.trans (congrArg (fun qq : Nat → va_E => va_up (va_up (va_up qq 100 (.inl (g 0, 33, .inl (aI bl7)))) 106 (.inl (g 0, 200, .inl (aI dh8)))) 105 (.inl (g 0, 260, .inl (aI xh33)))) (up_cm (by decide))) (congrArg (fun qq : Nat → va_E => va_up (va_up qq 106 (.inl (g 0, 200, .inl (aI dh8)))) 105 (.inl (g 0, 260, .inl (aI xh33)))) (up_cm (by decide)))) ?_
                        refine J_iret rfl rfl d_M_format_290 ⟨by decide, by decide⟩ ?_
                        exact ⟨_, rfl, rfl, rfl, Or.inr ⟨_, (formatO_y hrV hkn hsG).trans (congrArg Sum.inr hfv), rfl, hok9, ⟨bh6, bl7, (va_up (va_up f11 18 (((w1 ++ List.replicate mo.toNat c ++ bd ++ List.replicate (mo.toNat - mo.toNat) c).length : Nat) : Int)) 14 (((w1 ++ List.replicate mo.toNat c ++ bd ++ List.replicate (mo.toNat - mo.toNat) c).length : Nat) : Int)), v, W9, br, kk, bb, rr, lh, xh33, dh8, tt31, ⟨(by rw [va_up_ne _ _ (by decide), va_up_ne _ _ (by decide), va_up_ne _ _ (by decide), va_up_ne _ _ (by decide), va_up_ne _ _ (by decide), va_up_self]), (by rw [va_up_ne _ _ (by decide), va_up_ne _ _ (by decide), va_up_ne _ _ (by decide), va_up_ne _ _ (by decide), va_up_self]), (by rw [va_up_ne _ _ (by decide), va_up_ne _ _ (by decide), va_up_ne _ _ (by decide), va_up_self]), hR12, hzz, (by rw [va_up_ne _ _ (by decide), va_up_ne _ _ (by decide), va_up_ne _ _ (by decide), va_up_ne _ _ (by decide), va_up_ne _ _ (by decide), va_up_ne _ _ (by decide)]; exact hKk), (by rw [va_up_ne _ _ (by decide), va_up_ne _ _ (by decide), va_up_ne _ _ (by decide), va_up_ne _ _ (by decide), va_up_ne _ _ (by decide), va_up_ne _ _ (by decide)]; exact hBb), (by rw [va_up_ne _ _ (by decide), va_up_ne _ _ (by decide), va_up_ne _ _ (by decide), va_up_ne _ _ (by decide), va_up_ne _ _ (by decide), va_up_ne _ _ (by decide)]; exact hRr), mR_fr hmr (fun k hk => ((show (W9) k = W9 k from by rfl).trans ((hW13 k (by omega)).trans (show (va_up (va_up V 28 Y) 31 U) k = V k from by rw [va_up_ne _ _ (by omega), va_up_ne _ _ (by omega)])))), (by rw [va_up_ne _ _ (by decide), va_up_ne _ _ (by decide), va_up_ne _ _ (by decide), va_up_ne _ _ (by decide), va_up_ne _ _ (by decide), va_up_ne _ _ (by decide)]; exact h104), (by rw [va_up_self]), (by rw [va_up_ne _ _ (by decide), va_up_self]), (by rw [va_up_ne _ _ (by decide), va_up_ne _ _ (by decide), va_up_self]), ⟨fun j hj => absurd hj (Nat.not_lt_zero _), ((va_up_ne _ _ (by decide)).trans ((va_up_ne _ _ (by decide)).trans (((hf14 12 (by decide) (by decide))).trans ((va_up_ne _ _ (by decide)).trans (va_up_self ..))))), Nat.zero_le _, fun c hc => absurd hc (List.not_mem_nil)⟩, ⟨hmx34, (va_up_self ..), hok9.1, fun c hc => Nat.lt_trans (hok9.2 c hc) (by decide)⟩⟩, ((va_up_ne _ _ (by decide)).trans ((va_up_ne _ _ (by decide)).trans (((hf14 10 (by decide) (by decide))).trans ((va_up_ne _ _ (by decide)).trans ((va_up_ne _ _ (by decide)).trans (((hf2 10 (by decide))).trans (va_up_self ..)))))))⟩⟩, (offM_t (offM_t (offM_t (offM_t (offM_t (offM_t (offM_r _) (offM_u (by omega))) (offM_u (by omega))) (offM_u (by omega))) (offM_u (by omega))) (offM_u (by omega))) (offM_u (by omega)))⟩
                      · exact absurd c271 (by omega)
                  · refine J_aload_n 1 d_M_format_247 rfl rfl ?_
                    refine gf_M_265 (by omega) (by rw [va_up_ne _ _ (by decide), va_up_ne _ _ (by decide), va_up_ne _ _ (by decide), va_up_ne _ _ (by decide), va_up_self]) rfl d_M_format_248 ?_
                    refine J_topi (r := ((w1 ++ bd).length : Int)) (congrArg iI (va_up_self ..)) ?_
                    refine J_goto (tgt := 267) d_M_format_251 (by decide) ?_
                    refine J_topi (r := (((w1 ++ bd).length : Nat) : Int)) (congrArg iI rfl) ?_
                    refine J_iload 0 d_M_format_267 rfl ?_
                    refine J_bipush d_M_format_269 (i8_ok (by decide)) ?_
                    refine J_if_icmpne (tgt := 281) d_M_format_271 (by decide) ⟨by omega, by omega⟩ ⟨by omega, by omega⟩ (fun c271 => ?_) (fun c271 => ?_)
                    · refine J_iload 6 d_M_format_281 rfl ?_
                      refine J_topi (r := ((mo.toNat : Nat) : Int)) (congrArg iI (by omega)) ?_
                      refine J_eqF (F2 := va_up (va_up (va_up (va_up (va_up F 98 (oM ad (va_up f11 18 ((w1 ++ bd).length : Int)) v)) 107 (.inl (g 0, 260, .inl (aI tt10)))) 99 (.inl (g 0, 858, .inl (aI bh6)))) 100 (.inl (g 0, 33, .inl (aI bl7)))) 106 (.inl (g 0, 200, .inl (aI dh8)))) (Eq.trans (congrArg (fun qq : Nat → va_E => va_up qq 106 (.inl (g 0, 200, .inl (aI dh8)))) (up_cm (by decide))) (congrArg (fun qq : Nat → va_E => va_up (va_up qq 100 (.inl (g 0, 33, .inl (aI bl7)))) 106 (.inl (g 0, 200, .inl (aI dh8)))) (up_cm (by decide)))) ?_
                      have ehmt35 : (w1 ++ bd) = (w1 ++ bd) ++ ([] : List Nat) := (List.append_nil _).symm
                      have hmt35 : mtx tt10 ((w1 ++ bd) ++ ([] : List Nat)) := ehmt35 ▸ hmt17
                      refine J_eqF (F2 := va_up (va_up (va_up (va_up (va_up F 98 (oM ad (va_up f11 18 (((w1 ++ bd) ++ ([] : List Nat)).length : Int)) v)) 107 (.inl (g 0, 260, .inl (aI tt10)))) 99 (.inl (g 0, 858, .inl (aI bh6)))) 100 (.inl (g 0, 33, .inl (aI bl7)))) 106 (.inl (g 0, 200, .inl (aI dh8)))) (congrArg (fun qq : Int => va_up (va_up (va_up (va_up (va_up F 98 (oM ad (va_up f11 18 qq) v)) 107 (.inl (g 0, 260, .inl (aI tt10)))) 99 (.inl (g 0, 858, .inl (aI bh6)))) 100 (.inl (g 0, 33, .inl (aI bl7)))) 106 (.inl (g 0, 200, .inl (aI dh8)))) (show ((w1 ++ bd).length : Int) = (((w1 ++ bd) ++ ([] : List Nat)).length : Int) from congrArg (fun qq : List Nat => ((qq.length : Nat) : Int)) ehmt35)) ?_
                      refine J_callVv cw_M_372 nh_M_pad pn_M_pad rfl rfl (by omega) (by rw [va_up_ne _ _ (by decide), va_up_ne _ _ (by decide), va_up_ne _ _ (by decide), va_up_ne _ _ (by decide), va_up_self]) (As := [.int (iI ((mo.toNat : Nat) : Int)), .int (iI (c : Int)), .int (iI (((w1 ++ bd).length : Nat) : Int)), .int (iI ((mo.toNat : Nat) : Int))]) (rest := []) rfl (Nat.le_of_ble_eq_true rfl) ⟨by decide, by decide⟩ rfl ⟨by decide, by decide⟩ d_M_format_283 (c_M_pad hfl (f := va_up f11 18 (((w1 ++ bd) ++ ([] : List Nat)).length : Int)) (v := v) (tt := tt10) (a := (w1 ++ bd)) (b := ([] : List Nat)) (al := mo.toNat) (c := c) (hn := mo.toNat) hN (by rw [va_up_ne _ _ (by decide), va_up_ne _ _ (by decide), va_up_ne _ _ (by decide), va_up_ne _ _ (by decide), va_up_self]) (by rw [va_up_ne _ _ (by decide), va_up_ne _ _ (by decide), va_up_ne _ _ (by decide), va_up_self]) hmt35 (va_up_self ..) (by omega) (by simp only [List.length_append, List.length_nil]; omega)) (fun  F14 hq => ?_)
                      obtain ⟨tt36, hmt37, eF14⟩ := hq
                      refine J_eqF (F2 := va_up (va_up (va_up (va_up (va_up F 98 (oM ad (va_up f11 18 ((((w1 ++ bd) ++ List.replicate mo.toNat c ++ ([] : List Nat) ++ List.replicate (mo.toNat - mo.toNat) c).length : Nat) : Int)) v)) 107 (.inl (g 0, 260, .inl (aI tt36)))) 99 (.inl (g 0, 858, .inl (aI bh6)))) 100 (.inl (g 0, 33, .inl (aI bl7)))) 106 (.inl (g 0, 200, .inl (aI dh8)))) ((eF14.trans (congrArg (fun qq : Nat → Int => va_up (va_up (va_up (va_up (va_up (va_up (va_up F 98 (oM ad (va_up f11 18 (((w1 ++ bd) ++ ([] : List Nat)).length : Int)) v)) 107 (.inl (g 0, 260, .inl (aI tt10)))) 99 (.inl (g 0, 858, .inl (aI bh6)))) 100 (.inl (g 0, 33, .inl (aI bl7)))) 106 (.inl (g 0, 200, .inl (aI dh8)))) 107 (.inl (g 0, 260, .inl (aI tt36)))) 98 (oM ad qq v)) (up_in0))).trans (Eq.trans (congrArg (fun qF : Nat → va_E => va_up qF 98 (oM ad (va_up f11 18 ((((w1 ++ bd) ++ List.replicate mo.toNat c ++ ([] : List Nat) ++ List.replicate (mo.toNat - mo.toNat) c).length : Nat) : Int)) v)) (up_in3 (by decide) (by decide) (by decide))) (up_in4 (by decide) (by decide) (by decide) (by decide)))) ?_
                      have hfv : fmtV ln (kd, sg, x, y) = padT way mo.toNat c w1 bd := by unfold fmtV; rw [hH, hB, show padW (sAl ln) (sZe ln) = way from hway.symm, show padC (sFi ln) (sZe ln) = c from hc.symm, show (sWi ln - (w1.length + bd.length : Nat)).toNat = mo.toNat by rw [hmo, hlen]]
                      have hpt : padT way mo.toNat c w1 bd = ((w1 ++ bd) ++ List.replicate mo.toNat c ++ ([] : List Nat) ++ List.replicate (mo.toNat - mo.toNat) c) := by unfold padT; rw [if_pos (by omega), Nat.sub_self, List.append_nil]; exact (List.append_nil _).symm
                      have hok9 : okT 200 ((w1 ++ bd) ++ List.replicate mo.toNat c ++ ([] : List Nat) ++ List.replicate (mo.toNat - mo.toNat) c) := hpt ▸ okT_pad hcb hw1T hokb (by omega)
                      replace hfv : fmtV ln (kd, sg, x, y) = ((w1 ++ bd) ++ List.replicate mo.toNat c ++ ([] : List Nat) ++ List.replicate (mo.toNat - mo.toNat) c) := hfv.trans hpt
                      refine J_aload_n 1 d_M_format_286 rfl rfl ?_
                      refine J_callVi cw_M_313 nh_M_shownSize pn_M_shownSize rfl rfl (by omega) (by rw [va_up_ne _ _ (by decide), va_up_ne _ _ (by decide), va_up_ne _ _ (by decide), va_up_ne _ _ (by decide), va_up_self]) (As := []) (rest := []) rfl (Nat.le_of_ble_eq_true rfl) ⟨by decide, by decide⟩ rfl ⟨by decide, by decide⟩ d_M_format_287 (c_M_shownSize hfl (f := va_up f11 18 ((((w1 ++ bd) ++ List.replicate mo.toNat c ++ ([] : List Nat) ++ List.replicate (mo.toNat - mo.toNat) c).length : Nat) : Int)) (v := v) (xh := xh) (tt := tt36) (w := ((w1 ++ bd) ++ List.replicate mo.toNat c ++ ([] : List Nat) ++ List.replicate (mo.toNat - mo.toNat) c)) hN (by rw [va_up_ne _ _ (by decide), va_up_ne _ _ (by decide), va_up_ne _ _ (by decide), va_up_ne _ _ (by decide), va_up_self]) (by rw [va_up_ne _ _ (by decide), va_up_ne _ _ (by decide), va_up_ne _ _ (by decide), va_up_ne _ _ (by decide), va_up_ne _ _ (by decide)]; exact h105) (by rw [va_up_ne _ _ (by decide), va_up_ne _ _ (by decide), va_up_ne _ _ (by decide), va_up_self]) hmt37 (va_up_self ..) (by have := hok9.1; omega)) (fun zz9 F15 hq => ?_)
                      obtain ⟨hzz9, xh38, hmx39, eF15⟩ := hq
                      refine J_eqF (F2 := va_up (va_up (va_up (va_up (va_up (va_up F 98 (oM ad (va_up (va_up f11 18 ((((w1 ++ bd) ++ List.replicate mo.toNat c ++ ([] : List Nat) ++ List.replicate (mo.toNat - mo.toNat) c).length : Nat) : Int)) 14 ((((w1 ++ bd) ++ List.replicate mo.toNat c ++ ([] : List Nat) ++ List.replicate (mo.toNat - mo.toNat) c).length : Nat) : Int)) v)) 107 (.inl (g 0, 260, .inl (aI tt36)))) 99 (.inl (g 0, 858, .inl (aI bh6)))) 100 (.inl (g 0, 33, .inl (aI bl7)))) 106 (.inl (g 0, 200, .inl (aI dh8)))) 105 (.inl (g 0, 260, .inl (aI xh38)))) (eF15.trans (up_in5 (by decide) (by decide) (by decide) (by decide) (by decide))) ?_
                      refine J_topi (r := (((((w1 ++ bd) ++ List.replicate mo.toNat c ++ ([] : List Nat) ++ List.replicate (mo.toNat - mo.toNat) c).length : Nat)) : Int)) (congrArg iI hzz9) ?_
                      refine J_eqF (F2 := va_up (va_up (va_up (va_up (va_up (va_up F 98 (oM ad (va_up (va_up f11 18 ((((w1 ++ bd) ++ List.replicate mo.toNat c ++ ([] : List Nat) ++ List.replicate (mo.toNat - mo.toNat) c).length : Nat) : Int)) 14 ((((w1 ++ bd) ++ List.replicate mo.toNat c ++ ([] : List Nat) ++ List.replicate (mo.toNat - mo.toNat) c).length : Nat) : Int)) v)) 99 (.inl (g 0, 858, .inl (aI bh6)))) 100 (.inl (g 0, 33, .inl (aI bl7)))) 107 (.inl (g 0, 260, .inl (aI tt36)))) 106 (.inl (g 0, 200, .inl (aI dh8)))) 105 (.inl (g 0, 260, .inl (aI xh38)))) (Eq.trans (congrArg (fun qq : Nat → va_E => va_up (va_up (va_up qq 100 (.inl (g 0, 33, .inl (aI bl7)))) 106 (.inl (g 0, 200, .inl (aI dh8)))) 105 (.inl (g 0, 260, .inl (aI xh38)))) (up_cm (by decide))) (congrArg (fun qq : Nat → va_E => va_up (va_up qq 106 (.inl (g 0, 200, .inl (aI dh8)))) 105 (.inl (g 0, 260, .inl (aI xh38)))) (up_cm (by decide)))) ?_
                      refine J_iret rfl rfl d_M_format_290 ⟨by decide, by decide⟩ ?_
                      exact ⟨_, rfl, rfl, rfl, Or.inr ⟨_, (formatO_y hrV hkn hsG).trans (congrArg Sum.inr hfv), rfl, hok9, ⟨bh6, bl7, (va_up (va_up f11 18 ((((w1 ++ bd) ++ List.replicate mo.toNat c ++ ([] : List Nat) ++ List.replicate (mo.toNat - mo.toNat) c).length : Nat) : Int)) 14 ((((w1 ++ bd) ++ List.replicate mo.toNat c ++ ([] : List Nat) ++ List.replicate (mo.toNat - mo.toNat) c).length : Nat) : Int)), v, W9, br, kk, bb, rr, lh, xh38, dh8, tt36, ⟨(by rw [va_up_ne _ _ (by decide), va_up_ne _ _ (by decide), va_up_ne _ _ (by decide), va_up_ne _ _ (by decide), va_up_ne _ _ (by decide), va_up_self]), (by rw [va_up_ne _ _ (by decide), va_up_ne _ _ (by decide), va_up_ne _ _ (by decide), va_up_ne _ _ (by decide), va_up_self]), (by rw [va_up_ne _ _ (by decide), va_up_ne _ _ (by decide), va_up_ne _ _ (by decide), va_up_self]), hR12, hzz, (by rw [va_up_ne _ _ (by decide), va_up_ne _ _ (by decide), va_up_ne _ _ (by decide), va_up_ne _ _ (by decide), va_up_ne _ _ (by decide), va_up_ne _ _ (by decide)]; exact hKk), (by rw [va_up_ne _ _ (by decide), va_up_ne _ _ (by decide), va_up_ne _ _ (by decide), va_up_ne _ _ (by decide), va_up_ne _ _ (by decide), va_up_ne _ _ (by decide)]; exact hBb), (by rw [va_up_ne _ _ (by decide), va_up_ne _ _ (by decide), va_up_ne _ _ (by decide), va_up_ne _ _ (by decide), va_up_ne _ _ (by decide), va_up_ne _ _ (by decide)]; exact hRr), mR_fr hmr (fun k hk => ((show (W9) k = W9 k from by rfl).trans ((hW13 k (by omega)).trans (show (va_up (va_up V 28 Y) 31 U) k = V k from by rw [va_up_ne _ _ (by omega), va_up_ne _ _ (by omega)])))), (by rw [va_up_ne _ _ (by decide), va_up_ne _ _ (by decide), va_up_ne _ _ (by decide), va_up_ne _ _ (by decide), va_up_ne _ _ (by decide), va_up_ne _ _ (by decide)]; exact h104), (by rw [va_up_self]), (by rw [va_up_ne _ _ (by decide), va_up_self]), (by rw [va_up_ne _ _ (by decide), va_up_ne _ _ (by decide), va_up_self]), ⟨fun j hj => absurd hj (Nat.not_lt_zero _), ((va_up_ne _ _ (by decide)).trans ((va_up_ne _ _ (by decide)).trans (((hf14 12 (by decide) (by decide))).trans ((va_up_ne _ _ (by decide)).trans (va_up_self ..))))), Nat.zero_le _, fun c hc => absurd hc (List.not_mem_nil)⟩, ⟨hmx39, (va_up_self ..), hok9.1, fun c hc => Nat.lt_trans (hok9.2 c hc) (by decide)⟩⟩, ((va_up_ne _ _ (by decide)).trans ((va_up_ne _ _ (by decide)).trans (((hf14 10 (by decide) (by decide))).trans ((va_up_ne _ _ (by decide)).trans ((va_up_ne _ _ (by decide)).trans (((hf2 10 (by decide))).trans (va_up_self ..)))))))⟩⟩, (offM_t (offM_t (offM_t (offM_t (offM_t (offM_t (offM_r _) (offM_u (by omega))) (offM_u (by omega))) (offM_u (by omega))) (offM_u (by omega))) (offM_u (by omega))) (offM_u (by omega)))⟩
                    · exact absurd c271 (by omega)
              refine J_aload_n 1 d_M_format_200 rfl rfl ?_
              refine gf_M_319 (by omega) (by rw [va_up_ne _ _ (by decide), va_up_ne _ _ (by decide), va_up_ne _ _ (by decide), va_up_ne _ _ (by decide), va_up_self]) rfl d_M_format_201 ?_
              refine J_topi (r := (sAl ln : Int)) (congrArg iI ((va_up_ne _ _ (by decide)).trans (((hf14 22 (by decide) (by decide))).trans ((va_up_ne _ _ (by decide)).trans ((va_up_ne _ _ (by decide)).trans hg22))))) ?_
              refine J_ifle (tgt := 214) d_M_format_204 (by decide) ⟨by omega, by omega⟩ (fun c204 => ?_) (fun c204 => ?_)
              · refine J_aload_n 1 d_M_format_214 rfl rfl ?_
                refine gf_M_330 (by omega) (by rw [va_up_ne _ _ (by decide), va_up_ne _ _ (by decide), va_up_ne _ _ (by decide), va_up_ne _ _ (by decide), va_up_self]) rfl d_M_format_215 ?_
                refine J_topi (r := (sZe ln)) (congrArg iI ((va_up_ne _ _ (by decide)).trans (((hf14 25 (by decide) (by decide))).trans ((va_up_ne _ _ (by decide)).trans ((va_up_ne _ _ (by decide)).trans hg25))))) ?_
                refine J_ifeq (tgt := 226) d_M_format_218 (by decide) ⟨by omega, by omega⟩ (fun c218 => ?_) (fun c218 => ?_)
                · refine J_bipush d_M_format_226 (i8_ok (by decide)) ?_
                  refine J_pick (lv' := [(0, .ref (ad 98)), (1, .int (iI a)), (2, .int (iI 1)), (3, .int (iI mi)), (4, .int (iI ((w1.length : Nat) : Int))), (5, .int (iI mo)), (6, .int (iI (c : Int)))]) [1, 2, 3, 4, 5, 6, 0] rfl ?_
                  exact lab228 62 (by unfold padW; rw [if_neg (by omega), if_neg (by omega)]) (by rcases (show _ ∨ _ ∨ _ ∨ _ ∨ _ from hAl) with q | q | q | q | q <;> omega)
                · refine J_bipush d_M_format_221 (i8_ok (by decide)) ?_
                  refine J_goto (tgt := 228) d_M_format_223 (by decide) ?_
                  refine J_pick (lv' := [(0, .ref (ad 98)), (1, .int (iI a)), (2, .int (iI 1)), (3, .int (iI mi)), (4, .int (iI ((w1.length : Nat) : Int))), (5, .int (iI mo)), (6, .int (iI (c : Int)))]) [1, 2, 3, 4, 5, 6, 0] rfl ?_
                  exact lab228 61 (by unfold padW; rw [if_neg (by omega), if_pos (by omega)]) (by rcases (show _ ∨ _ ∨ _ ∨ _ ∨ _ from hAl) with q | q | q | q | q <;> omega)
              · refine J_aload_n 1 d_M_format_207 rfl rfl ?_
                refine gf_M_319 (by omega) (by rw [va_up_ne _ _ (by decide), va_up_ne _ _ (by decide), va_up_ne _ _ (by decide), va_up_ne _ _ (by decide), va_up_self]) rfl d_M_format_208 ?_
                refine J_topi (r := (sAl ln : Int)) (congrArg iI ((va_up_ne _ _ (by decide)).trans (((hf14 22 (by decide) (by decide))).trans ((va_up_ne _ _ (by decide)).trans ((va_up_ne _ _ (by decide)).trans hg22))))) ?_
                refine J_goto (tgt := 228) d_M_format_211 (by decide) ?_
                refine J_pick (lv' := [(0, .ref (ad 98)), (1, .int (iI a)), (2, .int (iI 1)), (3, .int (iI mi)), (4, .int (iI ((w1.length : Nat) : Int))), (5, .int (iI mo)), (6, .int (iI (c : Int)))]) [1, 2, 3, 4, 5, 6, 0] rfl ?_
                exact lab228 (sAl ln) (by unfold padW; rw [if_pos (by omega)]) (by rcases (show _ ∨ _ ∨ _ ∨ _ ∨ _ from hAl) with q | q | q | q | q <;> omega)
            refine J_aload_n 2 d_M_format_170 rfl rfl ?_
            refine gf_M_316 (by omega) (by rw [va_up_ne _ _ (by decide), va_up_ne _ _ (by decide), va_up_ne _ _ (by decide), va_up_ne _ _ (by decide), va_up_self]) rfl d_M_format_171 ?_
            refine J_topi (r := (sFi ln : Int)) (congrArg iI ((va_up_ne _ _ (by decide)).trans (((hf14 21 (by decide) (by decide))).trans ((va_up_ne _ _ (by decide)).trans ((va_up_ne _ _ (by decide)).trans hg21))))) ?_
            refine J_ifle (tgt := 184) d_M_format_174 (by decide) ⟨by omega, by omega⟩ (fun c174 => ?_) (fun c174 => ?_)
            · refine J_aload_n 2 d_M_format_184 rfl rfl ?_
              refine gf_M_330 (by omega) (by rw [va_up_ne _ _ (by decide), va_up_ne _ _ (by decide), va_up_ne _ _ (by decide), va_up_ne _ _ (by decide), va_up_self]) rfl d_M_format_185 ?_
              refine J_topi (r := (sZe ln)) (congrArg iI ((va_up_ne _ _ (by decide)).trans (((hf14 25 (by decide) (by decide))).trans ((va_up_ne _ _ (by decide)).trans ((va_up_ne _ _ (by decide)).trans hg25))))) ?_
              refine J_ifeq (tgt := 196) d_M_format_188 (by decide) ⟨by omega, by omega⟩ (fun c188 => ?_) (fun c188 => ?_)
              · refine J_bipush d_M_format_196 (i8_ok (by decide)) ?_
                refine J_pick (lv' := [(0, .ref (ad 98)), (1, .int (iI a)), (2, .int (iI 1)), (3, .int (iI mi)), (4, .int (iI ((w1.length : Nat) : Int))), (5, .int (iI mo))]) [2, 3, 4, 5, 1, 0] rfl ?_
                exact lab198 32 (by unfold padC; rw [if_neg (by omega), if_neg (by omega)]) (by omega)
              · refine J_bipush d_M_format_191 (i8_ok (by decide)) ?_
                refine J_goto (tgt := 198) d_M_format_193 (by decide) ?_
                refine J_pick (lv' := [(0, .ref (ad 98)), (1, .int (iI a)), (2, .int (iI 1)), (3, .int (iI mi)), (4, .int (iI ((w1.length : Nat) : Int))), (5, .int (iI mo))]) [2, 3, 4, 5, 1, 0] rfl ?_
                exact lab198 48 (by unfold padC; rw [if_neg (by omega), if_pos (by omega)]) (by omega)
            · refine J_aload_n 2 d_M_format_177 rfl rfl ?_
              refine gf_M_316 (by omega) (by rw [va_up_ne _ _ (by decide), va_up_ne _ _ (by decide), va_up_ne _ _ (by decide), va_up_ne _ _ (by decide), va_up_self]) rfl d_M_format_178 ?_
              refine J_topi (r := (sFi ln : Int)) (congrArg iI ((va_up_ne _ _ (by decide)).trans (((hf14 21 (by decide) (by decide))).trans ((va_up_ne _ _ (by decide)).trans ((va_up_ne _ _ (by decide)).trans hg21))))) ?_
              refine J_goto (tgt := 198) d_M_format_181 (by decide) ?_
              refine J_pick (lv' := [(0, .ref (ad 98)), (1, .int (iI a)), (2, .int (iI 1)), (3, .int (iI mi)), (4, .int (iI ((w1.length : Nat) : Int))), (5, .int (iI mo))]) [2, 3, 4, 5, 1, 0] rfl ?_
              exact lab198 (sFi ln) (by unfold padC; rw [if_pos (by omega)]) (by omega)
          refine J_aload_n 0 d_M_format_101 rfl rfl ?_
          refine gf_M_327 (by omega) (by rw [va_up_ne _ _ (by decide), va_up_ne _ _ (by decide), va_up_ne _ _ (by decide), va_up_self]) rfl d_M_format_102 ?_
          refine J_topi (r := (sSh ln)) (congrArg iI ((va_up_ne _ _ (by decide)).trans ((va_up_ne _ _ (by decide)).trans hg24))) ?_
          refine J_ifeq (tgt := 149) d_M_format_105 (by decide) ⟨by omega, by omega⟩ (fun c105 => ?_) (fun c105 => ?_)
          · exact lab149 w t2 (by rw [if_neg (by rintro ⟨q1, q2⟩; omega)]; exact (List.append_nil _).symm) (okT_le hwT (by decide)) hm2
          · refine J_aload_n 0 d_M_format_108 rfl rfl ?_
            refine gf_M_345 (by omega) (by rw [va_up_ne _ _ (by decide), va_up_ne _ _ (by decide), va_up_ne _ _ (by decide), va_up_self]) rfl d_M_format_109 ?_
            refine J_topi (r := (sTy ln kd : Int)) (congrArg iI ((va_up_ne _ _ (by decide)).trans ((va_up_ne _ _ (by decide)).trans hg29))) ?_
            refine J_bipush d_M_format_112 (i8_ok (by decide)) ?_
            refine J_if_icmpeq (tgt := 135) d_M_format_114 (by decide) ⟨by omega, by omega⟩ ⟨by omega, by omega⟩ (fun c114 => ?_) (fun c114 => ?_)
            · refine J_aload_n 0 d_M_format_135 rfl rfl ?_
              refine J_bipush d_M_format_136 (i8_ok (by decide)) ?_
              refine J_callVv cw_M_278 nh_M_say pn_M_say rfl rfl (by omega) (by rw [va_up_ne _ _ (by decide), va_up_ne _ _ (by decide), va_up_ne _ _ (by decide), va_up_self]) (As := [.int (iI 48)]) (rest := []) rfl (Nat.le_of_ble_eq_true rfl) ⟨by decide, by decide⟩ rfl ⟨by decide, by decide⟩ d_M_format_138 (c_M_say hfl (f := va_up (va_up f2 12 0) 18 ((w.length : Nat) : Int)) (v := v) (tt := t2) (w := w) (c := (48 : Nat)) hN (by rw [va_up_ne _ _ (by decide), va_up_ne _ _ (by decide), va_up_ne _ _ (by decide), va_up_self]) (by rw [va_up_self]) hm2 (va_up_self ..) (by omega)) (fun  F16 hq => ?_)
              obtain ⟨tx40, hmt41, eF16⟩ := hq
              refine J_eqF (F2 := va_up (va_up (va_up (va_up F 98 (oM ad (va_up (va_up f2 12 0) 18 (((w ++ [(48 : Nat)]).length : Nat) : Int)) v)) 99 (.inl (g 0, 858, .inl (aI bh3)))) 100 (.inl (g 0, 33, .inl (aI bl4)))) 107 (.inl (g 0, 260, .inl (aI tx40)))) ((eF16.trans (congrArg (fun qq : Nat → Int => va_up (va_up (va_up (va_up (va_up (va_up F 98 (oM ad (va_up (va_up f2 12 0) 18 ((w.length : Nat) : Int)) v)) 99 (.inl (g 0, 858, .inl (aI bh3)))) 100 (.inl (g 0, 33, .inl (aI bl4)))) 107 (.inl (g 0, 260, .inl (aI t2)))) 107 (.inl (g 0, 260, .inl (aI tx40)))) 98 (oM ad qq v)) (up_in0))).trans (Eq.trans (congrArg (fun qF : Nat → va_E => va_up qF 98 (oM ad (va_up (va_up f2 12 0) 18 (((w ++ [(48 : Nat)]).length : Nat) : Int)) v)) (up_in0)) (up_in3 (by decide) (by decide) (by decide)))) ?_
              refine J_aload_n 0 d_M_format_141 rfl rfl ?_
              refine J_aload_n 0 d_M_format_142 rfl rfl ?_
              refine gf_M_345 (by omega) (by rw [va_up_ne _ _ (by decide), va_up_ne _ _ (by decide), va_up_ne _ _ (by decide), va_up_self]) rfl d_M_format_143 ?_
              refine J_topi (r := (sTy ln kd : Int)) (congrArg iI ((va_up_ne _ _ (by decide)).trans ((va_up_ne _ _ (by decide)).trans hg29))) ?_
              refine J_callVv cw_M_278 nh_M_say pn_M_say rfl rfl (by omega) (by rw [va_up_ne _ _ (by decide), va_up_ne _ _ (by decide), va_up_ne _ _ (by decide), va_up_self]) (As := [.int (iI (sTy ln kd : Int))]) (rest := []) rfl (Nat.le_of_ble_eq_true rfl) ⟨by decide, by decide⟩ rfl ⟨by decide, by decide⟩ d_M_format_146 (c_M_say hfl (f := va_up (va_up f2 12 0) 18 (((w ++ [(48 : Nat)]).length : Nat) : Int)) (v := v) (tt := tx40) (w := (w ++ [(48 : Nat)])) (c := (sTy ln kd)) hN (by rw [va_up_ne _ _ (by decide), va_up_ne _ _ (by decide), va_up_ne _ _ (by decide), va_up_self]) (by rw [va_up_self]) hmt41 (va_up_self ..) (by simp only [List.length_append, List.length_cons, List.length_nil]; omega)) (fun  F17 hq => ?_)
              obtain ⟨tx42, hmt43, eF17⟩ := hq
              refine J_eqF (F2 := va_up (va_up (va_up (va_up F 98 (oM ad (va_up (va_up f2 12 0) 18 ((((w ++ [(48 : Nat)]) ++ [sTy ln kd]).length : Nat) : Int)) v)) 99 (.inl (g 0, 858, .inl (aI bh3)))) 100 (.inl (g 0, 33, .inl (aI bl4)))) 107 (.inl (g 0, 260, .inl (aI tx42)))) ((eF17.trans (congrArg (fun qq : Nat → Int => va_up (va_up (va_up (va_up (va_up (va_up F 98 (oM ad (va_up (va_up f2 12 0) 18 (((w ++ [(48 : Nat)]).length : Nat) : Int)) v)) 99 (.inl (g 0, 858, .inl (aI bh3)))) 100 (.inl (g 0, 33, .inl (aI bl4)))) 107 (.inl (g 0, 260, .inl (aI tx40)))) 107 (.inl (g 0, 260, .inl (aI tx42)))) 98 (oM ad qq v)) (up_in0))).trans (Eq.trans (congrArg (fun qF : Nat → va_E => va_up qF 98 (oM ad (va_up (va_up f2 12 0) 18 ((((w ++ [(48 : Nat)]) ++ [sTy ln kd]).length : Nat) : Int)) v)) (up_in0)) (up_in3 (by decide) (by decide) (by decide)))) ?_
              exact lab149 ((w ++ [(48 : Nat)]) ++ [sTy ln kd]) tx42 (by rw [if_pos ⟨by omega, by omega⟩]; exact List.append_assoc ..) (okT_le (okT_app (okT_app hwT (okT_one (by decide))) (okT_one (show sTy ln kd < 128 by omega))) (by decide)) hmt43
            · refine J_aload_n 0 d_M_format_117 rfl rfl ?_
              refine gf_M_345 (by omega) (by rw [va_up_ne _ _ (by decide), va_up_ne _ _ (by decide), va_up_ne _ _ (by decide), va_up_self]) rfl d_M_format_118 ?_
              refine J_topi (r := (sTy ln kd : Int)) (congrArg iI ((va_up_ne _ _ (by decide)).trans ((va_up_ne _ _ (by decide)).trans hg29))) ?_
              refine J_bipush d_M_format_121 (i8_ok (by decide)) ?_
              refine J_if_icmpeq (tgt := 135) d_M_format_123 (by decide) ⟨by omega, by omega⟩ ⟨by omega, by omega⟩ (fun c123 => ?_) (fun c123 => ?_)
              · refine J_aload_n 0 d_M_format_135 rfl rfl ?_
                refine J_bipush d_M_format_136 (i8_ok (by decide)) ?_
                refine J_callVv cw_M_278 nh_M_say pn_M_say rfl rfl (by omega) (by rw [va_up_ne _ _ (by decide), va_up_ne _ _ (by decide), va_up_ne _ _ (by decide), va_up_self]) (As := [.int (iI 48)]) (rest := []) rfl (Nat.le_of_ble_eq_true rfl) ⟨by decide, by decide⟩ rfl ⟨by decide, by decide⟩ d_M_format_138 (c_M_say hfl (f := va_up (va_up f2 12 0) 18 ((w.length : Nat) : Int)) (v := v) (tt := t2) (w := w) (c := (48 : Nat)) hN (by rw [va_up_ne _ _ (by decide), va_up_ne _ _ (by decide), va_up_ne _ _ (by decide), va_up_self]) (by rw [va_up_self]) hm2 (va_up_self ..) (by omega)) (fun  F18 hq => ?_)
                obtain ⟨tx44, hmt45, eF18⟩ := hq
                refine J_eqF (F2 := va_up (va_up (va_up (va_up F 98 (oM ad (va_up (va_up f2 12 0) 18 (((w ++ [(48 : Nat)]).length : Nat) : Int)) v)) 99 (.inl (g 0, 858, .inl (aI bh3)))) 100 (.inl (g 0, 33, .inl (aI bl4)))) 107 (.inl (g 0, 260, .inl (aI tx44)))) ((eF18.trans (congrArg (fun qq : Nat → Int => va_up (va_up (va_up (va_up (va_up (va_up F 98 (oM ad (va_up (va_up f2 12 0) 18 ((w.length : Nat) : Int)) v)) 99 (.inl (g 0, 858, .inl (aI bh3)))) 100 (.inl (g 0, 33, .inl (aI bl4)))) 107 (.inl (g 0, 260, .inl (aI t2)))) 107 (.inl (g 0, 260, .inl (aI tx44)))) 98 (oM ad qq v)) (up_in0))).trans (Eq.trans (congrArg (fun qF : Nat → va_E => va_up qF 98 (oM ad (va_up (va_up f2 12 0) 18 (((w ++ [(48 : Nat)]).length : Nat) : Int)) v)) (up_in0)) (up_in3 (by decide) (by decide) (by decide)))) ?_
                refine J_aload_n 0 d_M_format_141 rfl rfl ?_
                refine J_aload_n 0 d_M_format_142 rfl rfl ?_
                refine gf_M_345 (by omega) (by rw [va_up_ne _ _ (by decide), va_up_ne _ _ (by decide), va_up_ne _ _ (by decide), va_up_self]) rfl d_M_format_143 ?_
                refine J_topi (r := (sTy ln kd : Int)) (congrArg iI ((va_up_ne _ _ (by decide)).trans ((va_up_ne _ _ (by decide)).trans hg29))) ?_
                refine J_callVv cw_M_278 nh_M_say pn_M_say rfl rfl (by omega) (by rw [va_up_ne _ _ (by decide), va_up_ne _ _ (by decide), va_up_ne _ _ (by decide), va_up_self]) (As := [.int (iI (sTy ln kd : Int))]) (rest := []) rfl (Nat.le_of_ble_eq_true rfl) ⟨by decide, by decide⟩ rfl ⟨by decide, by decide⟩ d_M_format_146 (c_M_say hfl (f := va_up (va_up f2 12 0) 18 (((w ++ [(48 : Nat)]).length : Nat) : Int)) (v := v) (tt := tx44) (w := (w ++ [(48 : Nat)])) (c := (sTy ln kd)) hN (by rw [va_up_ne _ _ (by decide), va_up_ne _ _ (by decide), va_up_ne _ _ (by decide), va_up_self]) (by rw [va_up_self]) hmt45 (va_up_self ..) (by simp only [List.length_append, List.length_cons, List.length_nil]; omega)) (fun  F19 hq => ?_)
                obtain ⟨tx46, hmt47, eF19⟩ := hq
                refine J_eqF (F2 := va_up (va_up (va_up (va_up F 98 (oM ad (va_up (va_up f2 12 0) 18 ((((w ++ [(48 : Nat)]) ++ [sTy ln kd]).length : Nat) : Int)) v)) 99 (.inl (g 0, 858, .inl (aI bh3)))) 100 (.inl (g 0, 33, .inl (aI bl4)))) 107 (.inl (g 0, 260, .inl (aI tx46)))) ((eF19.trans (congrArg (fun qq : Nat → Int => va_up (va_up (va_up (va_up (va_up (va_up F 98 (oM ad (va_up (va_up f2 12 0) 18 (((w ++ [(48 : Nat)]).length : Nat) : Int)) v)) 99 (.inl (g 0, 858, .inl (aI bh3)))) 100 (.inl (g 0, 33, .inl (aI bl4)))) 107 (.inl (g 0, 260, .inl (aI tx44)))) 107 (.inl (g 0, 260, .inl (aI tx46)))) 98 (oM ad qq v)) (up_in0))).trans (Eq.trans (congrArg (fun qF : Nat → va_E => va_up qF 98 (oM ad (va_up (va_up f2 12 0) 18 ((((w ++ [(48 : Nat)]) ++ [sTy ln kd]).length : Nat) : Int)) v)) (up_in0)) (up_in3 (by decide) (by decide) (by decide)))) ?_
                exact lab149 ((w ++ [(48 : Nat)]) ++ [sTy ln kd]) tx46 (by rw [if_pos ⟨by omega, by omega⟩]; exact List.append_assoc ..) (okT_le (okT_app (okT_app hwT (okT_one (by decide))) (okT_one (show sTy ln kd < 128 by omega))) (by decide)) hmt47
              · refine J_aload_n 0 d_M_format_126 rfl rfl ?_
                refine gf_M_345 (by omega) (by rw [va_up_ne _ _ (by decide), va_up_ne _ _ (by decide), va_up_ne _ _ (by decide), va_up_self]) rfl d_M_format_127 ?_
                refine J_topi (r := (sTy ln kd : Int)) (congrArg iI ((va_up_ne _ _ (by decide)).trans ((va_up_ne _ _ (by decide)).trans hg29))) ?_
                refine J_bipush d_M_format_130 (i8_ok (by decide)) ?_
                refine J_if_icmpne (tgt := 149) d_M_format_132 (by decide) ⟨by omega, by omega⟩ ⟨by omega, by omega⟩ (fun c132 => ?_) (fun c132 => ?_)
                · exact lab149 w t2 (by rw [if_neg (by rintro ⟨q1, q2⟩; omega)]; exact (List.append_nil _).symm) (okT_le hwT (by decide)) hm2
                · refine J_aload_n 0 d_M_format_135 rfl rfl ?_
                  refine J_bipush d_M_format_136 (i8_ok (by decide)) ?_
                  refine J_callVv cw_M_278 nh_M_say pn_M_say rfl rfl (by omega) (by rw [va_up_ne _ _ (by decide), va_up_ne _ _ (by decide), va_up_ne _ _ (by decide), va_up_self]) (As := [.int (iI 48)]) (rest := []) rfl (Nat.le_of_ble_eq_true rfl) ⟨by decide, by decide⟩ rfl ⟨by decide, by decide⟩ d_M_format_138 (c_M_say hfl (f := va_up (va_up f2 12 0) 18 ((w.length : Nat) : Int)) (v := v) (tt := t2) (w := w) (c := (48 : Nat)) hN (by rw [va_up_ne _ _ (by decide), va_up_ne _ _ (by decide), va_up_ne _ _ (by decide), va_up_self]) (by rw [va_up_self]) hm2 (va_up_self ..) (by omega)) (fun  F20 hq => ?_)
                  obtain ⟨tx48, hmt49, eF20⟩ := hq
                  refine J_eqF (F2 := va_up (va_up (va_up (va_up F 98 (oM ad (va_up (va_up f2 12 0) 18 (((w ++ [(48 : Nat)]).length : Nat) : Int)) v)) 99 (.inl (g 0, 858, .inl (aI bh3)))) 100 (.inl (g 0, 33, .inl (aI bl4)))) 107 (.inl (g 0, 260, .inl (aI tx48)))) ((eF20.trans (congrArg (fun qq : Nat → Int => va_up (va_up (va_up (va_up (va_up (va_up F 98 (oM ad (va_up (va_up f2 12 0) 18 ((w.length : Nat) : Int)) v)) 99 (.inl (g 0, 858, .inl (aI bh3)))) 100 (.inl (g 0, 33, .inl (aI bl4)))) 107 (.inl (g 0, 260, .inl (aI t2)))) 107 (.inl (g 0, 260, .inl (aI tx48)))) 98 (oM ad qq v)) (up_in0))).trans (Eq.trans (congrArg (fun qF : Nat → va_E => va_up qF 98 (oM ad (va_up (va_up f2 12 0) 18 (((w ++ [(48 : Nat)]).length : Nat) : Int)) v)) (up_in0)) (up_in3 (by decide) (by decide) (by decide)))) ?_
                  refine J_aload_n 0 d_M_format_141 rfl rfl ?_
                  refine J_aload_n 0 d_M_format_142 rfl rfl ?_
                  refine gf_M_345 (by omega) (by rw [va_up_ne _ _ (by decide), va_up_ne _ _ (by decide), va_up_ne _ _ (by decide), va_up_self]) rfl d_M_format_143 ?_
                  refine J_topi (r := (sTy ln kd : Int)) (congrArg iI ((va_up_ne _ _ (by decide)).trans ((va_up_ne _ _ (by decide)).trans hg29))) ?_
                  refine J_callVv cw_M_278 nh_M_say pn_M_say rfl rfl (by omega) (by rw [va_up_ne _ _ (by decide), va_up_ne _ _ (by decide), va_up_ne _ _ (by decide), va_up_self]) (As := [.int (iI (sTy ln kd : Int))]) (rest := []) rfl (Nat.le_of_ble_eq_true rfl) ⟨by decide, by decide⟩ rfl ⟨by decide, by decide⟩ d_M_format_146 (c_M_say hfl (f := va_up (va_up f2 12 0) 18 (((w ++ [(48 : Nat)]).length : Nat) : Int)) (v := v) (tt := tx48) (w := (w ++ [(48 : Nat)])) (c := (sTy ln kd)) hN (by rw [va_up_ne _ _ (by decide), va_up_ne _ _ (by decide), va_up_ne _ _ (by decide), va_up_self]) (by rw [va_up_self]) hmt49 (va_up_self ..) (by simp only [List.length_append, List.length_cons, List.length_nil]; omega)) (fun  F21 hq => ?_)
                  obtain ⟨tx50, hmt51, eF21⟩ := hq
                  refine J_eqF (F2 := va_up (va_up (va_up (va_up F 98 (oM ad (va_up (va_up f2 12 0) 18 ((((w ++ [(48 : Nat)]) ++ [sTy ln kd]).length : Nat) : Int)) v)) 99 (.inl (g 0, 858, .inl (aI bh3)))) 100 (.inl (g 0, 33, .inl (aI bl4)))) 107 (.inl (g 0, 260, .inl (aI tx50)))) ((eF21.trans (congrArg (fun qq : Nat → Int => va_up (va_up (va_up (va_up (va_up (va_up F 98 (oM ad (va_up (va_up f2 12 0) 18 (((w ++ [(48 : Nat)]).length : Nat) : Int)) v)) 99 (.inl (g 0, 858, .inl (aI bh3)))) 100 (.inl (g 0, 33, .inl (aI bl4)))) 107 (.inl (g 0, 260, .inl (aI tx48)))) 107 (.inl (g 0, 260, .inl (aI tx50)))) 98 (oM ad qq v)) (up_in0))).trans (Eq.trans (congrArg (fun qF : Nat → va_E => va_up qF 98 (oM ad (va_up (va_up f2 12 0) 18 ((((w ++ [(48 : Nat)]) ++ [sTy ln kd]).length : Nat) : Int)) v)) (up_in0)) (up_in3 (by decide) (by decide) (by decide)))) ?_
                  exact lab149 ((w ++ [(48 : Nat)]) ++ [sTy ln kd]) tx50 (by rw [if_pos ⟨by omega, by omega⟩]; exact List.append_assoc ..) (okT_le (okT_app (okT_app hwT (okT_one (by decide))) (okT_one (show sTy ln kd < 128 by omega))) (by decide)) hmt51
        have hmt0 : mtx tt ([] : List Nat) := fun j hj => absurd hj (Nat.not_lt_zero _)
        have hPl : sPl ln = 0 ∨ sPl ln = 43 ∨ sPl ln = 45 ∨ sPl ln = 32 := hPl
        refine J_eqF (F2 := va_up (va_up (va_up F 98 (oM ad (va_up (va_up f2 12 0) 18 ((([] : List Nat).length : Nat) : Int)) v)) 99 (.inl (g 0, 858, .inl (aI bh3)))) 100 (.inl (g 0, 33, .inl (aI bl4)))) (congrArg (fun qq : Int => va_up (va_up (va_up F 98 (oM ad (va_up (va_up f2 12 0) 18 qq) v)) 99 (.inl (g 0, 858, .inl (aI bh3)))) 100 (.inl (g 0, 33, .inl (aI bl4)))) (show 0 = ((([] : List Nat).length : Nat) : Int) from rfl)) ?_
        refine J_iload_n 0 d_M_format_62 rfl rfl ?_
        refine J_ifeq (tgt := 75) d_M_format_63 (by decide) ⟨by omega, by omega⟩ (fun c63 => ?_) (fun c63 => ?_)
        · refine J_aload_n 2 d_M_format_75 rfl rfl ?_
          refine gf_M_325 (by omega) (by rw [va_up_ne _ _ (by decide), va_up_ne _ _ (by decide), va_up_self]) rfl d_M_format_76 ?_
          refine J_topi (r := (sPl ln : Int)) (congrArg iI ((va_up_ne _ _ (by decide)).trans ((va_up_ne _ _ (by decide)).trans hg23))) ?_
          refine J_bipush d_M_format_79 (i8_ok (by decide)) ?_
          refine J_if_icmpeq (tgt := 93) d_M_format_81 (by decide) ⟨by omega, by omega⟩ ⟨by omega, by omega⟩ (fun c81 => ?_) (fun c81 => ?_)
          · refine J_aload_n 2 d_M_format_93 rfl rfl ?_
            refine J_aload_n 2 d_M_format_94 rfl rfl ?_
            refine gf_M_325 (by omega) (by rw [va_up_ne _ _ (by decide), va_up_ne _ _ (by decide), va_up_self]) rfl d_M_format_95 ?_
            refine J_topi (r := (sPl ln : Int)) (congrArg iI ((va_up_ne _ _ (by decide)).trans ((va_up_ne _ _ (by decide)).trans hg23))) ?_
            refine J_callVv cw_M_278 nh_M_say pn_M_say rfl rfl (by omega) (by rw [va_up_ne _ _ (by decide), va_up_ne _ _ (by decide), va_up_self]) (As := [.int (iI (sPl ln : Int))]) (rest := []) rfl (Nat.le_of_ble_eq_true rfl) ⟨by decide, by decide⟩ rfl ⟨by decide, by decide⟩ d_M_format_98 (c_M_say hfl (f := va_up (va_up f2 12 0) 18 ((([] : List Nat).length : Nat) : Int)) (v := v) (tt := tt) (w := ([] : List Nat)) (c := (sPl ln)) hN (by rw [va_up_ne _ _ (by decide), va_up_ne _ _ (by decide), va_up_self]) (by rw [va_up_ne _ _ (by decide), va_up_ne _ _ (by decide), va_up_ne _ _ (by decide)]; exact h107) hmt0 (va_up_self ..) (by decide)) (fun  F22 hq => ?_)
            obtain ⟨tx52, hmt53, eF22⟩ := hq
            refine J_eqF (F2 := va_up (va_up (va_up (va_up F 98 (oM ad (va_up (va_up f2 12 0) 18 (((([] : List Nat) ++ [sPl ln]).length : Nat) : Int)) v)) 99 (.inl (g 0, 858, .inl (aI bh3)))) 100 (.inl (g 0, 33, .inl (aI bl4)))) 107 (.inl (g 0, 260, .inl (aI tx52)))) ((eF22.trans (congrArg (fun qq : Nat → Int => va_up (va_up (va_up (va_up (va_up F 98 (oM ad (va_up (va_up f2 12 0) 18 ((([] : List Nat).length : Nat) : Int)) v)) 99 (.inl (g 0, 858, .inl (aI bh3)))) 100 (.inl (g 0, 33, .inl (aI bl4)))) 107 (.inl (g 0, 260, .inl (aI tx52)))) 98 (oM ad qq v)) (up_in0))).trans (up_in3 (by decide) (by decide) (by decide))) ?_
            refine J_pick (lv' := [(0, .ref (ad 98)), (1, .int (iI a)), (2, .int (iI 1)), (3, .int (iI mi))]) [2, 3, 1, 0] rfl ?_
            exact lab101 (([] : List Nat) ++ [sPl ln]) tx52 (by rw [if_neg (by omega), if_pos (by omega)]; rfl) (okT_one (by omega)) hmt53
          · refine J_aload_n 2 d_M_format_84 rfl rfl ?_
            refine gf_M_325 (by omega) (by rw [va_up_ne _ _ (by decide), va_up_ne _ _ (by decide), va_up_self]) rfl d_M_format_85 ?_
            refine J_topi (r := (sPl ln : Int)) (congrArg iI ((va_up_ne _ _ (by decide)).trans ((va_up_ne _ _ (by decide)).trans hg23))) ?_
            refine J_bipush d_M_format_88 (i8_ok (by decide)) ?_
            refine J_if_icmpne (tgt := 101) d_M_format_90 (by decide) ⟨by omega, by omega⟩ ⟨by omega, by omega⟩ (fun c90 => ?_) (fun c90 => ?_)
            · refine J_pick (lv' := [(0, .ref (ad 98)), (1, .int (iI a)), (2, .int (iI 1)), (3, .int (iI mi))]) [2, 3, 1, 0] rfl ?_
              refine J_eqF (F2 := va_up (va_up (va_up (va_up F 98 (oM ad (va_up (va_up f2 12 0) 18 ((([] : List Nat).length : Nat) : Int)) v)) 99 (.inl (g 0, 858, .inl (aI bh3)))) 100 (.inl (g 0, 33, .inl (aI bl4)))) 107 (.inl (g 0, 260, .inl (aI tt)))) (up_same1 (by rw [va_up_ne _ _ (by decide), va_up_ne _ _ (by decide), va_up_ne _ _ (by decide)]; exact h107)) ?_
              exact lab101 ([] : List Nat) tt (by rw [if_neg (by omega), if_neg (by omega)]) (okT_nil 1) hmt0
            · refine J_aload_n 2 d_M_format_93 rfl rfl ?_
              refine J_aload_n 2 d_M_format_94 rfl rfl ?_
              refine gf_M_325 (by omega) (by rw [va_up_ne _ _ (by decide), va_up_ne _ _ (by decide), va_up_self]) rfl d_M_format_95 ?_
              refine J_topi (r := (sPl ln : Int)) (congrArg iI ((va_up_ne _ _ (by decide)).trans ((va_up_ne _ _ (by decide)).trans hg23))) ?_
              refine J_callVv cw_M_278 nh_M_say pn_M_say rfl rfl (by omega) (by rw [va_up_ne _ _ (by decide), va_up_ne _ _ (by decide), va_up_self]) (As := [.int (iI (sPl ln : Int))]) (rest := []) rfl (Nat.le_of_ble_eq_true rfl) ⟨by decide, by decide⟩ rfl ⟨by decide, by decide⟩ d_M_format_98 (c_M_say hfl (f := va_up (va_up f2 12 0) 18 ((([] : List Nat).length : Nat) : Int)) (v := v) (tt := tt) (w := ([] : List Nat)) (c := (sPl ln)) hN (by rw [va_up_ne _ _ (by decide), va_up_ne _ _ (by decide), va_up_self]) (by rw [va_up_ne _ _ (by decide), va_up_ne _ _ (by decide), va_up_ne _ _ (by decide)]; exact h107) hmt0 (va_up_self ..) (by decide)) (fun  F23 hq => ?_)
              obtain ⟨tx54, hmt55, eF23⟩ := hq
              refine J_eqF (F2 := va_up (va_up (va_up (va_up F 98 (oM ad (va_up (va_up f2 12 0) 18 (((([] : List Nat) ++ [sPl ln]).length : Nat) : Int)) v)) 99 (.inl (g 0, 858, .inl (aI bh3)))) 100 (.inl (g 0, 33, .inl (aI bl4)))) 107 (.inl (g 0, 260, .inl (aI tx54)))) ((eF23.trans (congrArg (fun qq : Nat → Int => va_up (va_up (va_up (va_up (va_up F 98 (oM ad (va_up (va_up f2 12 0) 18 ((([] : List Nat).length : Nat) : Int)) v)) 99 (.inl (g 0, 858, .inl (aI bh3)))) 100 (.inl (g 0, 33, .inl (aI bl4)))) 107 (.inl (g 0, 260, .inl (aI tx54)))) 98 (oM ad qq v)) (up_in0))).trans (up_in3 (by decide) (by decide) (by decide))) ?_
              refine J_pick (lv' := [(0, .ref (ad 98)), (1, .int (iI a)), (2, .int (iI 1)), (3, .int (iI mi))]) [2, 3, 1, 0] rfl ?_
              exact lab101 (([] : List Nat) ++ [sPl ln]) tx54 (by rw [if_neg (by omega), if_pos (by omega)]; rfl) (okT_one (by omega)) hmt55
        · refine J_aload_n 2 d_M_format_66 rfl rfl ?_
          refine J_bipush d_M_format_67 (i8_ok (by decide)) ?_
          refine J_callVv cw_M_278 nh_M_say pn_M_say rfl rfl (by omega) (by rw [va_up_ne _ _ (by decide), va_up_ne _ _ (by decide), va_up_self]) (As := [.int (iI 45)]) (rest := []) rfl (Nat.le_of_ble_eq_true rfl) ⟨by decide, by decide⟩ rfl ⟨by decide, by decide⟩ d_M_format_69 (c_M_say hfl (f := va_up (va_up f2 12 0) 18 ((([] : List Nat).length : Nat) : Int)) (v := v) (tt := tt) (w := ([] : List Nat)) (c := (45 : Nat)) hN (by rw [va_up_ne _ _ (by decide), va_up_ne _ _ (by decide), va_up_self]) (by rw [va_up_ne _ _ (by decide), va_up_ne _ _ (by decide), va_up_ne _ _ (by decide)]; exact h107) hmt0 (va_up_self ..) (by decide)) (fun  F24 hq => ?_)
          obtain ⟨tx56, hmt57, eF24⟩ := hq
          refine J_eqF (F2 := va_up (va_up (va_up (va_up F 98 (oM ad (va_up (va_up f2 12 0) 18 (((([] : List Nat) ++ [(45 : Nat)]).length : Nat) : Int)) v)) 99 (.inl (g 0, 858, .inl (aI bh3)))) 100 (.inl (g 0, 33, .inl (aI bl4)))) 107 (.inl (g 0, 260, .inl (aI tx56)))) ((eF24.trans (congrArg (fun qq : Nat → Int => va_up (va_up (va_up (va_up (va_up F 98 (oM ad (va_up (va_up f2 12 0) 18 ((([] : List Nat).length : Nat) : Int)) v)) 99 (.inl (g 0, 858, .inl (aI bh3)))) 100 (.inl (g 0, 33, .inl (aI bl4)))) 107 (.inl (g 0, 260, .inl (aI tx56)))) 98 (oM ad qq v)) (up_in0))).trans (up_in3 (by decide) (by decide) (by decide))) ?_
          refine J_goto (tgt := 101) d_M_format_72 (by decide) ?_
          refine J_pick (lv' := [(0, .ref (ad 98)), (1, .int (iI a)), (2, .int (iI 1)), (3, .int (iI mi))]) [2, 3, 1, 0] rfl ?_
          exact lab101 (([] : List Nat) ++ [(45 : Nat)]) tx56 (by rw [if_pos (by omega)]; rfl) (okT_one (by omega)) hmt57
      · exact absurd c38 (by decide)
