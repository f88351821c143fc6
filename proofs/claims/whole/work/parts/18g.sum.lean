/-! the class: sum -/

theorem cV_r {R : Nat → Vn} {W : Nat → Nat} {K S : Nat → Int} {r p : Nat} (h : cV R W K S) (hr : r < 8) (hp : p = 58 + 5 * r) : isU p ∧ 58 ≤ p ∧ p ≤ 93 ∧ K p = (R r).1 ∧ ((R r).1 ≠ -1 → S p = (R r).2.1 ∧ W (p + 1) = (R r).2.2.1 ∧ W (p + 3) = (R r).2.2.2) := by
  subst hp
  exact ⟨isU_58 hr, by omega, by omega, (h.2.2 r hr).1, (h.2.2 r hr).2.2⟩
theorem smT_c {w : Vn} (h : okv w) (hk : w.1 ≠ -1) (h1 : w.1 ≠ 1) : smT w < 2 ^ 272 ∧ blen w.2.2.2 ≤ 480 ∧ (-1 ≤ w.2.1 ∧ w.2.1 ≤ 1) ∧ (w.2.1 = 0 → smT w = 0) := by
  obtain ⟨kd, s, u, d⟩ := w
  obtain ⟨k, hk2, hk3⟩ := okv_y h hk h1
  obtain ⟨a1, a2, a3, a4, a5, a6, a7, a8, a9, a10⟩ := okv_b h hk
  have hxy := xy_b a2 a1 a9 a10
  have hbl : blen d = k + 1 := by rw [show d = 2 ^ k from hk2]; exact blen_pw k
  refine ⟨?_, by show blen d ≤ 480; omega, a3, fun q => ?_⟩
  · show u * 2 ^ (152 - ((blen d : Int) - 1)).toNat < 2 ^ 272
    have e : (152 - ((blen d : Int) - 1)).toNat = 152 - k := by omega
    rw [e]
    have h2 : u < 2 ^ 120 * 2 ^ k := by rw [← show d = 2 ^ k from hk2]; exact hxy
    have h3 := Nat.mul_lt_mul_of_pos_right h2 (Nat.two_pow_pos (152 - k))
    rw [Nat.mul_assoc, ← Nat.pow_add, show k + (152 - k) = 152 by omega, ← Nat.pow_add] at h3
    exact h3
  · show u * _ = 0
    rw [a8.mp q, Nat.zero_mul]
theorem sum_L {a b i : Nat} (h : hold (a ≤ i * 2 ^ 272 ∧ b ≤ i * 2 ^ 272)) (hi : i ≤ 8) : a < 2 ^ 276 ∧ b < 2 ^ 276 := by
  have h2 : i * 2 ^ 272 ≤ 8 * 2 ^ 272 := Nat.mul_le_mul_right _ hi
  have h3 : a ≤ i * 2 ^ 272 := h.1
  have h4 : b ≤ i * 2 ^ 272 := h.2
  exact ⟨Nat.lt_of_le_of_lt (Nat.le_trans h3 h2) (by decide), Nat.lt_of_le_of_lt (Nat.le_trans h4 h2) (by decide)⟩
theorem sum_st {a b i t a' b' : Nat} (h : hold (a ≤ i * 2 ^ 272 ∧ b ≤ i * 2 ^ 272)) (ht : hold (t < 2 ^ 272)) (ha : a' = a ∨ a' = a + t) (hb : b' = b ∨ b' = b + t) : hold (a' ≤ (i + 1) * 2 ^ 272 ∧ b' ≤ (i + 1) * 2 ^ 272) := by
  have h1 : a ≤ i * 2 ^ 272 := h.1
  have h2 : b ≤ i * 2 ^ 272 := h.2
  have h3 : t < 2 ^ 272 := ht
  show a' ≤ (i + 1) * 2 ^ 272 ∧ b' ≤ (i + 1) * 2 ^ 272
  have h4 : (i + 1) * 2 ^ 272 = i * 2 ^ 272 + 2 ^ 272 := Nat.succ_mul _ _
  rw [h4]
  generalize i * 2 ^ 272 = p at h1 h2 ⊢
  generalize 2 ^ 272 = q at h3 ⊢
  omega
theorem sum_sk {a b i : Nat} (h : hold (a ≤ i * 2 ^ 272 ∧ b ≤ i * 2 ^ 272)) : hold (a ≤ (i + 1) * 2 ^ 272 ∧ b ≤ (i + 1) * 2 ^ 272) :=
  sum_st h (t := 0) (show 0 < 2 ^ 272 from Nat.two_pow_pos _) (Or.inl rfl) (Or.inl rfl)
theorem sumP_s {R : Nat → Vn} {sn i : Nat} : sumP R sn (i + 1) = if sn / 2 ^ i % 2 = 1 ∧ (R i).1 ≠ -1 ∧ 0 ≤ (R i).2.1 then sumP R sn i + smT (R i) else sumP R sn i := rfl
theorem sumN_s {R : Nat → Vn} {sn i : Nat} : sumN R sn (i + 1) = if sn / 2 ^ i % 2 = 1 ∧ (R i).1 ≠ -1 ∧ (R i).2.1 < 0 then sumN R sn i + smT (R i) else sumN R sn i := rfl
set_option maxRecDepth 100000 in
set_option maxHeartbeats 4000000 in
theorem c_X_holdsRatio {l : Launch} (hfl : l.flags = flags0) {D : va_G} {g : Nat → ClassId} {ad : Nat → Nat} {N : Nat} {F0 : Nat → va_E} {W : Nat → Nat} {K S : Nat → Int} {rf : Nat → Option Nat} {R : Nat → Vn} {sn : Nat}
    (hN : 109 ≤ N) (hW : bW W) (hX0 : F0 0 = .inr (0, [.ref (ad 1), .ref (ad 2), .ref (ad 7), .ref (ad 9), .ref (ad 41), .ref (ad 42), .ref (ad 43)])) (hX1 : F0 1 = .inl (g 4, 8, .inr (.inr (.inr (.inr rf))))) (hrf : ∀ j, j < 8 → rf j = some (ad (58 + 5 * j))) (hV : cV R W K S) (hRk : ∀ r, r < 8 → -1 ≤ (R r).1 ∧ (R r).1 ≤ 2) (hsn : sn ≤ 255) :
    JC l y_X_holdsRatio b_X_holdsRatio 3 (Option.some Jvm.ClassFile.FieldType.boolean) rm_X_holdsRatio (0, 0) D jCl (jTys g) ad N (cF ad g F0 W K S) [.ref (ad 0), .int (iI (sn : Int))] (ji ad N (fun z F' => ((z = 1 ∧ ∃ i, i < 8 ∧ sn / 2 ^ i % 2 = 1 ∧ (R i).1 = 1) ∨ (z = 0 ∧ ∀ i, i < 8 → sn / 2 ^ i % 2 = 1 → (R i).1 ≠ 1)) ∧ F' = cF ad g F0 W K S)) := by
  replace hRk : hold _ := hRk
  refine JC.go hfl (own := "NumberTower") (lv := [(0, .ref (ad 0)), (1, .int (iI (sn : Int)))]) rfl (by decide +kernel) (Nat.le_of_ble_eq_true rfl) rfl (fun A => ?_)
  refine J_iconst d_X_holdsRatio_0 ?_
  refine J_istore_n (lv' := [(2, .int (iI 0)), (0, .ref (ad 0)), (1, .int (iI (sn : Int)))]) d_X_holdsRatio_1 rfl (by decide) rfl ?_
  refine J_pick (lv' := [(0, .ref (ad 0)), (1, .int (iI (sn : Int))), (2, .int (iI 0))]) [1, 2, 0] rfl ?_
  have loop2 : ∀ (fuel : Nat) (i : Nat) (hi : i ≤ 8) (hno : ∀ j, j < i → sn / 2 ^ j % 2 = 1 → (R j).1 ≠ 1) (hfu : 8 - i < fuel), J l rm_X_holdsRatio (0, 0) "NumberTower" b_X_holdsRatio 3 (Option.some Jvm.ClassFile.FieldType.boolean) D jCl (jTys g) A (fun _ me => me.name = y_X_holdsRatio.name) (ji ad N (fun z F' => ((z = 1 ∧ ∃ i, i < 8 ∧ sn / 2 ^ i % 2 = 1 ∧ (R i).1 = 1) ∨ (z = 0 ∧ ∀ i, i < 8 → sn / 2 ^ i % 2 = 1 → (R i).1 ≠ 1)) ∧ F' = cF ad g F0 W K S)) ad N 0 0 2 [(0, .ref (ad 0)), (1, .int (iI (sn : Int))), (2, .int (iI (i : Int)))] [] (cF ad g F0 W K S) := by
    intro fuel
    induction fuel with
    | zero => intro i hi hno hfu; exact absurd hfu (Nat.not_lt_zero _)
    | succ fuel ih =>
      intro i hi hno hfu
      replace hno : hold _ := hno
      refine J_iload_n 2 d_X_holdsRatio_2 rfl rfl ?_
      refine J_bipush d_X_holdsRatio_3 (i8_ok (by decide)) ?_
      refine J_if_icmpge (tgt := 37) d_X_holdsRatio_5 (by decide) ⟨by omega, by omega⟩ ⟨by omega, by omega⟩ (fun c5 => ?_) (fun c5 => ?_)
      · refine J_iconst d_X_holdsRatio_37 ?_
        refine J_iret rfl (nb01 (by omega)).1 d_X_holdsRatio_38 ⟨by decide, by decide⟩ ?_
        unfold hold at hno
        exact ⟨_, rfl, rfl, rfl, Or.inr ⟨rfl, fun j hj => hno j (by omega)⟩, rfl⟩
      · refine J_iload_n 1 d_X_holdsRatio_8 rfl rfl ?_
        refine J_iload_n 2 d_X_holdsRatio_9 rfl rfl ?_
        refine J_ishr (r := ((sn / 2 ^ i : Nat) : Int)) d_X_holdsRatio_10 (iI_shrn (by omega) i (by omega)) ?_
        refine J_iconst d_X_holdsRatio_11 ?_
        refine J_iand (r := (((sn / 2 ^ i) % 2 : Nat) : Int)) d_X_holdsRatio_12 (iI_andn 1 (by decide)) ?_
        obtain ⟨bt, hbt⟩ : ∃ bt, bt = sn / 2 ^ i % 2 := ⟨_, rfl⟩
        have hbt2 : bt < 2 := by rw [hbt]; exact Nat.mod_lt _ (by decide)
        refine J_topi (r := (bt : Int)) (congrArg iI (by rw [hbt])) ?_
        refine J_ifeq (tgt := 31) d_X_holdsRatio_13 (by decide) ⟨by omega, by omega⟩ (fun c13 => ?_) (fun c13 => ?_)
        · refine J_iinc (j := 2) (b := (i : Int) + 1) (lv' := [(2, .int (iI ((i : Int) + 1))), (0, .ref (ad 0)), (1, .int (iI (sn : Int)))]) d_X_holdsRatio_31 rfl (by omega) (by decide) rfl ?_
          refine J_goto (tgt := 2) d_X_holdsRatio_34 (by decide) ?_
          refine J_pick (lv' := [(0, .ref (ad 0)), (1, .int (iI (sn : Int))), (2, .int (iI ((i : Int) + 1)))]) [1, 2, 0] rfl ?_
          refine ih (i + 1) (by omega) ?_ (by omega)
          · unfold hold at hno
            intro j hj hb
            by_cases c : j = i
            · subst c
              omega
            · exact hno j (by omega) hb
        · obtain ⟨p, hp⟩ : ∃ p, p = 58 + 5 * i := ⟨_, rfl⟩
          obtain ⟨hpU, hp58, hp93, hkp, hpv⟩ := cV_r hV (show i < 8 by omega) hp
          have hpL := (isU_1 hpU).1
          refine J_aload_n 0 d_X_holdsRatio_16 rfl rfl ?_
          refine gf_X_11 (by omega) ((cF_0 (by decide)).trans hX0) rfl d_X_holdsRatio_17 ?_
          refine J_iload_n 2 d_X_holdsRatio_20 rfl rfl ?_
          refine J_aaload 4 rfl (by omega) ((cF_0 (by decide)).trans hX1) (by omega) (show rf i = some (ad p) from by rw [hp]; exact hrf i (by omega)) d_X_holdsRatio_21 ?_
          refine gf_X_157 (by omega) (cF_U hpU hkp rfl) rfl d_X_holdsRatio_22 ?_
          have hRi := hRk i (by omega)
          refine J_iconst d_X_holdsRatio_25 ?_
          refine J_if_icmpne (tgt := 31) d_X_holdsRatio_26 (by decide) ⟨by omega, by omega⟩ ⟨by omega, by omega⟩ (fun c26 => ?_) (fun c26 => ?_)
          · refine J_iinc (j := 2) (b := (i : Int) + 1) (lv' := [(2, .int (iI ((i : Int) + 1))), (0, .ref (ad 0)), (1, .int (iI (sn : Int)))]) d_X_holdsRatio_31 rfl (by omega) (by decide) rfl ?_
            refine J_goto (tgt := 2) d_X_holdsRatio_34 (by decide) ?_
            refine J_pick (lv' := [(0, .ref (ad 0)), (1, .int (iI (sn : Int))), (2, .int (iI ((i : Int) + 1)))]) [1, 2, 0] rfl ?_
            refine ih (i + 1) (by omega) ?_ (by omega)
            · unfold hold at hno
              intro j hj hb
              by_cases c : j = i
              · subst c
                exact fun q => absurd q (by omega)
              · exact hno j (by omega) hb
          · refine J_iconst d_X_holdsRatio_29 ?_
            refine J_iret rfl (nb01 (by omega)).1 d_X_holdsRatio_30 ⟨by decide, by decide⟩ ?_
            exact ⟨_, rfl, rfl, rfl, Or.inl ⟨rfl, i, by omega, by omega, by omega⟩, rfl⟩
  exact loop2 ((8 - 0) + 1) 0 (by omega) (fun j hj => absurd hj (Nat.not_lt_zero _)) (Nat.lt_succ_self _)
set_option maxRecDepth 100000 in
set_option maxHeartbeats 4000000 in
theorem c_X_sum {l : Launch} (hfl : l.flags = flags0) {D : va_G} {g : Nat → ClassId} {ad : Nat → Nat} {N : Nat} {F : Nat → va_E} {R : Nat → Vn} {ln sh : List Nat} {set to : Int}
    (hN : 109 ≤ N) (hC : cst ad g R ln sh F) (hok : ∀ r, r < 8 → okv (R r)) (hse : inI set) (hto : inI to) :
    JC l y_X_sum b_X_sum 4 (Option.some Jvm.ClassFile.FieldType.int) rm_X_sum (0, 0) D jCl (jTys g) ad N F [.ref (ad 0), .int (iI set), .int (iI to)] (QXp ad N g R ln sh to (sumR R set to) F) := by
  obtain ⟨F0, W, K, S, hS, hV, hFc⟩ := hC
  have hS0 := hS
  obtain ⟨hX0, ⟨rf, hX1, hrf⟩, hDk, ⟨hl7, hT7, hln, hA7, tt7⟩, ⟨hl40, hch⟩, ⟨ra, rt, hRd⟩, ⟨x1, x2, x3, x4, x5, x6, x7, x8, x9, x10, hSp⟩, ⟨ex, hPn⟩, ⟨hl44, hT44, hsh, hA44, tt44⟩, ⟨wH, hl46, hT46, hH, hA46, tt46⟩, ⟨wB, hl48, hT48, hB, hA48, tt48⟩, ⟨wD, hl50, hT50, hD, hA50, tt50⟩⟩ := hS0
  have hW := hV.1
  
  have hRk : ∀ r, r < 8 → -1 ≤ (R r).1 ∧ (R r).1 ≤ 2 := fun r hr => by
    rcases hok r hr with w | w
    · omega
    · omega
  refine JC.go hfl (own := "NumberTower") (lv := [(0, .ref (ad 0)), (1, .int (iI set)), (2, .int (iI to))]) rfl (by decide +kernel) (Nat.le_of_ble_eq_true rfl) rfl (fun A => ?_)
  refine J_eqF (F2 := cF ad g F0 W K S) hFc ?_
  refine J_iload_n 1 d_X_sum_0 rfl rfl ?_
  refine J_iflt (tgt := 26) d_X_sum_1 (by decide) ⟨by omega, by omega⟩ (fun c1 => ?_) (fun c1 => ?_)
  · refine J_throw (k := 0) (by decide) wd_525 wd_526 wd_15 wd_567 (List.mem_of_getElem? (i := 9) rfl) d_X_sum_26 d_X_sum_29 d_X_sum_30 d_X_sum_32 d_X_sum_35 ⟨by decide, by decide⟩ (by decide) (by decide) ?_
    exact Or.inr ⟨_, rfl, rfl, rfl, Or.inl ⟨(fun q => by have q1 := q.1; have q2 := q.2.1; clear q; omega), rfl⟩, ⟨_, _, _, _, hS, hV, rfl⟩, (offC_e hFc (fun j hj => by rfl))⟩
  · refine J_iload_n 1 d_X_sum_4 rfl rfl ?_
    refine J_sipush d_X_sum_5 (i16_ok (by decide)) ?_
    refine J_if_icmpgt (tgt := 26) d_X_sum_8 (by decide) ⟨by omega, by omega⟩ ⟨by omega, by omega⟩ (fun c8 => ?_) (fun c8 => ?_)
    · refine J_throw (k := 0) (by decide) wd_525 wd_526 wd_15 wd_567 (List.mem_of_getElem? (i := 9) rfl) d_X_sum_26 d_X_sum_29 d_X_sum_30 d_X_sum_32 d_X_sum_35 ⟨by decide, by decide⟩ (by decide) (by decide) ?_
      exact Or.inr ⟨_, rfl, rfl, rfl, Or.inl ⟨(fun q => by have q1 := q.1; have q2 := q.2.1; clear q; omega), rfl⟩, ⟨_, _, _, _, hS, hV, rfl⟩, (offC_e hFc (fun j hj => by rfl))⟩
    · refine J_iload_n 2 d_X_sum_11 rfl rfl ?_
      refine J_callSi cw_X_75 nh_X_isRegister pn_X_isRegister rfl (As := [.int (iI to)]) (rest := []) rfl (Nat.le_of_ble_eq_true rfl) ⟨by decide, by decide⟩ rfl ⟨by decide, by decide⟩ d_X_sum_12 (c_X_isRegister hfl (r := to) (by omega)) (fun z1 F1 hq => ?_)
      obtain ⟨hz1, eF1⟩ := hq
      refine J_eqF eF1 ?_
      refine J_ifeq (tgt := 26) d_X_sum_15 (by decide) ⟨by omega, by omega⟩ (fun c15 => ?_) (fun c15 => ?_)
      · refine J_throw (k := 0) (by decide) wd_525 wd_526 wd_15 wd_567 (List.mem_of_getElem? (i := 9) rfl) d_X_sum_26 d_X_sum_29 d_X_sum_30 d_X_sum_32 d_X_sum_35 ⟨by decide, by decide⟩ (by decide) (by decide) ?_
        exact Or.inr ⟨_, rfl, rfl, rfl, Or.inl ⟨(fun q => by have q1 := q.1; have q2 := q.2.1; clear q; omega), rfl⟩, ⟨_, _, _, _, hS, hV, rfl⟩, (offC_e hFc (fun j hj => by rfl))⟩
      · refine J_aload_n 0 d_X_sum_18 rfl rfl ?_
        refine J_iload_n 1 d_X_sum_19 rfl rfl ?_
        obtain ⟨sn, hsn⟩ : ∃ sn : Nat, set = (sn : Int) := ⟨set.toNat, by omega⟩
        have hsnt : set.toNat = sn := by omega
        refine J_topi (r := (sn : Int)) (congrArg iI hsn) ?_
        refine J_callVi cw_X_186 nh_X_holdsRatio pn_X_holdsRatio rfl rfl (by omega) ((cF_0 (by decide)).trans hX0) (As := [.int (iI (sn : Int))]) (rest := []) rfl (Nat.le_of_ble_eq_true rfl) ⟨by decide, by decide⟩ rfl ⟨by decide, by decide⟩ d_X_sum_20 (c_X_holdsRatio hfl (F0 := F0) (W := W) (K := K) (S := S) (R := R) (sn := sn) hN hW (hX0) (hX1) hrf hV hRk (by omega)) (fun zr F2 hq => ?_)
        obtain ⟨hhr, eF2⟩ := hq
        refine J_eqF eF2 ?_
        have hzr : zr = 0 ∨ zr = 1 := by
          rcases hhr with w | w
          · exact Or.inr w.1
          · exact Or.inl w.1
        replace hhr : hold _ := hhr
        refine J_ifeq (tgt := 36) d_X_sum_23 (by decide) ⟨by omega, by omega⟩ (fun c23 => ?_) (fun c23 => ?_)
        · have hnr := hhr
          unfold hold at hnr
          obtain ⟨-, hnr⟩ := hnr.resolve_left (fun w => by omega)
          replace hnr : hold _ := hnr
          refine J_aload_n 0 d_X_sum_36 rfl rfl ?_
          refine gf_X_30 (by omega) ((cF_0 (by decide)).trans hX0) rfl d_X_sum_37 ?_
          refine J_callVv cw_X_191 nh_D_startSum pn_D_startSum rfl rfl (by omega) ((cF_0 (by decide)).trans hDk) (As := []) (rest := []) rfl (Nat.le_of_ble_eq_true rfl) ⟨by decide, by decide⟩ rfl ⟨by decide, by decide⟩ d_X_sum_40 (c_D_startSum hfl (F0 := F0) (W := W) (K := K) (S := S) hN hW (hDk)) (fun  F3 hq => ?_)
          obtain ⟨hWs, eFs⟩ := hq
          refine J_eqF (F2 := cF ad g F0 (va_up (va_up W 27 0) 29 0) K S) eFs ?_
          refine J_iconst d_X_sum_43 ?_
          refine J_istore_n (lv' := [(3, .int (iI 0)), (0, .ref (ad 0)), (1, .int (iI set)), (2, .int (iI to))]) d_X_sum_44 rfl (by decide) rfl ?_
          refine J_pick (lv' := [(0, .ref (ad 0)), (1, .int (iI set)), (2, .int (iI to)), (3, .int (iI 0))]) [1, 2, 3, 0] rfl ?_
          have loop45 : ∀ (fuel : Nat) (i : Nat) (a : Nat) (b : Nat) (W1 : Nat → Nat) (hi : i ≤ 8) (ha : hold (a = sumP R sn i)) (hbb : hold (b = sumN R sn i)) (hab : hold (a ≤ i * 2 ^ 272 ∧ b ≤ i * 2 ^ 272)) (hW1 : bW W1) (hf1 : ∀ j, j ≠ 27 → j ≠ 29 → j ≠ 31 → W1 j = W j) (h27 : W1 27 = a) (h29 : W1 29 = b) (hfu : 8 - i < fuel), J l rm_X_sum (0, 0) "NumberTower" b_X_sum 4 (Option.some Jvm.ClassFile.FieldType.int) D jCl (jTys g) A (fun _ me => me.name = y_X_sum.name) (QXp ad N g R ln sh to (sumR R set to) F) ad N 0 0 45 [(0, .ref (ad 0)), (1, .int (iI set)), (2, .int (iI to)), (3, .int (iI (i : Int)))] [] (cF ad g F0 W1 K S) := by
            intro fuel
            induction fuel with
            | zero => intro i a b W1 hi ha hbb hab hW1 hf1 h27 h29 hfu; exact absurd hfu (Nat.not_lt_zero _)
            | succ fuel ih =>
              intro i a b W1 hi ha hbb hab hW1 hf1 h27 h29 hfu
              have hV1 : cV R W1 K S := cV_fr hV hW1 (fun j hj => ⟨hf1 j (by omega) (by omega) (by omega), rfl, rfl⟩)
              refine J_iload_n 3 d_X_sum_45 rfl rfl ?_
              refine J_bipush d_X_sum_46 (i8_ok (by decide)) ?_
              refine J_if_icmpge (tgt := 90) d_X_sum_48 (by decide) ⟨by omega, by omega⟩ ⟨by omega, by omega⟩ (fun c48 => ?_) (fun c48 => ?_)
              · refine J_aload_n 0 d_X_sum_90 rfl rfl ?_
                refine gf_X_30 (by omega) ((cF_0 (by decide)).trans hX0) rfl d_X_sum_91 ?_
                have hi8 : i = 8 := by omega
                unfold hold at ha hbb
                rw [hi8] at ha hbb
                unfold hold at hnr
                have hSC : sumC R set to := ⟨⟨by omega, by omega⟩, ⟨by omega, by omega⟩, fun j hj hb => hnr j hj (by rw [← hsnt]; exact hb)⟩
                have hSV : sumV (sumP R set.toNat 8) (sumN R set.toNat 8) = fin 2 (if b ≤ a then 1 else -1) (if b ≤ a then a - b else b - a) (1 * 2 ^ (152 : Int).toNat) := by rw [hsnt, ← ha, ← hbb]; rfl
                refine J_callVvx cw_X_198 nh_D_finishSum pn_D_finishSum rfl rfl (by omega) ((cF_0 (by decide)).trans hDk) (As := []) (rest := []) rfl (Nat.le_of_ble_eq_true rfl) ⟨by decide, by decide⟩ rfl ⟨by decide, by decide⟩ d_X_sum_94 (c_D_finishSum hfl (F0 := F0) (W := W1) (K := K) (S := S) (a := a) (b := b) hN hW1 (hDk) h27 h29 ⟨Nat.lt_trans (sum_L hab hi).1 (by decide), Nat.lt_trans (sum_L hab hi).2 (by decide)⟩) (fun  F19 hq => ?_) (fun k9 F9 hq => by obtain ⟨hq1, hq2, hq3⟩ := QX_thr (r := fin 2 (if b ≤ a then 1 else -1) (if b ≤ a then a - b else b - a) (1 * 2 ^ (152 : Int).toNat)) (rfl : optO _ = optO _) hFc hS hV1 (fun j hj => by rfl) hq; exact Or.inr ⟨_, rfl, rfl, rfl, Or.inr ⟨hSC, by rw [hSV]; exact hq1.symm⟩, hq2, hq3⟩)
                obtain ⟨kd4, sx5, u6, d7, W8, K9, S10, hr11, hb12, hf13, hk14, hs15, hu16, hd17, eF18⟩ := hq
                refine J_eqF (F2 := cF ad g F0 W8 K9 S10) eF18 ?_
                have hkn9 : kd4 ≠ -1 := (by have q9 : kd4 = 2 := fin_k hr11; omega)
                refine J_aload_n 0 d_X_sum_97 rfl rfl ?_
                refine J_iload_n 2 d_X_sum_98 rfl rfl ?_
                refine J_callVi cw_X_107 nh_X_keep pn_X_keep rfl rfl (by omega) ((cF_0 (by decide)).trans hX0) (As := [.int (iI to)]) (rest := []) rfl (Nat.le_of_ble_eq_true rfl) ⟨by decide, by decide⟩ rfl ⟨by decide, by decide⟩ d_X_sum_99 (c_X_keep hfl (F0 := F0) (W := W8) (K := K9) (S := S10) (to := to) (r := to.toNat) (u := u6) (d := d7) (q := 58 + 5 * to.toNat) (kd := kd4) (sx := sx5) hN hb12 (hX0) (hX1) hrf (hDk) ⟨by omega, by omega⟩ rfl rfl hk14 hs15 hu16 hd17) (fun z22 F23 hq => ?_)
                obtain ⟨hz22, hb20, eF21⟩ := hq
                refine J_eqF (F2 := cF ad g F0 (va_up (va_up W8 (58 + 5 * to.toNat + 1) u6) (58 + 5 * to.toNat + 3) d7) (va_up K9 (58 + 5 * to.toNat) kd4) (va_up S10 (58 + 5 * to.toNat) sx5)) eF21 ?_
                refine J_topi (r := kd4) (congrArg iI hz22) ?_
                refine J_iret rfl rfl d_X_sum_102 ⟨by decide, by decide⟩ ?_
                exact Or.inl ⟨_, rfl, rfl, rfl, (kd4, sx5, u6, d7), Or.inr ⟨hSC, by rw [hSV, hr11]; rfl⟩, rfl, ⟨_, _, _, _, hS, (cV_put (cV_fr hV1 hb12 (fun j hj => hf13 j (by omega))) (by omega) hb20 hkn9), rfl⟩, (offC_e hFc (fun j hj => by rfl))⟩
              · refine J_iload_n 1 d_X_sum_51 rfl rfl ?_
                refine J_topi (r := (sn : Int)) (congrArg iI hsn) ?_
                refine J_iload_n 3 d_X_sum_52 rfl rfl ?_
                refine J_ishr (r := ((sn / 2 ^ i : Nat) : Int)) d_X_sum_53 (iI_shrn (by omega) i (by omega)) ?_
                refine J_iconst d_X_sum_54 ?_
                refine J_iand (r := (((sn / 2 ^ i) % 2 : Nat) : Int)) d_X_sum_55 (iI_andn 1 (by decide)) ?_
                obtain ⟨bt, hbt⟩ : ∃ bt, bt = sn / 2 ^ i % 2 := ⟨_, rfl⟩
                have hbt2 : bt < 2 := by rw [hbt]; exact Nat.mod_lt _ (by decide)
                refine J_topi (r := (bt : Int)) (congrArg iI (by rw [hbt])) ?_
                refine J_ifeq (tgt := 84) d_X_sum_56 (by decide) ⟨by omega, by omega⟩ (fun c56 => ?_) (fun c56 => ?_)
                · refine J_iinc (j := 3) (b := (i : Int) + 1) (lv' := [(3, .int (iI ((i : Int) + 1))), (0, .ref (ad 0)), (1, .int (iI set)), (2, .int (iI to))]) d_X_sum_84 rfl (by omega) (by decide) rfl ?_
                  refine J_goto (tgt := 45) d_X_sum_87 (by decide) ?_
                  refine J_pick (lv' := [(0, .ref (ad 0)), (1, .int (iI set)), (2, .int (iI to)), (3, .int (iI ((i : Int) + 1)))]) [1, 2, 3, 0] rfl ?_
                  refine ih (i + 1) a b W1 (by omega) ?_ ?_ (sum_sk hab) hW1 hf1 h27 h29 (by omega)
                  · unfold hold at ha hbb ⊢
                    rw [sumP_s, if_neg (fun q => by have q1 := q.1; have q2 := q.2.1; clear q ha hbb; omega)]
                    exact ha
                  · unfold hold at ha hbb ⊢
                    rw [sumN_s, if_neg (fun q => by have q1 := q.1; have q2 := q.2.1; clear q ha hbb; omega)]
                    exact hbb
                · obtain ⟨p, hp⟩ : ∃ p, p = 58 + 5 * i := ⟨_, rfl⟩
                  obtain ⟨hpU, hp58, hp93, hkp, hpv⟩ := cV_r hV1 (show i < 8 by omega) hp
                  have hpL := (isU_1 hpU).1
                  refine J_aload_n 0 d_X_sum_59 rfl rfl ?_
                  refine gf_X_11 (by omega) ((cF_0 (by decide)).trans hX0) rfl d_X_sum_60 ?_
                  refine J_iload_n 3 d_X_sum_63 rfl rfl ?_
                  refine J_aaload 4 rfl (by omega) ((cF_0 (by decide)).trans hX1) (by omega) (show rf i = some (ad p) from by rw [hp]; exact hrf i (by omega)) d_X_sum_64 ?_
                  have hRi := hRk i (by omega)
                  refine J_callVi cw_X_125 nh_U_isThere pn_U_isThere rfl rfl (by omega) (cF_U hpU hkp rfl) (As := []) (rest := []) rfl (Nat.le_of_ble_eq_true rfl) ⟨by decide, by decide⟩ rfl ⟨by decide, by decide⟩ d_X_sum_65 (u_isThere hfl (F0 := F0) (W := W1) (K := K) (S := S) (k := p) (by omega) hW1 hpU (by rw [hkp]; exact ⟨by omega, by omega⟩)) (fun z24 F3 hq => ?_)
                  obtain ⟨hz24, eF3⟩ := hq
                  refine J_eqF eF3 ?_
                  rw [hkp] at hz24
                  refine J_ifeq (tgt := 84) d_X_sum_68 (by decide) ⟨by omega, by omega⟩ (fun c68 => ?_) (fun c68 => ?_)
                  · refine J_iinc (j := 3) (b := (i : Int) + 1) (lv' := [(3, .int (iI ((i : Int) + 1))), (0, .ref (ad 0)), (1, .int (iI set)), (2, .int (iI to))]) d_X_sum_84 rfl (by omega) (by decide) rfl ?_
                    refine J_goto (tgt := 45) d_X_sum_87 (by decide) ?_
                    refine J_pick (lv' := [(0, .ref (ad 0)), (1, .int (iI set)), (2, .int (iI to)), (3, .int (iI ((i : Int) + 1)))]) [1, 2, 3, 0] rfl ?_
                    refine ih (i + 1) a b W1 (by omega) ?_ ?_ (sum_sk hab) hW1 hf1 h27 h29 (by omega)
                    · unfold hold at ha hbb ⊢
                      rw [sumP_s, if_neg (fun q => by have q1 := q.1; have q2 := q.2.1; clear q ha hbb; omega)]
                      exact ha
                    · unfold hold at ha hbb ⊢
                      rw [sumN_s, if_neg (fun q => by have q1 := q.1; have q2 := q.2.1; clear q ha hbb; omega)]
                      exact hbb
                  · refine J_aload_n 0 d_X_sum_71 rfl rfl ?_
                    refine gf_X_30 (by omega) ((cF_0 (by decide)).trans hX0) rfl d_X_sum_72 ?_
                    refine J_aload_n 0 d_X_sum_75 rfl rfl ?_
                    refine gf_X_11 (by omega) ((cF_0 (by decide)).trans hX0) rfl d_X_sum_76 ?_
                    refine J_iload_n 3 d_X_sum_79 rfl rfl ?_
                    refine J_aaload 4 rfl (by omega) ((cF_0 (by decide)).trans hX1) (by omega) (show rf i = some (ad p) from by rw [hp]; exact hrf i (by omega)) d_X_sum_80 ?_
                    have hk9 : (R i).1 ≠ -1 := by omega
                    obtain ⟨hpv1, hpv2, hpv3⟩ := hpv hk9
                    have hnr9 := hnr
                    unfold hold at hnr9
                    obtain ⟨ht1, ht2, ht3, ht4⟩ := smT_c (hok i (by omega)) hk9 (hnr9 i (by omega) (by omega))
                    replace ht1 : hold _ := ht1
                    clear hnr9
                    refine J_callVv cw_X_194 nh_D_addToSum pn_D_addToSum rfl rfl (by omega) ((cF_0 (by decide)).trans hDk) (As := [.ref (ad p)]) (rest := []) rfl (Nat.le_of_ble_eq_true rfl) ⟨by decide, by decide⟩ rfl ⟨by decide, by decide⟩ d_X_sum_81 (c_D_addToSum hfl (F0 := F0) (W := W1) (K := K) (S := S) (p := p) (x := (R i).2.2.1) (y := (R i).2.2.2) (a := a) (b := b) hN hW1 (hDk) hpU (by omega) h27 h29 hpv2 hpv3 (by rw [hpv1]; exact ht3) ht2 (Nat.lt_trans (show _ < 2 ^ 272 from ht1) (by decide)) ⟨Nat.lt_trans (sum_L hab hi).1 (by decide), Nat.lt_trans (sum_L hab hi).2 (by decide)⟩) (fun  F25 hq => ?_)
                    obtain ⟨W2, hW2, hf2, hc27, hc29, eF2⟩ := hq
                    rw [hpv1] at hc27 hc29
                    refine J_eqF (F2 := cF ad g F0 W2 K S) eF2 ?_
                    refine J_iinc (j := 3) (b := (i : Int) + 1) (lv' := [(3, .int (iI ((i : Int) + 1))), (0, .ref (ad 0)), (1, .int (iI set)), (2, .int (iI to))]) d_X_sum_84 rfl (by omega) (by decide) rfl ?_
                    refine J_goto (tgt := 45) d_X_sum_87 (by decide) ?_
                    refine J_pick (lv' := [(0, .ref (ad 0)), (1, .int (iI set)), (2, .int (iI to)), (3, .int (iI ((i : Int) + 1)))]) [1, 2, 3, 0] rfl ?_
                    refine ih (i + 1) (W2 27) (W2 29) W2 (by omega) ?_ ?_ (sum_st hab ht1 (by rw [hc27]; split; exact Or.inr rfl; exact Or.inl rfl) (by rw [hc29]; split; exact Or.inl rfl; exact Or.inr rfl)) hW2 (fun j q1 q2 q3 => (hf2 j q1 q2 q3).trans (hf1 j q1 q2 q3)) rfl rfl (by omega)
                    · unfold hold at ha hbb ⊢
                      rw [sumP_s]
                      replace hc27 : W2 27 = if 0 < (R i).2.1 then a + smT (R i) else a := hc27
                      replace hc29 : W2 29 = if 0 < (R i).2.1 then b else b + smT (R i) := hc29
                      rw [hc27]
                      by_cases c : 0 < (R i).2.1
                      · rw [if_pos c, if_pos ⟨by omega, hk9, by omega⟩, ← ha]
                      · rw [if_neg c]
                        by_cases c0 : (R i).2.1 = 0
                        · rw [if_pos ⟨by omega, hk9, by omega⟩, ht4 c0, Nat.add_zero, ← ha]
                        · rw [if_neg (by omega), ← ha]
                    · unfold hold at ha hbb ⊢
                      rw [sumN_s]
                      replace hc27 : W2 27 = if 0 < (R i).2.1 then a + smT (R i) else a := hc27
                      replace hc29 : W2 29 = if 0 < (R i).2.1 then b else b + smT (R i) := hc29
                      rw [hc29]
                      by_cases c : 0 < (R i).2.1
                      · rw [if_pos c, if_neg (by omega), ← hbb]
                      · rw [if_neg c]
                        by_cases c0 : (R i).2.1 = 0
                        · rw [if_neg (by omega), ht4 c0, Nat.add_zero, ← hbb]
                        · rw [if_pos ⟨by omega, hk9, by omega⟩, ← hbb]
          exact loop45 ((8 - 0) + 1) 0 0 0 (va_up (va_up W 27 0) 29 0) (by omega) (show (0 : Nat) = sumP R sn 0 from rfl) (show (0 : Nat) = sumN R sn 0 from rfl) (show _ ∧ _ from ⟨Nat.zero_le _, Nat.zero_le _⟩) hWs (fun j q1 q2 q3 => by rw [va_up_ne _ _ q2, va_up_ne _ _ q1]) ((va_up_ne _ _ (by decide)).trans (va_up_self ..)) (va_up_self ..) (Nat.lt_succ_self _)
        · refine J_throw (k := 0) (by decide) wd_525 wd_526 wd_15 wd_567 (List.mem_of_getElem? (i := 9) rfl) d_X_sum_26 d_X_sum_29 d_X_sum_30 d_X_sum_32 d_X_sum_35 ⟨by decide, by decide⟩ (by decide) (by decide) ?_
          exact Or.inr ⟨_, rfl, rfl, rfl, Or.inl ⟨(fun q => by
              unfold hold at hhr
              obtain ⟨-, i, hi1, hi2, hi3⟩ := hhr.resolve_right (fun w => by omega)
              exact q.2.2 i hi1 (by rw [hsnt]; exact hi2) hi3), rfl⟩, ⟨_, _, _, _, hS, hV, rfl⟩, (offC_e hFc (fun j hj => by rfl))⟩
