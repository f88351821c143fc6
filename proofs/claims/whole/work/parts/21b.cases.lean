/-! the law's cases -/
theorem mst_sh {ad : Nat → Nat} {g : Nat → ClassId} {R : Nat → Vn} {ln sh : List Nat} {c : Int} {F : Nat → va_E} (h : mst ad g R ln sh c F) : ∀ c, c ∈ sh → c < 65536 := by
  obtain ⟨hh, ll, f, v, V, br, kk, bb, rr, lh, xh, dh, th, ⟨-, -, -, -, -, -, -, -, -, -, -, -, -, -, b⟩, -⟩ := h
  exact b.2.2.2
set_option maxRecDepth 100000 in
set_option maxHeartbeats 4000000 in
theorem lw_c0 {l : Launch} (hfl : l.flags = flags0) {D : va_G} {g : Nat → ClassId} {A : Nat → Prop} {X : State → Method → Prop} {Q : JQ} {ad : Nat → Nat} {b L i kc ks : Nat} {xs : Nat → Int32} {zs : Nat → Int} {R : Nat → Vn} {ln sh : List Nat} {F : Nat → va_E}
    (hE : lwE A X b L xs zs) (hi : i + 5 ≤ L) (hL : L ≤ 2560) (hk : kc ≤ 900) (hs : ks ≤ 9000) (hS : lwS ad g R ln sh F) (next : lwN l D g A X Q ad b i kc ks) : JL l D g A X Q ad kc ks 124 (lvL b ad i) [] F := by
  obtain ⟨hC, ⟨th, hM⟩, hok, h9, h108⟩ := hS
  obtain ⟨fs0, hF0⟩ := cst_0 hC
  obtain ⟨hXs, hzs, hzb⟩ := hE
  obtain ⟨z1, hz1⟩ : ∃ z, zs (i + 1) = z := ⟨_, rfl⟩
  have hb1 : inI z1 := hz1 ▸ hzb (i + 1)
  obtain ⟨z2, hz2⟩ : ∃ z, zs (i + 2) = z := ⟨_, rfl⟩
  have hb2 : inI z2 := hz2 ▸ hzb (i + 2)
  obtain ⟨z3, hz3⟩ : ∃ z, zs (i + 3) = z := ⟨_, rfl⟩
  have hb3 : inI z3 := hz3 ▸ hzb (i + 3)
  obtain ⟨z4, hz4⟩ : ∃ z, zs (i + 4) = z := ⟨_, rfl⟩
  have hb4 : inI z4 := hz4 ▸ hzb (i + 4)
  refine J_aload_n 1 d_L_law_124 rfl rfl ?_
  refine J_aload_n 0 d_L_law_125 rfl rfl ?_
  refine J_iload 4 d_L_law_126 rfl ?_
  refine J_iconst d_L_law_128 ?_
  refine J_iadd d_L_law_129 ?_
  refine J_sld hXs hzs ⟨by omega, by omega, by omega⟩ d_L_law_130 ?_
  refine J_topi (r := z1) (congrArg iI ((congrArg zs (by omega)).trans hz1)) ?_
  refine J_callVi cw_L_47 nh_X_write pn_X_write rfl rfl (by decide) hF0 (As := [.int (iI z1)]) (rest := []) rfl (Nat.le_of_ble_eq_true rfl) ⟨by decide, by decide⟩ rfl ⟨rmA (by omega) (by decide), rmB (by omega) (by decide)⟩ d_L_law_131 (c_X_write hfl (by decide) hC hok hb1) (fun y1 F1 hq => ?_)
  obtain ⟨hx, hoff1⟩ := hq
  replace hx : hold _ := hx
  have hM1 := mst_cg hM (fun j a _ => hoff1 j a)
  obtain ⟨f1, v1, hO1, -⟩ := mst_98 hM1
  refine J_aload_n 2 d_L_law_134 rfl rfl ?_
  refine J_aload_n 0 d_L_law_135 rfl rfl ?_
  refine J_iload 4 d_L_law_136 rfl ?_
  refine J_iconst d_L_law_138 ?_
  refine J_iadd d_L_law_139 ?_
  refine J_sld hXs hzs ⟨by omega, by omega, by omega⟩ d_L_law_140 ?_
  refine J_topi (r := z1) (congrArg iI ((congrArg zs (by omega)).trans hz1)) ?_
  refine J_callVi cw_L_51 nh_M_write pn_M_write rfl rfl (by decide) hO1 (As := [.int (iI z1)]) (rest := [.int (iI y1)]) rfl (Nat.le_of_ble_eq_true rfl) ⟨by decide, by decide⟩ rfl ⟨rmA (by omega) (by decide), rmB (by omega) (by decide)⟩ d_L_law_141 (c_M_write hfl (by decide) hM1 hb1) (fun y2 F2 hq => ?_)
  obtain ⟨hm, hoff2⟩ := hq
  unfold hold at hx
  have h2 : F2 108 = .inl (g 5, 1, .inr (.inl h9)) := (hoff2 108 (Or.inr (by decide))).trans ((hoff1 108 (by decide)).trans h108)
  have cmv : ∀ {R' : Nat → Vn} {ln' sh' : List Nat}, cst ad g R' ln' sh' F1 → cst ad g R' ln' sh' F2 := fun h => cst_cg h (fun j hj => hoff2 j (Or.inl hj))
  rcases hx with ⟨rfl, hw, hc⟩ | ⟨rfl, hw, hc⟩
  · rcases hm with ⟨rfl, hw2, hm⟩ | ⟨rfl, hw2, hm⟩
    · refine J_if_icmpeq (tgt := 1088) d_L_law_144 (by decide) (by decide) (by decide) (fun _ => ?_) (fun c => absurd rfl c)
      exact next kc ks R (ln ++ wch z1 4) sh F2 (by omega) (by omega) ⟨cmv hc, ⟨_, hm⟩, hok, h9, h2⟩
    · exact absurd hw hw2
  · rcases hm with ⟨rfl, hw2, hm⟩ | ⟨rfl, hw2, hm⟩
    · exact absurd hw2 hw
    · refine J_if_icmpeq (tgt := 1088) d_L_law_144 (by decide) (by decide) (by decide) (fun _ => ?_) (fun c => absurd rfl c)
      exact next kc ks R ln sh F2 (by omega) (by omega) ⟨cmv hc, ⟨_, hm⟩, hok, h9, h2⟩
set_option maxRecDepth 100000 in
set_option maxHeartbeats 4000000 in
theorem lw_c1 {l : Launch} (hfl : l.flags = flags0) {D : va_G} {g : Nat → ClassId} {A : Nat → Prop} {X : State → Method → Prop} {Q : JQ} {ad : Nat → Nat} {b L i kc ks : Nat} {xs : Nat → Int32} {zs : Nat → Int} {R : Nat → Vn} {ln sh : List Nat} {F : Nat → va_E}
    (hE : lwE A X b L xs zs) (hi : i + 5 ≤ L) (hL : L ≤ 2560) (hk : kc ≤ 900) (hs : ks ≤ 9000) (hS : lwS ad g R ln sh F) (next : lwN l D g A X Q ad b i kc ks) : JL l D g A X Q ad kc ks 149 (lvL b ad i) [] F := by
  obtain ⟨hC, ⟨th, hM⟩, hok, h9, h108⟩ := hS
  obtain ⟨fs0, hF0⟩ := cst_0 hC
  obtain ⟨hXs, hzs, hzb⟩ := hE
  obtain ⟨z1, hz1⟩ : ∃ z, zs (i + 1) = z := ⟨_, rfl⟩
  have hb1 : inI z1 := hz1 ▸ hzb (i + 1)
  obtain ⟨z2, hz2⟩ : ∃ z, zs (i + 2) = z := ⟨_, rfl⟩
  have hb2 : inI z2 := hz2 ▸ hzb (i + 2)
  obtain ⟨z3, hz3⟩ : ∃ z, zs (i + 3) = z := ⟨_, rfl⟩
  have hb3 : inI z3 := hz3 ▸ hzb (i + 3)
  obtain ⟨z4, hz4⟩ : ∃ z, zs (i + 4) = z := ⟨_, rfl⟩
  have hb4 : inI z4 := hz4 ▸ hzb (i + 4)
  refine J_aload_n 1 d_L_law_149 rfl rfl ?_
  refine J_callVv cw_L_52 nh_X_wipe pn_X_wipe rfl rfl (by decide) hF0 (As := []) (rest := []) rfl (Nat.le_of_ble_eq_true rfl) ⟨by decide, by decide⟩ rfl ⟨rmA (by omega) (by decide), rmB (by omega) (by decide)⟩ d_L_law_150 (c_X_wipe hfl (by decide) hC hok) (fun  F1 hq => ?_)
  obtain ⟨hc, hoff1⟩ := hq
  have hM1 := mst_cg hM (fun j a _ => hoff1 j a)
  obtain ⟨f1, v1, hO1, -⟩ := mst_98 hM1
  refine J_aload_n 2 d_L_law_153 rfl rfl ?_
  refine J_callVv cw_L_55 nh_M_wipe pn_M_wipe rfl rfl (by decide) hO1 (As := []) (rest := []) rfl (Nat.le_of_ble_eq_true rfl) ⟨by decide, by decide⟩ rfl ⟨rmA (by omega) (by decide), rmB (by omega) (by decide)⟩ d_L_law_154 (c_M_wipe hfl (by decide) hM1) (fun  F2 hq => ?_)
  obtain ⟨hm, hoff2⟩ := hq
  have h2 : F2 108 = .inl (g 5, 1, .inr (.inl h9)) := (hoff2 108 (Or.inr (by decide))).trans ((hoff1 108 (by decide)).trans h108)
  have cmv : ∀ {R' : Nat → Vn} {ln' sh' : List Nat}, cst ad g R' ln' sh' F1 → cst ad g R' ln' sh' F2 := fun h => cst_cg h (fun j hj => hoff2 j (Or.inl hj))
  refine J_goto (tgt := 1088) d_L_law_157 (by decide) ?_
  exact next kc ks R ([]) sh F2 (by omega) (by omega) ⟨cmv hc, ⟨_, hm⟩, hok, h9, h2⟩
set_option maxRecDepth 100000 in
set_option maxHeartbeats 4000000 in
theorem lw_c3 {l : Launch} (hfl : l.flags = flags0) {D : va_G} {g : Nat → ClassId} {A : Nat → Prop} {X : State → Method → Prop} {Q : JQ} {ad : Nat → Nat} {b L i kc ks : Nat} {xs : Nat → Int32} {zs : Nat → Int} {R : Nat → Vn} {ln sh : List Nat} {F : Nat → va_E}
    (hE : lwE A X b L xs zs) (hi : i + 5 ≤ L) (hL : L ≤ 2560) (hk : kc ≤ 900) (hs : ks ≤ 9000) (hS : lwS ad g R ln sh F) (next : lwN l D g A X Q ad b i kc ks) : JL l D g A X Q ad kc ks 216 (lvL b ad i) [] F := by
  obtain ⟨hC, ⟨th, hM⟩, hok, h9, h108⟩ := hS
  obtain ⟨fs0, hF0⟩ := cst_0 hC
  obtain ⟨hXs, hzs, hzb⟩ := hE
  obtain ⟨z1, hz1⟩ : ∃ z, zs (i + 1) = z := ⟨_, rfl⟩
  have hb1 : inI z1 := hz1 ▸ hzb (i + 1)
  obtain ⟨z2, hz2⟩ : ∃ z, zs (i + 2) = z := ⟨_, rfl⟩
  have hb2 : inI z2 := hz2 ▸ hzb (i + 2)
  obtain ⟨z3, hz3⟩ : ∃ z, zs (i + 3) = z := ⟨_, rfl⟩
  have hb3 : inI z3 := hz3 ▸ hzb (i + 3)
  obtain ⟨z4, hz4⟩ : ∃ z, zs (i + 4) = z := ⟨_, rfl⟩
  have hb4 : inI z4 := hz4 ▸ hzb (i + 4)
  obtain ⟨vv, hvv⟩ : ∃ vv, lI (z2 * 4294967296) ||| lI (z3 % 4294967296) = lI vv ∧ inL vv := ⟨_, (lI_of _).symm, lI_rng _⟩
  obtain ⟨hvv, hvb⟩ := hvv
  refine J_aload_n 1 d_L_law_216 rfl rfl ?_
  refine J_aload_n 0 d_L_law_217 rfl rfl ?_
  refine J_iload 4 d_L_law_218 rfl ?_
  refine J_iconst d_L_law_220 ?_
  refine J_iadd d_L_law_221 ?_
  refine J_sld hXs hzs ⟨by omega, by omega, by omega⟩ d_L_law_222 ?_
  refine J_topi (r := z1) (congrArg iI ((congrArg zs (by omega)).trans hz1)) ?_
  refine J_aload_n 0 d_L_law_223 rfl rfl ?_
  refine J_iload 4 d_L_law_224 rfl ?_
  refine J_iconst d_L_law_226 ?_
  refine J_iadd d_L_law_227 ?_
  refine J_sld hXs hzs ⟨by omega, by omega, by omega⟩ d_L_law_228 ?_
  refine J_topi (r := z2) (congrArg iI ((congrArg zs (by omega)).trans hz2)) ?_
  refine J_i2l d_L_law_229 hb2 ?_
  refine J_bipush d_L_law_230 (i8_ok (by decide)) ?_
  refine J_lshl (r := z2 * 4294967296) d_L_law_232 (lI_shl 32 (by decide)) ?_
  refine J_aload_n 0 d_L_law_233 rfl rfl ?_
  refine J_iload 4 d_L_law_234 rfl ?_
  refine J_iconst d_L_law_236 ?_
  refine J_iadd d_L_law_237 ?_
  refine J_sld hXs hzs ⟨by omega, by omega, by omega⟩ d_L_law_238 ?_
  refine J_topi (r := z3) (congrArg iI ((congrArg zs (by omega)).trans hz3)) ?_
  refine J_i2l d_L_law_239 hb3 ?_
  refine J_ldc2 (z := 4294967295) d_L_law_240 wd_1466 (by decide) ?_
  refine J_land (r := z3 % 4294967296) d_L_law_243 (lI_and 32 (by decide)) ?_
  refine J_lor (r := vv) d_L_law_244 hvv ?_
  refine J_callVi cw_L_68 nh_X_whole pn_X_whole rfl rfl (by decide) hF0 (As := [.int (iI z1), .long (lI vv)]) (rest := []) rfl (Nat.le_of_ble_eq_true rfl) ⟨by decide, by decide⟩ rfl ⟨rmA (by omega) (by decide), rmB (by omega) (by decide)⟩ d_L_law_245 (c_X_whole hfl (by decide) hC hok hb1 hvb) (fun y1 F1 hq => ?_)
  obtain ⟨hx, hoff1⟩ := hq
  replace hx : hold _ := hx
  have hM1 := mst_cg hM (fun j a _ => hoff1 j a)
  obtain ⟨f1, v1, hO1, -⟩ := mst_98 hM1
  refine J_aload_n 2 d_L_law_248 rfl rfl ?_
  refine J_aload_n 0 d_L_law_249 rfl rfl ?_
  refine J_iload 4 d_L_law_250 rfl ?_
  refine J_iconst d_L_law_252 ?_
  refine J_iadd d_L_law_253 ?_
  refine J_sld hXs hzs ⟨by omega, by omega, by omega⟩ d_L_law_254 ?_
  refine J_topi (r := z1) (congrArg iI ((congrArg zs (by omega)).trans hz1)) ?_
  refine J_aload_n 0 d_L_law_255 rfl rfl ?_
  refine J_iload 4 d_L_law_256 rfl ?_
  refine J_iconst d_L_law_258 ?_
  refine J_iadd d_L_law_259 ?_
  refine J_sld hXs hzs ⟨by omega, by omega, by omega⟩ d_L_law_260 ?_
  refine J_topi (r := z2) (congrArg iI ((congrArg zs (by omega)).trans hz2)) ?_
  refine J_i2l d_L_law_261 hb2 ?_
  refine J_bipush d_L_law_262 (i8_ok (by decide)) ?_
  refine J_lshl (r := z2 * 4294967296) d_L_law_264 (lI_shl 32 (by decide)) ?_
  refine J_aload_n 0 d_L_law_265 rfl rfl ?_
  refine J_iload 4 d_L_law_266 rfl ?_
  refine J_iconst d_L_law_268 ?_
  refine J_iadd d_L_law_269 ?_
  refine J_sld hXs hzs ⟨by omega, by omega, by omega⟩ d_L_law_270 ?_
  refine J_topi (r := z3) (congrArg iI ((congrArg zs (by omega)).trans hz3)) ?_
  refine J_i2l d_L_law_271 hb3 ?_
  refine J_ldc2 (z := 4294967295) d_L_law_272 wd_1466 (by decide) ?_
  refine J_land (r := z3 % 4294967296) d_L_law_275 (lI_and 32 (by decide)) ?_
  refine J_lor (r := vv) d_L_law_276 hvv ?_
  refine J_callVi cw_L_72 nh_M_whole pn_M_whole rfl rfl (by decide) hO1 (As := [.int (iI z1), .long (lI vv)]) (rest := [.int (iI y1)]) rfl (Nat.le_of_ble_eq_true rfl) ⟨by decide, by decide⟩ rfl ⟨rmA (by omega) (by decide), rmB (by omega) (by decide)⟩ d_L_law_277 (c_M_whole hfl (by decide) hM1 hb1 hvb) (fun y2 F2 hq => ?_)
  obtain ⟨hm, hoff2⟩ := hq
  unfold hold at hx
  have h2 : F2 108 = .inl (g 5, 1, .inr (.inl h9)) := (hoff2 108 (Or.inr (by decide))).trans ((hoff1 108 (by decide)).trans h108)
  have cmv : ∀ {R' : Nat → Vn} {ln' sh' : List Nat}, cst ad g R' ln' sh' F1 → cst ad g R' ln' sh' F2 := fun h => cst_cg h (fun j hj => hoff2 j (Or.inl hj))
  rcases hx with ⟨rfl, hw, hc⟩ | ⟨rfl, hw, hc⟩
  · rcases hm with ⟨rfl, hw2, hkv, hm⟩ | ⟨rfl, hw2, hm⟩
    · refine J_if_icmpeq (tgt := 1088) d_L_law_280 (by decide) (by decide) (by decide) (fun _ => ?_) (fun c => absurd rfl c)
      exact next kc ks (va_up R z1.toNat (wholeV vv)) ln sh F2 (by omega) (by omega) ⟨cmv hc, ⟨_, hm⟩, okv_up hok hkv, h9, h2⟩
    · exact absurd hw hw2
  · rcases hm with ⟨rfl, hw2, hkv, hm⟩ | ⟨rfl, hw2, hm⟩
    · exact absurd hw2 hw
    · refine J_if_icmpeq (tgt := 1088) d_L_law_280 (by decide) (by decide) (by decide) (fun _ => ?_) (fun c => absurd rfl c)
      exact next kc ks R ln sh F2 (by omega) (by omega) ⟨cmv hc, ⟨_, hm⟩, hok, h9, h2⟩
set_option maxRecDepth 100000 in
set_option maxHeartbeats 4000000 in
theorem lw_c4 {l : Launch} (hfl : l.flags = flags0) {D : va_G} {g : Nat → ClassId} {A : Nat → Prop} {X : State → Method → Prop} {Q : JQ} {ad : Nat → Nat} {b L i kc ks : Nat} {xs : Nat → Int32} {zs : Nat → Int} {R : Nat → Vn} {ln sh : List Nat} {F : Nat → va_E}
    (hE : lwE A X b L xs zs) (hi : i + 5 ≤ L) (hL : L ≤ 2560) (hk : kc ≤ 900) (hs : ks ≤ 9000) (hS : lwS ad g R ln sh F) (next : lwN l D g A X Q ad b i kc ks) : JL l D g A X Q ad kc ks 285 (lvL b ad i) [] F := by
  obtain ⟨hC, ⟨th, hM⟩, hok, h9, h108⟩ := hS
  obtain ⟨fs0, hF0⟩ := cst_0 hC
  obtain ⟨hXs, hzs, hzb⟩ := hE
  obtain ⟨z1, hz1⟩ : ∃ z, zs (i + 1) = z := ⟨_, rfl⟩
  have hb1 : inI z1 := hz1 ▸ hzb (i + 1)
  obtain ⟨z2, hz2⟩ : ∃ z, zs (i + 2) = z := ⟨_, rfl⟩
  have hb2 : inI z2 := hz2 ▸ hzb (i + 2)
  obtain ⟨z3, hz3⟩ : ∃ z, zs (i + 3) = z := ⟨_, rfl⟩
  have hb3 : inI z3 := hz3 ▸ hzb (i + 3)
  obtain ⟨z4, hz4⟩ : ∃ z, zs (i + 4) = z := ⟨_, rfl⟩
  have hb4 : inI z4 := hz4 ▸ hzb (i + 4)
  have hdm : FP.dmul (FP.i2d (iI z2)) 4593671619917905920 = fd (decide (z2 < 0)) z2.natAbs (-3) := by
    rw [fd_i2d hb2, c_8th, fd_mul ⟨by omega, by omega, by omega⟩ ⟨by decide, by decide, by decide⟩, Nat.mul_one]
    cases decide (z2 < 0) <;> rfl
  refine J_aload_n 1 d_L_law_285 rfl rfl ?_
  refine J_aload_n 0 d_L_law_286 rfl rfl ?_
  refine J_iload 4 d_L_law_287 rfl ?_
  refine J_iconst d_L_law_289 ?_
  refine J_iadd d_L_law_290 ?_
  refine J_sld hXs hzs ⟨by omega, by omega, by omega⟩ d_L_law_291 ?_
  refine J_topi (r := z1) (congrArg iI ((congrArg zs (by omega)).trans hz1)) ?_
  refine J_aload_n 0 d_L_law_292 rfl rfl ?_
  refine J_iload 4 d_L_law_293 rfl ?_
  refine J_iconst d_L_law_295 ?_
  refine J_iadd d_L_law_296 ?_
  refine J_sld hXs hzs ⟨by omega, by omega, by omega⟩ d_L_law_297 ?_
  refine J_topi (r := z2) (congrArg iI ((congrArg zs (by omega)).trans hz2)) ?_
  refine J_i2d d_L_law_298 ?_
  refine J_ldc2d d_L_law_299 wd_1467 ?_
  refine J_dmul (r := fd (decide (z2 < 0)) z2.natAbs (-3)) d_L_law_302 hdm (fd_n64 _ _ _) ?_
  refine J_callVi cw_L_75 nh_X_real pn_X_real rfl rfl (by decide) hF0 (As := [.int (iI z1), .double (fd (decide (z2 < 0)) z2.natAbs (-3))]) (rest := []) rfl (Nat.le_of_ble_eq_true rfl) ⟨by decide, by decide⟩ rfl ⟨rmA (by omega) (by decide), rmB (by omega) (by decide)⟩ d_L_law_303 (c_X_real hfl (by decide) hC hok hb1 hb2) (fun y1 F1 hq => ?_)
  obtain ⟨hx, hoff1⟩ := hq
  replace hx : hold _ := hx
  have hM1 := mst_cg hM (fun j a _ => hoff1 j a)
  obtain ⟨f1, v1, hO1, -⟩ := mst_98 hM1
  refine J_aload_n 2 d_L_law_306 rfl rfl ?_
  refine J_aload_n 0 d_L_law_307 rfl rfl ?_
  refine J_iload 4 d_L_law_308 rfl ?_
  refine J_iconst d_L_law_310 ?_
  refine J_iadd d_L_law_311 ?_
  refine J_sld hXs hzs ⟨by omega, by omega, by omega⟩ d_L_law_312 ?_
  refine J_topi (r := z1) (congrArg iI ((congrArg zs (by omega)).trans hz1)) ?_
  refine J_aload_n 0 d_L_law_313 rfl rfl ?_
  refine J_iload 4 d_L_law_314 rfl ?_
  refine J_iconst d_L_law_316 ?_
  refine J_iadd d_L_law_317 ?_
  refine J_sld hXs hzs ⟨by omega, by omega, by omega⟩ d_L_law_318 ?_
  refine J_topi (r := z2) (congrArg iI ((congrArg zs (by omega)).trans hz2)) ?_
  refine J_i2d d_L_law_319 ?_
  refine J_ldc2d d_L_law_320 wd_1467 ?_
  refine J_dmul (r := fd (decide (z2 < 0)) z2.natAbs (-3)) d_L_law_323 hdm (fd_n64 _ _ _) ?_
  refine J_callVi cw_L_79 nh_M_real pn_M_real rfl rfl (by decide) hO1 (As := [.int (iI z1), .double (fd (decide (z2 < 0)) z2.natAbs (-3))]) (rest := [.int (iI y1)]) rfl (Nat.le_of_ble_eq_true rfl) ⟨by decide, by decide⟩ rfl ⟨rmA (by omega) (by decide), rmB (by omega) (by decide)⟩ d_L_law_324 (c_M_real hfl (by decide) hM1 hb1 hb2) (fun y2 F2 hq => ?_)
  obtain ⟨hm, hoff2⟩ := hq
  unfold hold at hx
  have h2 : F2 108 = .inl (g 5, 1, .inr (.inl h9)) := (hoff2 108 (Or.inr (by decide))).trans ((hoff1 108 (by decide)).trans h108)
  have cmv : ∀ {R' : Nat → Vn} {ln' sh' : List Nat}, cst ad g R' ln' sh' F1 → cst ad g R' ln' sh' F2 := fun h => cst_cg h (fun j hj => hoff2 j (Or.inl hj))
  rcases hx with ⟨rfl, hw, w, hw0, hc⟩ | ⟨rfl, hw, hc⟩
  · rcases hm with ⟨rfl, hw2, w2, hw3, hkv, hm⟩ | ⟨rfl, hw2, hm⟩
    · obtain rfl : w = w2 := Option.some.inj (hw0.symm.trans hw3)
      refine J_if_icmpeq (tgt := 1088) d_L_law_327 (by decide) (by decide) (by decide) (fun _ => ?_) (fun c => absurd rfl c)
      exact next kc ks (va_up R z1.toNat w) ln sh F2 (by omega) (by omega) ⟨cmv hc, ⟨_, hm⟩, okv_up hok hkv, h9, h2⟩
    · exact absurd hw hw2
  · rcases hm with ⟨rfl, hw2, w2, hw3, hkv, hm⟩ | ⟨rfl, hw2, hm⟩
    · exact absurd hw2 hw
    · refine J_if_icmpeq (tgt := 1088) d_L_law_327 (by decide) (by decide) (by decide) (fun _ => ?_) (fun c => absurd rfl c)
      exact next kc ks R ln sh F2 (by omega) (by omega) ⟨cmv hc, ⟨_, hm⟩, hok, h9, h2⟩
set_option maxRecDepth 100000 in
set_option maxHeartbeats 4000000 in
theorem lw_c10 {l : Launch} (hfl : l.flags = flags0) {D : va_G} {g : Nat → ClassId} {A : Nat → Prop} {X : State → Method → Prop} {Q : JQ} {ad : Nat → Nat} {b L i kc ks : Nat} {xs : Nat → Int32} {zs : Nat → Int} {R : Nat → Vn} {ln sh : List Nat} {F : Nat → va_E}
    (hE : lwE A X b L xs zs) (hi : i + 5 ≤ L) (hL : L ≤ 2560) (hk : kc ≤ 900) (hs : ks ≤ 9000) (hS : lwS ad g R ln sh F) (next : lwN l D g A X Q ad b i kc ks) : JL l D g A X Q ad kc ks 744 (lvL b ad i) [] F := by
  obtain ⟨hC, ⟨th, hM⟩, hok, h9, h108⟩ := hS
  obtain ⟨fs0, hF0⟩ := cst_0 hC
  obtain ⟨hXs, hzs, hzb⟩ := hE
  obtain ⟨z1, hz1⟩ : ∃ z, zs (i + 1) = z := ⟨_, rfl⟩
  have hb1 : inI z1 := hz1 ▸ hzb (i + 1)
  obtain ⟨z2, hz2⟩ : ∃ z, zs (i + 2) = z := ⟨_, rfl⟩
  have hb2 : inI z2 := hz2 ▸ hzb (i + 2)
  obtain ⟨z3, hz3⟩ : ∃ z, zs (i + 3) = z := ⟨_, rfl⟩
  have hb3 : inI z3 := hz3 ▸ hzb (i + 3)
  obtain ⟨z4, hz4⟩ : ∃ z, zs (i + 4) = z := ⟨_, rfl⟩
  have hb4 : inI z4 := hz4 ▸ hzb (i + 4)
  refine J_aload_n 1 d_L_law_744 rfl rfl ?_
  refine J_aload_n 0 d_L_law_745 rfl rfl ?_
  refine J_iload 4 d_L_law_746 rfl ?_
  refine J_iconst d_L_law_748 ?_
  refine J_iadd d_L_law_749 ?_
  refine J_sld hXs hzs ⟨by omega, by omega, by omega⟩ d_L_law_750 ?_
  refine J_topi (r := z1) (congrArg iI ((congrArg zs (by omega)).trans hz1)) ?_
  refine J_aload_n 0 d_L_law_751 rfl rfl ?_
  refine J_iload 4 d_L_law_752 rfl ?_
  refine J_iconst d_L_law_754 ?_
  refine J_iadd d_L_law_755 ?_
  refine J_sld hXs hzs ⟨by omega, by omega, by omega⟩ d_L_law_756 ?_
  refine J_topi (r := z2) (congrArg iI ((congrArg zs (by omega)).trans hz2)) ?_
  refine J_callVi cw_L_98 nh_X_compare pn_X_compare rfl rfl (by decide) hF0 (As := [.int (iI z1), .int (iI z2)]) (rest := []) rfl (Nat.le_of_ble_eq_true rfl) ⟨by decide, by decide⟩ rfl ⟨rmA (by omega) (by decide), rmB (by omega) (by decide)⟩ d_L_law_757 (c_X_compare hfl (by decide) hC hok hb1 hb2) (fun y1 F1 hq => ?_)
  obtain ⟨hx, hc, hoff1⟩ := hq
  have hM1 := mst_cg hM (fun j a _ => hoff1 j a)
  obtain ⟨f1, v1, hO1, -⟩ := mst_98 hM1
  refine J_aload_n 2 d_L_law_760 rfl rfl ?_
  refine J_aload_n 0 d_L_law_761 rfl rfl ?_
  refine J_iload 4 d_L_law_762 rfl ?_
  refine J_iconst d_L_law_764 ?_
  refine J_iadd d_L_law_765 ?_
  refine J_sld hXs hzs ⟨by omega, by omega, by omega⟩ d_L_law_766 ?_
  refine J_topi (r := z1) (congrArg iI ((congrArg zs (by omega)).trans hz1)) ?_
  refine J_aload_n 0 d_L_law_767 rfl rfl ?_
  refine J_iload 4 d_L_law_768 rfl ?_
  refine J_iconst d_L_law_770 ?_
  refine J_iadd d_L_law_771 ?_
  refine J_sld hXs hzs ⟨by omega, by omega, by omega⟩ d_L_law_772 ?_
  refine J_topi (r := z2) (congrArg iI ((congrArg zs (by omega)).trans hz2)) ?_
  refine J_callVi cw_L_101 nh_M_compare pn_M_compare rfl rfl (by decide) hO1 (As := [.int (iI z1), .int (iI z2)]) (rest := [.int (iI y1)]) rfl (Nat.le_of_ble_eq_true rfl) ⟨by decide, by decide⟩ rfl ⟨rmA (by omega) (by decide), rmB (by omega) (by decide)⟩ d_L_law_773 (c_M_compare hfl (by decide) hM1 hb1 hb2) (fun y2 F2 hq => ?_)
  obtain ⟨hy, hm, hoff2⟩ := hq
  have h2 : F2 108 = .inl (g 5, 1, .inr (.inl h9)) := (hoff2 108 (Or.inr (by decide))).trans ((hoff1 108 (by decide)).trans h108)
  have cmv : ∀ {R' : Nat → Vn} {ln' sh' : List Nat}, cst ad g R' ln' sh' F1 → cst ad g R' ln' sh' F2 := fun h => cst_cg h (fun j hj => hoff2 j (Or.inl hj))
  have hbb : inI y1 := hx ▸ cmpQ_b (regV_ok hok _) (regV_ok hok _)
  have hbb2 : inI y2 := hy ▸ cmpQ_b (regV_ok hok _) (regV_ok hok _)
  refine J_if_icmpeq (tgt := 1088) d_L_law_776 (by decide) hbb hbb2 (fun _ => ?_) (fun c => absurd (hx.trans hy.symm) c)
  exact next kc ks R ln sh F2 (by omega) (by omega) ⟨cmv hc, ⟨_, hm⟩, hok, h9, h2⟩
set_option maxRecDepth 100000 in
set_option maxHeartbeats 4000000 in
theorem lw_c14 {l : Launch} (hfl : l.flags = flags0) {D : va_G} {g : Nat → ClassId} {A : Nat → Prop} {X : State → Method → Prop} {Q : JQ} {ad : Nat → Nat} {b L i kc ks : Nat} {xs : Nat → Int32} {zs : Nat → Int} {R : Nat → Vn} {ln sh : List Nat} {F : Nat → va_E}
    (hE : lwE A X b L xs zs) (hi : i + 5 ≤ L) (hL : L ≤ 2560) (hk : kc ≤ 900) (hs : ks ≤ 9000) (hS : lwS ad g R ln sh F) (next : lwN l D g A X Q ad b i kc ks) : JL l D g A X Q ad kc ks 919 (lvL b ad i) [] F := by
  obtain ⟨hC, ⟨th, hM⟩, hok, h9, h108⟩ := hS
  obtain ⟨fs0, hF0⟩ := cst_0 hC
  obtain ⟨hXs, hzs, hzb⟩ := hE
  obtain ⟨z1, hz1⟩ : ∃ z, zs (i + 1) = z := ⟨_, rfl⟩
  have hb1 : inI z1 := hz1 ▸ hzb (i + 1)
  obtain ⟨z2, hz2⟩ : ∃ z, zs (i + 2) = z := ⟨_, rfl⟩
  have hb2 : inI z2 := hz2 ▸ hzb (i + 2)
  obtain ⟨z3, hz3⟩ : ∃ z, zs (i + 3) = z := ⟨_, rfl⟩
  have hb3 : inI z3 := hz3 ▸ hzb (i + 3)
  obtain ⟨z4, hz4⟩ : ∃ z, zs (i + 4) = z := ⟨_, rfl⟩
  have hb4 : inI z4 := hz4 ▸ hzb (i + 4)
  refine J_aload_n 1 d_L_law_919 rfl rfl ?_
  refine J_aload_n 0 d_L_law_920 rfl rfl ?_
  refine J_iload 4 d_L_law_921 rfl ?_
  refine J_iconst d_L_law_923 ?_
  refine J_iadd d_L_law_924 ?_
  refine J_sld hXs hzs ⟨by omega, by omega, by omega⟩ d_L_law_925 ?_
  refine J_topi (r := z1) (congrArg iI ((congrArg zs (by omega)).trans hz1)) ?_
  refine J_callVi cw_L_113 nh_X_letter pn_X_letter rfl rfl (by decide) hF0 (As := [.int (iI z1)]) (rest := []) rfl (Nat.le_of_ble_eq_true rfl) ⟨by decide, by decide⟩ rfl ⟨rmA (by omega) (by decide), rmB (by omega) (by decide)⟩ d_L_law_926 (c_X_letter hfl (by decide) hC hok hb1) (fun y1 F1 hq => ?_)
  obtain ⟨hx, hc, hoff1⟩ := hq
  have hM1 := mst_cg hM (fun j a _ => hoff1 j a)
  obtain ⟨f1, v1, hO1, -⟩ := mst_98 hM1
  refine J_aload_n 2 d_L_law_929 rfl rfl ?_
  refine J_aload_n 0 d_L_law_930 rfl rfl ?_
  refine J_iload 4 d_L_law_931 rfl ?_
  refine J_iconst d_L_law_933 ?_
  refine J_iadd d_L_law_934 ?_
  refine J_sld hXs hzs ⟨by omega, by omega, by omega⟩ d_L_law_935 ?_
  refine J_topi (r := z1) (congrArg iI ((congrArg zs (by omega)).trans hz1)) ?_
  refine J_callVi cw_L_116 nh_M_letter pn_M_letter rfl rfl (by decide) hO1 (As := [.int (iI z1)]) (rest := [.int (iI y1)]) rfl (Nat.le_of_ble_eq_true rfl) ⟨by decide, by decide⟩ rfl ⟨rmA (by omega) (by decide), rmB (by omega) (by decide)⟩ d_L_law_936 (c_M_letter hfl (by decide) hM1 hb1) (fun y2 F2 hq => ?_)
  obtain ⟨hy, hm, hoff2⟩ := hq
  have h2 : F2 108 = .inl (g 5, 1, .inr (.inl h9)) := (hoff2 108 (Or.inr (by decide))).trans ((hoff1 108 (by decide)).trans h108)
  have cmv : ∀ {R' : Nat → Vn} {ln' sh' : List Nat}, cst ad g R' ln' sh' F1 → cst ad g R' ln' sh' F2 := fun h => cst_cg h (fun j hj => hoff2 j (Or.inl hj))
  have hbb : inI y1 := hx ▸ tat_b (mst_sh hM)
  have hbb2 : inI y2 := hy ▸ tat_b (mst_sh hM)
  refine J_if_icmpeq (tgt := 1088) d_L_law_939 (by decide) hbb hbb2 (fun _ => ?_) (fun c => absurd (hx.trans hy.symm) c)
  exact next kc ks R ln sh F2 (by omega) (by omega) ⟨cmv hc, ⟨_, hm⟩, hok, h9, h2⟩
set_option maxRecDepth 100000 in
set_option maxHeartbeats 4000000 in
theorem lw_c15 {l : Launch} (hfl : l.flags = flags0) {D : va_G} {g : Nat → ClassId} {A : Nat → Prop} {X : State → Method → Prop} {Q : JQ} {ad : Nat → Nat} {b L i kc ks : Nat} {xs : Nat → Int32} {zs : Nat → Int} {R : Nat → Vn} {ln sh : List Nat} {F : Nat → va_E}
    (hE : lwE A X b L xs zs) (hi : i + 5 ≤ L) (hL : L ≤ 2560) (hk : kc ≤ 900) (hs : ks ≤ 9000) (hS : lwS ad g R ln sh F) (next : lwN l D g A X Q ad b i kc ks) : JL l D g A X Q ad kc ks 944 (lvL b ad i) [] F := by
  obtain ⟨hC, ⟨th, hM⟩, hok, h9, h108⟩ := hS
  obtain ⟨fs0, hF0⟩ := cst_0 hC
  obtain ⟨hXs, hzs, hzb⟩ := hE
  obtain ⟨z1, hz1⟩ : ∃ z, zs (i + 1) = z := ⟨_, rfl⟩
  have hb1 : inI z1 := hz1 ▸ hzb (i + 1)
  obtain ⟨z2, hz2⟩ : ∃ z, zs (i + 2) = z := ⟨_, rfl⟩
  have hb2 : inI z2 := hz2 ▸ hzb (i + 2)
  obtain ⟨z3, hz3⟩ : ∃ z, zs (i + 3) = z := ⟨_, rfl⟩
  have hb3 : inI z3 := hz3 ▸ hzb (i + 3)
  obtain ⟨z4, hz4⟩ : ∃ z, zs (i + 4) = z := ⟨_, rfl⟩
  have hb4 : inI z4 := hz4 ▸ hzb (i + 4)
  refine J_aload_n 1 d_L_law_944 rfl rfl ?_
  refine J_aload_n 0 d_L_law_945 rfl rfl ?_
  refine J_iload 4 d_L_law_946 rfl ?_
  refine J_iconst d_L_law_948 ?_
  refine J_iadd d_L_law_949 ?_
  refine J_sld hXs hzs ⟨by omega, by omega, by omega⟩ d_L_law_950 ?_
  refine J_topi (r := z1) (congrArg iI ((congrArg zs (by omega)).trans hz1)) ?_
  refine J_callVi cw_L_117 nh_X_kind pn_X_kind rfl rfl (by decide) hF0 (As := [.int (iI z1)]) (rest := []) rfl (Nat.le_of_ble_eq_true rfl) ⟨by decide, by decide⟩ rfl ⟨rmA (by omega) (by decide), rmB (by omega) (by decide)⟩ d_L_law_951 (c_X_kind hfl (by decide) hC hok hb1) (fun y1 F1 hq => ?_)
  obtain ⟨hx, hc, hoff1⟩ := hq
  have hM1 := mst_cg hM (fun j a _ => hoff1 j a)
  obtain ⟨f1, v1, hO1, -⟩ := mst_98 hM1
  refine J_aload_n 2 d_L_law_954 rfl rfl ?_
  refine J_aload_n 0 d_L_law_955 rfl rfl ?_
  refine J_iload 4 d_L_law_956 rfl ?_
  refine J_iconst d_L_law_958 ?_
  refine J_iadd d_L_law_959 ?_
  refine J_sld hXs hzs ⟨by omega, by omega, by omega⟩ d_L_law_960 ?_
  refine J_topi (r := z1) (congrArg iI ((congrArg zs (by omega)).trans hz1)) ?_
  refine J_callVi cw_L_120 nh_M_kind pn_M_kind rfl rfl (by decide) hO1 (As := [.int (iI z1)]) (rest := [.int (iI y1)]) rfl (Nat.le_of_ble_eq_true rfl) ⟨by decide, by decide⟩ rfl ⟨rmA (by omega) (by decide), rmB (by omega) (by decide)⟩ d_L_law_961 (c_M_kind hfl (by decide) hM1 hb1) (fun y2 F2 hq => ?_)
  obtain ⟨hy, hm, hoff2⟩ := hq
  have h2 : F2 108 = .inl (g 5, 1, .inr (.inl h9)) := (hoff2 108 (Or.inr (by decide))).trans ((hoff1 108 (by decide)).trans h108)
  have cmv : ∀ {R' : Nat → Vn} {ln' sh' : List Nat}, cst ad g R' ln' sh' F1 → cst ad g R' ln' sh' F2 := fun h => cst_cg h (fun j hj => hoff2 j (Or.inl hj))
  have hbb : inI y1 := hx ▸ (have q := okv_k (regV_ok hok z1); ⟨by omega, by omega⟩)
  have hbb2 : inI y2 := hy ▸ (have q := okv_k (regV_ok hok z1); ⟨by omega, by omega⟩)
  refine J_if_icmpeq (tgt := 1088) d_L_law_964 (by decide) hbb hbb2 (fun _ => ?_) (fun c => absurd (hx.trans hy.symm) c)
  exact next kc ks R ln sh F2 (by omega) (by omega) ⟨cmv hc, ⟨_, hm⟩, hok, h9, h2⟩
set_option maxRecDepth 100000 in
set_option maxHeartbeats 4000000 in
theorem lw_c11 {l : Launch} (hfl : l.flags = flags0) {D : va_G} {g : Nat → ClassId} {A : Nat → Prop} {X : State → Method → Prop} {Q : JQ} {ad : Nat → Nat} {b L i kc ks : Nat} {xs : Nat → Int32} {zs : Nat → Int} {R : Nat → Vn} {ln sh : List Nat} {F : Nat → va_E}
    (hE : lwE A X b L xs zs) (hi : i + 5 ≤ L) (hL : L ≤ 2560) (hk : kc ≤ 900) (hs : ks ≤ 9000) (hS : lwS ad g R ln sh F) (next : lwN l D g A X Q ad b i kc ks) : JL l D g A X Q ad kc ks 781 (lvL b ad i) [] F := by
  obtain ⟨hC, ⟨th, hM⟩, hok, h9, h108⟩ := hS
  obtain ⟨fs0, hF0⟩ := cst_0 hC
  obtain ⟨hXs, hzs, hzb⟩ := hE
  obtain ⟨z1, hz1⟩ : ∃ z, zs (i + 1) = z := ⟨_, rfl⟩
  have hb1 : inI z1 := hz1 ▸ hzb (i + 1)
  obtain ⟨z2, hz2⟩ : ∃ z, zs (i + 2) = z := ⟨_, rfl⟩
  have hb2 : inI z2 := hz2 ▸ hzb (i + 2)
  obtain ⟨z3, hz3⟩ : ∃ z, zs (i + 3) = z := ⟨_, rfl⟩
  have hb3 : inI z3 := hz3 ▸ hzb (i + 3)
  obtain ⟨z4, hz4⟩ : ∃ z, zs (i + 4) = z := ⟨_, rfl⟩
  have hb4 : inI z4 := hz4 ▸ hzb (i + 4)
  refine J_aload_n 1 d_L_law_781 rfl rfl ?_
  refine J_aload_n 0 d_L_law_782 rfl rfl ?_
  refine J_iload 4 d_L_law_783 rfl ?_
  refine J_iconst d_L_law_785 ?_
  refine J_iadd d_L_law_786 ?_
  refine J_sld hXs hzs ⟨by omega, by omega, by omega⟩ d_L_law_787 ?_
  refine J_topi (r := z1) (congrArg iI ((congrArg zs (by omega)).trans hz1)) ?_
  refine J_callVl cw_L_102 nh_X_hash pn_X_hash rfl rfl (by decide) hF0 (As := [.int (iI z1)]) (rest := []) rfl (Nat.le_of_ble_eq_true rfl) ⟨by decide, by decide⟩ rfl ⟨rmA (by omega) (by decide), rmB (by omega) (by decide)⟩ d_L_law_788 (c_X_hash hfl (by decide) hC hok hb1) (fun y1 F1 hq => ?_)
  obtain ⟨hx, hc, hoff1⟩ := hq
  have hbb := hashQ_b (regV_ok hok _) hx
  replace hx : hold _ := hx
  have hM1 := mst_cg hM (fun j a _ => hoff1 j a)
  obtain ⟨f1, v1, hO1, -⟩ := mst_98 hM1
  refine J_aload_n 2 d_L_law_791 rfl rfl ?_
  refine J_aload_n 0 d_L_law_792 rfl rfl ?_
  refine J_iload 4 d_L_law_793 rfl ?_
  refine J_iconst d_L_law_795 ?_
  refine J_iadd d_L_law_796 ?_
  refine J_sld hXs hzs ⟨by omega, by omega, by omega⟩ d_L_law_797 ?_
  refine J_topi (r := z1) (congrArg iI ((congrArg zs (by omega)).trans hz1)) ?_
  refine J_callVl cw_L_106 nh_M_hash pn_M_hash rfl rfl (by decide) hO1 (As := [.int (iI z1)]) (rest := [.long (lI y1)]) rfl (Nat.le_of_ble_eq_true rfl) ⟨by decide, by decide⟩ rfl ⟨rmA (by omega) (by decide), rmB (by omega) (by decide)⟩ d_L_law_798 (c_M_hash hfl (by decide) hM1 hb1) (fun y2 F2 hq => ?_)
  obtain ⟨hy, hm, hoff2⟩ := hq
  unfold hold at hx
  have h2 : F2 108 = .inl (g 5, 1, .inr (.inl h9)) := (hoff2 108 (Or.inr (by decide))).trans ((hoff1 108 (by decide)).trans h108)
  have cmv : ∀ {R' : Nat → Vn} {ln' sh' : List Nat}, cst ad g R' ln' sh' F1 → cst ad g R' ln' sh' F2 := fun h => cst_cg h (fun j hj => hoff2 j (Or.inl hj))
  refine J_lcmpeq (tgt := 1088) d_L_law_801 d_L_law_802 (by decide) hbb (hashQ_b (regV_ok hok _) hy) (fun _ => ?_) (fun c => absurd (hashQ_one hx hy) c)
  exact next kc ks R ln sh F2 (by omega) (by omega) ⟨cmv hc, ⟨_, hm⟩, hok, h9, h2⟩
set_option maxRecDepth 100000 in
set_option maxHeartbeats 4000000 in
theorem lw_c16 {l : Launch} (hfl : l.flags = flags0) {D : va_G} {g : Nat → ClassId} {A : Nat → Prop} {X : State → Method → Prop} {Q : JQ} {ad : Nat → Nat} {b L i kc ks : Nat} {xs : Nat → Int32} {zs : Nat → Int} {R : Nat → Vn} {ln sh : List Nat} {F : Nat → va_E}
    (hE : lwE A X b L xs zs) (hi : i + 5 ≤ L) (hL : L ≤ 2560) (hk : kc ≤ 900) (hs : ks ≤ 9000) (hS : lwS ad g R ln sh F) (next : lwN l D g A X Q ad b i kc ks) : JL l D g A X Q ad kc ks 969 (lvL b ad i) [] F := by
  obtain ⟨hC, ⟨th, hM⟩, hok, h9, h108⟩ := hS
  obtain ⟨fs0, hF0⟩ := cst_0 hC
  obtain ⟨hXs, hzs, hzb⟩ := hE
  obtain ⟨z1, hz1⟩ : ∃ z, zs (i + 1) = z := ⟨_, rfl⟩
  have hb1 : inI z1 := hz1 ▸ hzb (i + 1)
  obtain ⟨z2, hz2⟩ : ∃ z, zs (i + 2) = z := ⟨_, rfl⟩
  have hb2 : inI z2 := hz2 ▸ hzb (i + 2)
  obtain ⟨z3, hz3⟩ : ∃ z, zs (i + 3) = z := ⟨_, rfl⟩
  have hb3 : inI z3 := hz3 ▸ hzb (i + 3)
  obtain ⟨z4, hz4⟩ : ∃ z, zs (i + 4) = z := ⟨_, rfl⟩
  have hb4 : inI z4 := hz4 ▸ hzb (i + 4)
  refine J_aload_n 1 d_L_law_969 rfl rfl ?_
  refine J_aload_n 0 d_L_law_970 rfl rfl ?_
  refine J_iload 4 d_L_law_971 rfl ?_
  refine J_iconst d_L_law_973 ?_
  refine J_iadd d_L_law_974 ?_
  refine J_sld hXs hzs ⟨by omega, by omega, by omega⟩ d_L_law_975 ?_
  refine J_topi (r := z1) (congrArg iI ((congrArg zs (by omega)).trans hz1)) ?_
  refine J_callVd cw_L_121 nh_X_value pn_X_value rfl rfl (by decide) hF0 (As := [.int (iI z1)]) (rest := []) rfl (Nat.le_of_ble_eq_true rfl) ⟨by decide, by decide⟩ rfl ⟨rmA (by omega) (by decide), rmB (by omega) (by decide)⟩ d_L_law_976 (c_X_value hfl (by decide) hC hok hb1) (fun y1 F1 hq => ?_)
  obtain ⟨hx, hc, hoff1⟩ := hq
  replace hx : hold _ := hx
  have hM1 := mst_cg hM (fun j a _ => hoff1 j a)
  obtain ⟨f1, v1, hO1, -⟩ := mst_98 hM1
  refine J_dstore (lv' := [(5, .double y1), (0, .ref b), (1, .ref (ad 0)), (2, .ref (ad 98)), (3, .ref (ad 108)), (4, .int (iI (i : Int)))]) d_L_law_979 (by decide) rfl ?_
  refine J_aload_n 3 d_L_law_981 rfl rfl ?_
  refine J_aload_n 1 d_L_law_982 rfl rfl ?_
  refine J_iload 5 d_L_law_983 rfl ?_
  refine J_iconst d_L_law_985 ?_
  refine J_iadd d_L_law_986 ?_
  refine J_sld hXs hzs ⟨by omega, by omega, by omega⟩ d_L_law_987 ?_
  refine J_topi (r := z1) (congrArg iI ((congrArg zs (by omega)).trans hz1)) ?_
  refine J_callVd cw_L_125 nh_M_value pn_M_value rfl rfl (by decide) hO1 (As := [.int (iI z1)]) (rest := []) rfl (Nat.le_of_ble_eq_true rfl) ⟨by decide, by decide⟩ rfl ⟨rmA (by omega) (by decide), rmB (by omega) (by decide)⟩ d_L_law_988 (c_M_value hfl (by decide) hM1 hb1) (fun y2 F2 hq => ?_)
  obtain ⟨hy, hm, hoff2⟩ := hq
  unfold hold at hx
  obtain rfl := valQ_one hx hy
  have h2 : F2 108 = .inl (g 5, 1, .inr (.inl h9)) := (hoff2 108 (Or.inr (by decide))).trans ((hoff1 108 (by decide)).trans h108)
  have cmv : ∀ {R' : Nat → Vn} {ln' sh' : List Nat}, cst ad g R' ln' sh' F1 → cst ad g R' ln' sh' F2 := fun h => cst_cg h (fun j hj => hoff2 j (Or.inl hj))
  refine J_dstore (lv' := [(7, .double y1), (5, .double y1), (0, .ref b), (1, .ref (ad 0)), (2, .ref (ad 98)), (3, .ref (ad 108)), (4, .int (iI (i : Int)))]) d_L_law_991 (by decide) rfl ?_
  have fin : JL l D g A X Q ad kc ks 1019 [(7, .double y1), (5, .double y1), (0, .ref b), (1, .ref (ad 0)), (2, .ref (ad 98)), (3, .ref (ad 108)), (4, .int (iI (i : Int)))] [] F2 := by
    refine J_goto (tgt := 1088) d_L_law_1019 (by decide) ?_
    exact J_pick [2, 3, 4, 5, 6] rfl (next kc ks R ln sh F2 (by omega) (by omega) ⟨cmv hc, ⟨_, hm⟩, hok, h9, h2⟩)
  refine J_dload 1 d_L_law_993 rfl ?_
  refine J_dload 0 d_L_law_995 rfl ?_
  refine J_dcmp d_L_law_997 ?_
  refine J_rifeq (tgt := 1019) d_L_law_998 (by decide) (fun _ => fin) (fun c => ?_)
  refine J_dload 1 d_L_law_1001 rfl ?_
  refine J_dload 1 d_L_law_1003 rfl ?_
  refine J_dcmp d_L_law_1005 ?_
  refine J_rifeq (tgt := 1017) d_L_law_1006 (by decide) (fun c2 => absurd c2 c) (fun _ => ?_)
  refine J_dload 0 d_L_law_1009 rfl ?_
  refine J_dload 0 d_L_law_1011 rfl ?_
  refine J_dcmp d_L_law_1013 ?_
  exact J_rifne (tgt := 1019) d_L_law_1014 (by decide) (fun _ => fin) (fun c2 => absurd c2 c)
set_option maxRecDepth 100000 in
set_option maxHeartbeats 4000000 in
theorem lw_c17 {l : Launch} (hfl : l.flags = flags0) {D : va_G} {g : Nat → ClassId} {A : Nat → Prop} {X : State → Method → Prop} {Q : JQ} {ad : Nat → Nat} {b L i kc ks : Nat} {xs : Nat → Int32} {zs : Nat → Int} {R : Nat → Vn} {ln sh : List Nat} {F : Nat → va_E}
    (hE : lwE A X b L xs zs) (hi : i + 5 ≤ L) (hL : L ≤ 2560) (hk : kc ≤ 900) (hs : ks ≤ 9000) (hS : lwS ad g R ln sh F) (next : lwN l D g A X Q ad b i kc ks) : JL l D g A X Q ad kc ks 1022 (lvL b ad i) [] F := by
  obtain ⟨hC, ⟨th, hM⟩, hok, h9, h108⟩ := hS
  obtain ⟨fs0, hF0⟩ := cst_0 hC
  obtain ⟨hXs, hzs, hzb⟩ := hE
  obtain ⟨z1, hz1⟩ : ∃ z, zs (i + 1) = z := ⟨_, rfl⟩
  have hb1 : inI z1 := hz1 ▸ hzb (i + 1)
  obtain ⟨z2, hz2⟩ : ∃ z, zs (i + 2) = z := ⟨_, rfl⟩
  have hb2 : inI z2 := hz2 ▸ hzb (i + 2)
  obtain ⟨z3, hz3⟩ : ∃ z, zs (i + 3) = z := ⟨_, rfl⟩
  have hb3 : inI z3 := hz3 ▸ hzb (i + 3)
  obtain ⟨z4, hz4⟩ : ∃ z, zs (i + 4) = z := ⟨_, rfl⟩
  have hb4 : inI z4 := hz4 ▸ hzb (i + 4)
  obtain ⟨lw, hlw⟩ : ∃ lw : Int, (z2 = 0 ∧ lw = 0) ∨ (z2 ≠ 0 ∧ lw = 1) := by
    by_cases c : z2 = 0
    · exact ⟨0, Or.inl ⟨c, rfl⟩⟩
    · exact ⟨1, Or.inr ⟨c, rfl⟩⟩
  have hl01 : lw = 0 ∨ lw = 1 := by omega
  have lab1 : JL l D g A X Q ad kc ks 1043 (lvL b ad i) [.int (iI lw), .int (iI z1), .ref (ad 0)] F := by
    refine J_aload_n 0 d_L_law_1043 rfl rfl ?_
    refine J_iload 4 d_L_law_1044 rfl ?_
    refine J_iconst d_L_law_1046 ?_
    refine J_iadd d_L_law_1047 ?_
    refine J_sld hXs hzs ⟨by omega, by omega, by omega⟩ d_L_law_1048 ?_
    refine J_topi (r := z3) (congrArg iI ((congrArg zs (by omega)).trans hz3)) ?_
    refine J_callVl cw_L_126 nh_X_part pn_X_part rfl rfl (by decide) hF0 (As := [.int (iI z1), .int (iI lw), .int (iI z3)]) (rest := []) rfl (Nat.le_of_ble_eq_true rfl) ⟨by decide, by decide⟩ rfl ⟨rmA (by omega) (by decide), rmB (by omega) (by decide)⟩ d_L_law_1049 (c_X_part hfl (by decide) hC hok hb1 hl01 hb3) (fun y1 F1 hq => ?_)
    obtain ⟨hx, hc, hoff1⟩ := hq
    have hM1 := mst_cg hM (fun j a _ => hoff1 j a)
    obtain ⟨f1, v1, hO1, -⟩ := mst_98 hM1
    have lab2 : JL l D g A X Q ad kc ks 1073 (lvL b ad i) [.int (iI lw), .int (iI z1), .ref (ad 98), .long (lI y1)] F1 := by
      refine J_aload_n 0 d_L_law_1073 rfl rfl ?_
      refine J_iload 4 d_L_law_1074 rfl ?_
      refine J_iconst d_L_law_1076 ?_
      refine J_iadd d_L_law_1077 ?_
      refine J_sld hXs hzs ⟨by omega, by omega, by omega⟩ d_L_law_1078 ?_
      refine J_topi (r := z3) (congrArg iI ((congrArg zs (by omega)).trans hz3)) ?_
      refine J_callVl cw_L_130 nh_M_part pn_M_part rfl rfl (by decide) hO1 (As := [.int (iI z1), .int (iI lw), .int (iI z3)]) (rest := [.long (lI y1)]) rfl (Nat.le_of_ble_eq_true rfl) ⟨by decide, by decide⟩ rfl ⟨rmA (by omega) (by decide), rmB (by omega) (by decide)⟩ d_L_law_1079 (c_M_part hfl (by decide) hM1 hb1 hl01 hb3) (fun y2 F2 hq => ?_)
      obtain ⟨hy, hm, hoff2⟩ := hq
      have h2 : F2 108 = .inl (g 5, 1, .inr (.inl h9)) := (hoff2 108 (Or.inr (by decide))).trans ((hoff1 108 (by decide)).trans h108)
      have cmv : ∀ {R' : Nat → Vn} {ln' sh' : List Nat}, cst ad g R' ln' sh' F1 → cst ad g R' ln' sh' F2 := fun h => cst_cg h (fun j hj => hoff2 j (Or.inl hj))
      refine J_lcmpeq (tgt := 1088) d_L_law_1082 d_L_law_1083 (by decide) (partQ_b hx) (partQ_b hy) (fun _ => ?_) (fun c => absurd (hx.trans hy.symm) c)
      exact next kc ks R ln sh F2 (by omega) (by omega) ⟨cmv hc, ⟨_, hm⟩, hok, h9, h2⟩
    refine J_aload_n 2 d_L_law_1052 rfl rfl ?_
    refine J_aload_n 0 d_L_law_1053 rfl rfl ?_
    refine J_iload 4 d_L_law_1054 rfl ?_
    refine J_iconst d_L_law_1056 ?_
    refine J_iadd d_L_law_1057 ?_
    refine J_sld hXs hzs ⟨by omega, by omega, by omega⟩ d_L_law_1058 ?_
    refine J_topi (r := z1) (congrArg iI ((congrArg zs (by omega)).trans hz1)) ?_
    refine J_aload_n 0 d_L_law_1059 rfl rfl ?_
    refine J_iload 4 d_L_law_1060 rfl ?_
    refine J_iconst d_L_law_1062 ?_
    refine J_iadd d_L_law_1063 ?_
    refine J_sld hXs hzs ⟨by omega, by omega, by omega⟩ d_L_law_1064 ?_
    refine J_topi (r := z2) (congrArg iI ((congrArg zs (by omega)).trans hz2)) ?_
    refine J_ifeq (tgt := 1072) d_L_law_1065 (by decide) hb2 (fun c => ?_) (fun c => ?_)
    · refine J_iconst d_L_law_1072 ?_
      refine J_topi (r := lw) (congrArg iI (by omega)) ?_
      exact lab2
    · refine J_iconst d_L_law_1068 ?_
      refine J_goto (tgt := 1073) d_L_law_1069 (by decide) ?_
      refine J_topi (r := lw) (congrArg iI (by omega)) ?_
      exact lab2
  refine J_aload_n 1 d_L_law_1022 rfl rfl ?_
  refine J_aload_n 0 d_L_law_1023 rfl rfl ?_
  refine J_iload 4 d_L_law_1024 rfl ?_
  refine J_iconst d_L_law_1026 ?_
  refine J_iadd d_L_law_1027 ?_
  refine J_sld hXs hzs ⟨by omega, by omega, by omega⟩ d_L_law_1028 ?_
  refine J_topi (r := z1) (congrArg iI ((congrArg zs (by omega)).trans hz1)) ?_
  refine J_aload_n 0 d_L_law_1029 rfl rfl ?_
  refine J_iload 4 d_L_law_1030 rfl ?_
  refine J_iconst d_L_law_1032 ?_
  refine J_iadd d_L_law_1033 ?_
  refine J_sld hXs hzs ⟨by omega, by omega, by omega⟩ d_L_law_1034 ?_
  refine J_topi (r := z2) (congrArg iI ((congrArg zs (by omega)).trans hz2)) ?_
  refine J_ifeq (tgt := 1042) d_L_law_1035 (by decide) hb2 (fun c => ?_) (fun c => ?_)
  · refine J_iconst d_L_law_1042 ?_
    refine J_topi (r := lw) (congrArg iI (by omega)) ?_
    exact lab1
  · refine J_iconst d_L_law_1038 ?_
    refine J_goto (tgt := 1043) d_L_law_1039 (by decide) ?_
    refine J_topi (r := lw) (congrArg iI (by omega)) ?_
    exact lab1
set_option maxRecDepth 100000 in
set_option maxHeartbeats 4000000 in
theorem lw_c2 {l : Launch} (hfl : l.flags = flags0) {D : va_G} {g : Nat → ClassId} {A : Nat → Prop} {X : State → Method → Prop} {Q : JQ} {ad : Nat → Nat} {b L i kc ks : Nat} {xs : Nat → Int32} {zs : Nat → Int} {R : Nat → Vn} {ln sh : List Nat} {F : Nat → va_E}
    (hE : lwE A X b L xs zs) (hi : i + 5 ≤ L) (hL : L ≤ 2560) (hk : kc ≤ 900) (hs : ks ≤ 9000) (hS : lwS ad g R ln sh F) (next : lwN l D g A X Q ad b i kc ks) : JL l D g A X Q ad kc ks 160 (lvL b ad i) [] F := by
  obtain ⟨hC, ⟨th, hM⟩, hok, h9, h108⟩ := hS
  obtain ⟨fs0, hF0⟩ := cst_0 hC
  obtain ⟨hXs, hzs, hzb⟩ := hE
  obtain ⟨z1, hz1⟩ : ∃ z, zs (i + 1) = z := ⟨_, rfl⟩
  have hb1 : inI z1 := hz1 ▸ hzb (i + 1)
  obtain ⟨z2, hz2⟩ : ∃ z, zs (i + 2) = z := ⟨_, rfl⟩
  have hb2 : inI z2 := hz2 ▸ hzb (i + 2)
  obtain ⟨z3, hz3⟩ : ∃ z, zs (i + 3) = z := ⟨_, rfl⟩
  have hb3 : inI z3 := hz3 ▸ hzb (i + 3)
  obtain ⟨z4, hz4⟩ : ∃ z, zs (i + 4) = z := ⟨_, rfl⟩
  have hb4 : inI z4 := hz4 ▸ hzb (i + 4)
  refine J_aload_n 1 d_L_law_160 rfl rfl ?_
  refine J_aload_n 0 d_L_law_161 rfl rfl ?_
  refine J_iload 4 d_L_law_162 rfl ?_
  refine J_iconst d_L_law_164 ?_
  refine J_iadd d_L_law_165 ?_
  refine J_sld hXs hzs ⟨by omega, by omega, by omega⟩ d_L_law_166 ?_
  refine J_topi (r := z1) (congrArg iI ((congrArg zs (by omega)).trans hz1)) ?_
  refine J_aload_n 3 d_L_law_167 rfl rfl ?_
  refine J_callSG ⟨wd_489, wd_490, wd_491, wd_0⟩ cwl_1 cwl_2 (fun _ _ _ h => h) (fun _ _ _ => trivial) ⟨by decide, by decide⟩ (by decide +kernel : (parseMethodDescriptor y_L_read.desc).map (fun d => d.parameters.length) = some 3) rfl (As := [.ref (ad 0), .int (iI z1), .ref (ad 108)]) (rest := []) rfl (Nat.le_of_ble_eq_true rfl) ⟨by decide, by decide⟩ ⟨rmA (by omega) (by decide), rmB (by omega) (by decide)⟩ d_L_law_168 (c_L_read hfl (h0 := h9) (by decide) hF0 (fun z F9 q => by obtain ⟨w, -, -, -, q⟩ := q; exact (q 108 (by decide)).trans h108) (fun k F9 q => by have q := readO_k q.1; omega) (c_X_read hfl (by decide) hC hok hb1)) (fun v a2 N2 F1 hq => ?_) (fun _ _ _ _ hq => by obtain ⟨z9, hz9, -⟩ := hq; cases hz9)
  obtain ⟨z, hz, ha2, hn2, hx⟩ := hq
  cases hz
  replace ha2 := ha2.symm
  replace hn2 := hn2.symm
  subst ha2
  subst hn2
  have hfr1 : ∀ j, 98 ≤ j → j ≤ 107 → F1 j = F j := by
    rcases hx with ⟨-, z9, F9, ⟨w, -, -, -, ho⟩, rfl⟩ | ⟨k, ⟨-, -, ho⟩, -⟩
    · exact fun j a b => (va_up_ne _ _ (by omega)).trans (ho j a)
    · exact fun j a b => ho j a
  replace hx : hold _ := hx
  refine J_widen (kc' := kc + 1) (ks' := ks + 6) (Nat.le_refl _) (Nat.le_refl _) ?_
  show JL l D g A X Q ad (kc + 1) (ks + 6) 171 (lvL b ad i) [.int (iI z)] F1
  refine J_istore (lv' := (5, .int (iI z)) :: lvL b ad i) d_L_law_171 (by decide) rfl ?_
  have hM1 := mst_cg hM hfr1
  obtain ⟨f1, v1, hO1, -⟩ := mst_98 hM1
  refine J_aload_n 3 d_L_law_173 rfl rfl ?_
  refine J_aload_n 1 d_L_law_174 rfl rfl ?_
  refine J_iload 5 d_L_law_175 rfl ?_
  refine J_iconst d_L_law_177 ?_
  refine J_iadd d_L_law_178 ?_
  refine J_sld hXs hzs ⟨by omega, by omega, by omega⟩ d_L_law_179 ?_
  refine J_topi (r := z1) (congrArg iI ((congrArg zs (by omega)).trans hz1)) ?_
  refine J_callVi cw_L_61 nh_M_read pn_M_read rfl rfl (by decide) hO1 (As := [.int (iI z1)]) (rest := []) rfl (Nat.le_of_ble_eq_true rfl) ⟨by decide, by decide⟩ rfl ⟨rmA (by omega) (by decide), rmB (by omega) (by decide)⟩ d_L_law_180 (c_M_read hfl (by decide) hM1 hb1) (fun y2 F2 hq => ?_)
  unfold hold at hx
  obtain ⟨hm, hoff2⟩ := hq
  obtain ⟨R2, h, hC2, hM2, hok2, h2, hzy, hyb, hzb2⟩ := lw_sto (P := fun o => readO ln z1 = o) (mc := fun k => k + 1) (to := z1) (fun o o' h h' => h.symm.trans h') (fun k h => by have := readO_k h; omega) hx ⟨_, rfl, hm⟩ hoff2 hok h108
  refine J_istore (lv' := (6, .int (iI y2)) :: (5, .int (iI z)) :: lvL b ad i) d_L_law_183 (by decide) rfl ?_
  exact lw_tail hfl (p := 185) d_L_law_185 d_L_law_186 d_L_law_189 d_L_law_191 d_L_law_196 d_L_law_198 d_L_law_201 d_L_law_202 d_L_law_203 d_L_law_204 d_L_law_206 d_L_law_207 d_L_law_208 d_L_law_213 (by decide) (by omega) (by omega) hM2 h2 hzy hyb hzb2 (next (kc + 1) (ks + 6) R2 [] sh F2 (by omega) (by omega) ⟨hC2, ⟨_, hM2⟩, hok2, h, h2⟩)
set_option maxRecDepth 100000 in
set_option maxHeartbeats 4000000 in
theorem lw_c5 {l : Launch} (hfl : l.flags = flags0) {D : va_G} {g : Nat → ClassId} {A : Nat → Prop} {X : State → Method → Prop} {Q : JQ} {ad : Nat → Nat} {b L i kc ks : Nat} {xs : Nat → Int32} {zs : Nat → Int} {R : Nat → Vn} {ln sh : List Nat} {F : Nat → va_E}
    (hE : lwE A X b L xs zs) (hi : i + 5 ≤ L) (hL : L ≤ 2560) (hk : kc ≤ 900) (hs : ks ≤ 9000) (hS : lwS ad g R ln sh F) (next : lwN l D g A X Q ad b i kc ks) : JL l D g A X Q ad kc ks 332 (lvL b ad i) [] F := by
  obtain ⟨hC, ⟨th, hM⟩, hok, h9, h108⟩ := hS
  obtain ⟨fs0, hF0⟩ := cst_0 hC
  obtain ⟨hXs, hzs, hzb⟩ := hE
  obtain ⟨z1, hz1⟩ : ∃ z, zs (i + 1) = z := ⟨_, rfl⟩
  have hb1 : inI z1 := hz1 ▸ hzb (i + 1)
  obtain ⟨z2, hz2⟩ : ∃ z, zs (i + 2) = z := ⟨_, rfl⟩
  have hb2 : inI z2 := hz2 ▸ hzb (i + 2)
  obtain ⟨z3, hz3⟩ : ∃ z, zs (i + 3) = z := ⟨_, rfl⟩
  have hb3 : inI z3 := hz3 ▸ hzb (i + 3)
  obtain ⟨z4, hz4⟩ : ∃ z, zs (i + 4) = z := ⟨_, rfl⟩
  have hb4 : inI z4 := hz4 ▸ hzb (i + 4)
  refine J_aload_n 1 d_L_law_332 rfl rfl ?_
  refine J_aload_n 0 d_L_law_333 rfl rfl ?_
  refine J_iload 4 d_L_law_334 rfl ?_
  refine J_iconst d_L_law_336 ?_
  refine J_iadd d_L_law_337 ?_
  refine J_sld hXs hzs ⟨by omega, by omega, by omega⟩ d_L_law_338 ?_
  refine J_topi (r := z1) (congrArg iI ((congrArg zs (by omega)).trans hz1)) ?_
  refine J_aload_n 0 d_L_law_339 rfl rfl ?_
  refine J_iload 4 d_L_law_340 rfl ?_
  refine J_iconst d_L_law_342 ?_
  refine J_iadd d_L_law_343 ?_
  refine J_sld hXs hzs ⟨by omega, by omega, by omega⟩ d_L_law_344 ?_
  refine J_topi (r := z2) (congrArg iI ((congrArg zs (by omega)).trans hz2)) ?_
  refine J_aload_n 0 d_L_law_345 rfl rfl ?_
  refine J_iload 4 d_L_law_346 rfl ?_
  refine J_iconst d_L_law_348 ?_
  refine J_iadd d_L_law_349 ?_
  refine J_sld hXs hzs ⟨by omega, by omega, by omega⟩ d_L_law_350 ?_
  refine J_topi (r := z3) (congrArg iI ((congrArg zs (by omega)).trans hz3)) ?_
  refine J_aload_n 0 d_L_law_351 rfl rfl ?_
  refine J_iload 4 d_L_law_352 rfl ?_
  refine J_iconst d_L_law_354 ?_
  refine J_iadd d_L_law_355 ?_
  refine J_sld hXs hzs ⟨by omega, by omega, by omega⟩ d_L_law_356 ?_
  refine J_topi (r := z4) (congrArg iI ((congrArg zs (by omega)).trans hz4)) ?_
  refine J_aload_n 3 d_L_law_357 rfl rfl ?_
  refine J_callSG ⟨wd_656, wd_657, wd_658, wd_0⟩ cwl_1 cwl_2 (fun _ _ _ h => h) (fun _ _ _ => trivial) ⟨by decide, by decide⟩ (by decide +kernel : (parseMethodDescriptor y_L_combine.desc).map (fun d => d.parameters.length) = some 6) rfl (As := [.ref (ad 0), .int (iI z1), .int (iI z2), .int (iI z3), .int (iI z4), .ref (ad 108)]) (rest := []) rfl (Nat.le_of_ble_eq_true rfl) ⟨by decide, by decide⟩ ⟨rmA (by omega) (by decide), rmB (by omega) (by decide)⟩ d_L_law_358 (c_L_combine hfl (h0 := h9) (by decide) hF0 (fun z F9 q => by obtain ⟨w, -, -, -, q⟩ := q; exact (q 108 (by decide)).trans h108) (fun k F9 q => by have q := combO_k q.1; omega) (c_X_combine hfl (by decide) hC hok hb1 hb2 hb3 hb4)) (fun v a2 N2 F1 hq => ?_) (fun _ _ _ _ hq => by obtain ⟨z9, hz9, -⟩ := hq; cases hz9)
  obtain ⟨z, hz, ha2, hn2, hx⟩ := hq
  cases hz
  replace ha2 := ha2.symm
  replace hn2 := hn2.symm
  subst ha2
  subst hn2
  have hfr1 : ∀ j, 98 ≤ j → j ≤ 107 → F1 j = F j := by
    rcases hx with ⟨-, z9, F9, ⟨w, -, -, -, ho⟩, rfl⟩ | ⟨k, ⟨-, -, ho⟩, -⟩
    · exact fun j a b => (va_up_ne _ _ (by omega)).trans (ho j a)
    · exact fun j a b => ho j a
  replace hx : hold _ := hx
  refine J_widen (kc' := kc + 1) (ks' := ks + 6) (Nat.le_refl _) (Nat.le_refl _) ?_
  show JL l D g A X Q ad (kc + 1) (ks + 6) 361 (lvL b ad i) [.int (iI z)] F1
  refine J_istore (lv' := (5, .int (iI z)) :: lvL b ad i) d_L_law_361 (by decide) rfl ?_
  have hM1 := mst_cg hM hfr1
  obtain ⟨f1, v1, hO1, -⟩ := mst_98 hM1
  refine J_aload_n 3 d_L_law_363 rfl rfl ?_
  refine J_aload_n 1 d_L_law_364 rfl rfl ?_
  refine J_iload 5 d_L_law_365 rfl ?_
  refine J_iconst d_L_law_367 ?_
  refine J_iadd d_L_law_368 ?_
  refine J_sld hXs hzs ⟨by omega, by omega, by omega⟩ d_L_law_369 ?_
  refine J_topi (r := z1) (congrArg iI ((congrArg zs (by omega)).trans hz1)) ?_
  refine J_aload_n 1 d_L_law_370 rfl rfl ?_
  refine J_iload 5 d_L_law_371 rfl ?_
  refine J_iconst d_L_law_373 ?_
  refine J_iadd d_L_law_374 ?_
  refine J_sld hXs hzs ⟨by omega, by omega, by omega⟩ d_L_law_375 ?_
  refine J_topi (r := z2) (congrArg iI ((congrArg zs (by omega)).trans hz2)) ?_
  refine J_aload_n 1 d_L_law_376 rfl rfl ?_
  refine J_iload 5 d_L_law_377 rfl ?_
  refine J_iconst d_L_law_379 ?_
  refine J_iadd d_L_law_380 ?_
  refine J_sld hXs hzs ⟨by omega, by omega, by omega⟩ d_L_law_381 ?_
  refine J_topi (r := z3) (congrArg iI ((congrArg zs (by omega)).trans hz3)) ?_
  refine J_aload_n 1 d_L_law_382 rfl rfl ?_
  refine J_iload 5 d_L_law_383 rfl ?_
  refine J_iconst d_L_law_385 ?_
  refine J_iadd d_L_law_386 ?_
  refine J_sld hXs hzs ⟨by omega, by omega, by omega⟩ d_L_law_387 ?_
  refine J_topi (r := z4) (congrArg iI ((congrArg zs (by omega)).trans hz4)) ?_
  refine J_callVi cw_L_83 nh_M_combine pn_M_combine rfl rfl (by decide) hO1 (As := [.int (iI z1), .int (iI z2), .int (iI z3), .int (iI z4)]) (rest := []) rfl (Nat.le_of_ble_eq_true rfl) ⟨by decide, by decide⟩ rfl ⟨rmA (by omega) (by decide), rmB (by omega) (by decide)⟩ d_L_law_388 (c_M_combine hfl (by decide) hM1 hb1 hb2 hb3 hb4) (fun y2 F2 hq => ?_)
  unfold hold at hx
  obtain ⟨hm, hoff2⟩ := hq
  obtain ⟨R2, h, hC2, hM2, hok2, h2, hzy, hyb, hzb2⟩ := lw_sto (P := fun o => combO R z1 z2 z3 z4 = o) (mc := fun k => k + 1) (to := z4) (fun o o' h h' => h.symm.trans h') (fun k h => by have := combO_k h; omega) hx ⟨_, rfl, hm⟩ hoff2 hok h108
  refine J_istore (lv' := (6, .int (iI y2)) :: (5, .int (iI z)) :: lvL b ad i) d_L_law_391 (by decide) rfl ?_
  exact lw_tail hfl (p := 393) d_L_law_393 d_L_law_394 d_L_law_397 d_L_law_399 d_L_law_404 d_L_law_406 d_L_law_409 d_L_law_410 d_L_law_411 d_L_law_412 d_L_law_414 d_L_law_415 d_L_law_416 d_L_law_421 (by decide) (by omega) (by omega) hM2 h2 hzy hyb hzb2 (next (kc + 1) (ks + 6) R2 ln sh F2 (by omega) (by omega) ⟨hC2, ⟨_, hM2⟩, hok2, h, h2⟩)
set_option maxRecDepth 100000 in
set_option maxHeartbeats 4000000 in
theorem lw_c6 {l : Launch} (hfl : l.flags = flags0) {D : va_G} {g : Nat → ClassId} {A : Nat → Prop} {X : State → Method → Prop} {Q : JQ} {ad : Nat → Nat} {b L i kc ks : Nat} {xs : Nat → Int32} {zs : Nat → Int} {R : Nat → Vn} {ln sh : List Nat} {F : Nat → va_E}
    (hE : lwE A X b L xs zs) (hi : i + 5 ≤ L) (hL : L ≤ 2560) (hk : kc ≤ 900) (hs : ks ≤ 9000) (hS : lwS ad g R ln sh F) (next : lwN l D g A X Q ad b i kc ks) : JL l D g A X Q ad kc ks 424 (lvL b ad i) [] F := by
  obtain ⟨hC, ⟨th, hM⟩, hok, h9, h108⟩ := hS
  obtain ⟨fs0, hF0⟩ := cst_0 hC
  obtain ⟨hXs, hzs, hzb⟩ := hE
  obtain ⟨z1, hz1⟩ : ∃ z, zs (i + 1) = z := ⟨_, rfl⟩
  have hb1 : inI z1 := hz1 ▸ hzb (i + 1)
  obtain ⟨z2, hz2⟩ : ∃ z, zs (i + 2) = z := ⟨_, rfl⟩
  have hb2 : inI z2 := hz2 ▸ hzb (i + 2)
  obtain ⟨z3, hz3⟩ : ∃ z, zs (i + 3) = z := ⟨_, rfl⟩
  have hb3 : inI z3 := hz3 ▸ hzb (i + 3)
  obtain ⟨z4, hz4⟩ : ∃ z, zs (i + 4) = z := ⟨_, rfl⟩
  have hb4 : inI z4 := hz4 ▸ hzb (i + 4)
  refine J_aload_n 1 d_L_law_424 rfl rfl ?_
  refine J_aload_n 0 d_L_law_425 rfl rfl ?_
  refine J_iload 4 d_L_law_426 rfl ?_
  refine J_iconst d_L_law_428 ?_
  refine J_iadd d_L_law_429 ?_
  refine J_sld hXs hzs ⟨by omega, by omega, by omega⟩ d_L_law_430 ?_
  refine J_topi (r := z1) (congrArg iI ((congrArg zs (by omega)).trans hz1)) ?_
  refine J_aload_n 0 d_L_law_431 rfl rfl ?_
  refine J_iload 4 d_L_law_432 rfl ?_
  refine J_iconst d_L_law_434 ?_
  refine J_iadd d_L_law_435 ?_
  refine J_sld hXs hzs ⟨by omega, by omega, by omega⟩ d_L_law_436 ?_
  refine J_topi (r := z2) (congrArg iI ((congrArg zs (by omega)).trans hz2)) ?_
  refine J_aload_n 0 d_L_law_437 rfl rfl ?_
  refine J_iload 4 d_L_law_438 rfl ?_
  refine J_iconst d_L_law_440 ?_
  refine J_iadd d_L_law_441 ?_
  refine J_sld hXs hzs ⟨by omega, by omega, by omega⟩ d_L_law_442 ?_
  refine J_topi (r := z3) (congrArg iI ((congrArg zs (by omega)).trans hz3)) ?_
  refine J_aload_n 0 d_L_law_443 rfl rfl ?_
  refine J_iload 4 d_L_law_444 rfl ?_
  refine J_iconst d_L_law_446 ?_
  refine J_iadd d_L_law_447 ?_
  refine J_sld hXs hzs ⟨by omega, by omega, by omega⟩ d_L_law_448 ?_
  refine J_topi (r := z4) (congrArg iI ((congrArg zs (by omega)).trans hz4)) ?_
  refine J_aload_n 3 d_L_law_449 rfl rfl ?_
  refine J_callSG ⟨wd_732, wd_733, wd_734, wd_0⟩ cwl_1 cwl_2 (fun _ _ _ h => h) (fun _ _ _ => trivial) ⟨by decide, by decide⟩ (by decide +kernel : (parseMethodDescriptor y_L_power.desc).map (fun d => d.parameters.length) = some 6) rfl (As := [.ref (ad 0), .int (iI z1), .int (iI z2), .int (iI z3), .int (iI z4), .ref (ad 108)]) (rest := []) rfl (Nat.le_of_ble_eq_true rfl) ⟨by decide, by decide⟩ ⟨rmA (by omega) (by decide), rmB (by omega) (by decide)⟩ d_L_law_450 (c_L_power hfl (h0 := h9) (by decide) hF0 (fun z F9 q => by obtain ⟨w, -, -, -, q⟩ := q; exact (q 108 (by decide)).trans h108) (fun k F9 q => by have q := powR_k q.1; omega) (c_X_power hfl (by decide) hC hok hb1 hb2 hb3 hb4)) (fun v a2 N2 F1 hq => ?_) (fun _ _ _ _ hq => by obtain ⟨z9, hz9, -⟩ := hq; cases hz9)
  obtain ⟨z, hz, ha2, hn2, hx⟩ := hq
  cases hz
  replace ha2 := ha2.symm
  replace hn2 := hn2.symm
  subst ha2
  subst hn2
  have hfr1 : ∀ j, 98 ≤ j → j ≤ 107 → F1 j = F j := by
    rcases hx with ⟨-, z9, F9, ⟨w, -, -, -, ho⟩, rfl⟩ | ⟨k, ⟨-, -, ho⟩, -⟩
    · exact fun j a b => (va_up_ne _ _ (by omega)).trans (ho j a)
    · exact fun j a b => ho j a
  replace hx : hold _ := hx
  refine J_widen (kc' := kc + 1) (ks' := ks + 6) (Nat.le_refl _) (Nat.le_refl _) ?_
  show JL l D g A X Q ad (kc + 1) (ks + 6) 453 (lvL b ad i) [.int (iI z)] F1
  refine J_istore (lv' := (5, .int (iI z)) :: lvL b ad i) d_L_law_453 (by decide) rfl ?_
  have hM1 := mst_cg hM hfr1
  obtain ⟨f1, v1, hO1, -⟩ := mst_98 hM1
  refine J_aload_n 3 d_L_law_455 rfl rfl ?_
  refine J_aload_n 1 d_L_law_456 rfl rfl ?_
  refine J_iload 5 d_L_law_457 rfl ?_
  refine J_iconst d_L_law_459 ?_
  refine J_iadd d_L_law_460 ?_
  refine J_sld hXs hzs ⟨by omega, by omega, by omega⟩ d_L_law_461 ?_
  refine J_topi (r := z1) (congrArg iI ((congrArg zs (by omega)).trans hz1)) ?_
  refine J_aload_n 1 d_L_law_462 rfl rfl ?_
  refine J_iload 5 d_L_law_463 rfl ?_
  refine J_iconst d_L_law_465 ?_
  refine J_iadd d_L_law_466 ?_
  refine J_sld hXs hzs ⟨by omega, by omega, by omega⟩ d_L_law_467 ?_
  refine J_topi (r := z2) (congrArg iI ((congrArg zs (by omega)).trans hz2)) ?_
  refine J_aload_n 1 d_L_law_468 rfl rfl ?_
  refine J_iload 5 d_L_law_469 rfl ?_
  refine J_iconst d_L_law_471 ?_
  refine J_iadd d_L_law_472 ?_
  refine J_sld hXs hzs ⟨by omega, by omega, by omega⟩ d_L_law_473 ?_
  refine J_topi (r := z3) (congrArg iI ((congrArg zs (by omega)).trans hz3)) ?_
  refine J_aload_n 1 d_L_law_474 rfl rfl ?_
  refine J_iload 5 d_L_law_475 rfl ?_
  refine J_iconst d_L_law_477 ?_
  refine J_iadd d_L_law_478 ?_
  refine J_sld hXs hzs ⟨by omega, by omega, by omega⟩ d_L_law_479 ?_
  refine J_topi (r := z4) (congrArg iI ((congrArg zs (by omega)).trans hz4)) ?_
  refine J_callVi cw_L_86 nh_M_power pn_M_power rfl rfl (by decide) hO1 (As := [.int (iI z1), .int (iI z2), .int (iI z3), .int (iI z4)]) (rest := []) rfl (Nat.le_of_ble_eq_true rfl) ⟨by decide, by decide⟩ rfl ⟨rmA (by omega) (by decide), rmB (by omega) (by decide)⟩ d_L_law_480 (c_M_power hfl (by decide) hM1 hb1 hb2 hb3 hb4) (fun y2 F2 hq => ?_)
  unfold hold at hx
  obtain ⟨o, ho, hm0, hoff2⟩ := hq
  obtain ⟨R2, h, hC2, hM2, hok2, h2, hzy, hyb, hzb2⟩ := lw_sto (P := powR (regV R z1) (regV R z2) (regV R z3) z4) (mc := fun k => k + 1) (to := z4) (fun o o' h h' => powR_one h h') (fun k h => by have := powR_k h; omega) hx ⟨o, ho, hm0⟩ hoff2 hok h108
  refine J_istore (lv' := (6, .int (iI y2)) :: (5, .int (iI z)) :: lvL b ad i) d_L_law_483 (by decide) rfl ?_
  exact lw_tail hfl (p := 485) d_L_law_485 d_L_law_486 d_L_law_489 d_L_law_491 d_L_law_496 d_L_law_498 d_L_law_501 d_L_law_502 d_L_law_503 d_L_law_504 d_L_law_506 d_L_law_507 d_L_law_508 d_L_law_513 (by decide) (by omega) (by omega) hM2 h2 hzy hyb hzb2 (next (kc + 1) (ks + 6) R2 ln sh F2 (by omega) (by omega) ⟨hC2, ⟨_, hM2⟩, hok2, h, h2⟩)
set_option maxRecDepth 100000 in
set_option maxHeartbeats 4000000 in
theorem lw_c7 {l : Launch} (hfl : l.flags = flags0) {D : va_G} {g : Nat → ClassId} {A : Nat → Prop} {X : State → Method → Prop} {Q : JQ} {ad : Nat → Nat} {b L i kc ks : Nat} {xs : Nat → Int32} {zs : Nat → Int} {R : Nat → Vn} {ln sh : List Nat} {F : Nat → va_E}
    (hE : lwE A X b L xs zs) (hi : i + 5 ≤ L) (hL : L ≤ 2560) (hk : kc ≤ 900) (hs : ks ≤ 9000) (hS : lwS ad g R ln sh F) (next : lwN l D g A X Q ad b i kc ks) : JL l D g A X Q ad kc ks 516 (lvL b ad i) [] F := by
  obtain ⟨hC, ⟨th, hM⟩, hok, h9, h108⟩ := hS
  obtain ⟨fs0, hF0⟩ := cst_0 hC
  obtain ⟨hXs, hzs, hzb⟩ := hE
  obtain ⟨z1, hz1⟩ : ∃ z, zs (i + 1) = z := ⟨_, rfl⟩
  have hb1 : inI z1 := hz1 ▸ hzb (i + 1)
  obtain ⟨z2, hz2⟩ : ∃ z, zs (i + 2) = z := ⟨_, rfl⟩
  have hb2 : inI z2 := hz2 ▸ hzb (i + 2)
  obtain ⟨z3, hz3⟩ : ∃ z, zs (i + 3) = z := ⟨_, rfl⟩
  have hb3 : inI z3 := hz3 ▸ hzb (i + 3)
  obtain ⟨z4, hz4⟩ : ∃ z, zs (i + 4) = z := ⟨_, rfl⟩
  have hb4 : inI z4 := hz4 ▸ hzb (i + 4)
  refine J_aload_n 1 d_L_law_516 rfl rfl ?_
  refine J_aload_n 0 d_L_law_517 rfl rfl ?_
  refine J_iload 4 d_L_law_518 rfl ?_
  refine J_iconst d_L_law_520 ?_
  refine J_iadd d_L_law_521 ?_
  refine J_sld hXs hzs ⟨by omega, by omega, by omega⟩ d_L_law_522 ?_
  refine J_topi (r := z1) (congrArg iI ((congrArg zs (by omega)).trans hz1)) ?_
  refine J_aload_n 0 d_L_law_523 rfl rfl ?_
  refine J_iload 4 d_L_law_524 rfl ?_
  refine J_iconst d_L_law_526 ?_
  refine J_iadd d_L_law_527 ?_
  refine J_sld hXs hzs ⟨by omega, by omega, by omega⟩ d_L_law_528 ?_
  refine J_topi (r := z2) (congrArg iI ((congrArg zs (by omega)).trans hz2)) ?_
  refine J_aload_n 0 d_L_law_529 rfl rfl ?_
  refine J_iload 4 d_L_law_530 rfl ?_
  refine J_iconst d_L_law_532 ?_
  refine J_iadd d_L_law_533 ?_
  refine J_sld hXs hzs ⟨by omega, by omega, by omega⟩ d_L_law_534 ?_
  refine J_topi (r := z3) (congrArg iI ((congrArg zs (by omega)).trans hz3)) ?_
  refine J_aload_n 3 d_L_law_535 rfl rfl ?_
  refine J_callSG ⟨wd_752, wd_753, wd_754, wd_0⟩ cwl_1 cwl_2 (fun _ _ _ h => h) (fun _ _ _ => trivial) ⟨by decide, by decide⟩ (by decide +kernel : (parseMethodDescriptor y_L_turn.desc).map (fun d => d.parameters.length) = some 5) rfl (As := [.ref (ad 0), .int (iI z1), .int (iI z2), .int (iI z3), .ref (ad 108)]) (rest := []) rfl (Nat.le_of_ble_eq_true rfl) ⟨by decide, by decide⟩ ⟨rmA (by omega) (by decide), rmB (by omega) (by decide)⟩ d_L_law_536 (c_L_turn hfl (h0 := h9) (by decide) hF0 (fun z F9 q => by obtain ⟨w, -, -, -, q⟩ := q; exact (q 108 (by decide)).trans h108) (fun k F9 q => by have q := turnO_k q.1; omega) (c_X_turn hfl (by decide) hC hok hb1 hb2 hb3)) (fun v a2 N2 F1 hq => ?_) (fun _ _ _ _ hq => by obtain ⟨z9, hz9, -⟩ := hq; cases hz9)
  obtain ⟨z, hz, ha2, hn2, hx⟩ := hq
  cases hz
  replace ha2 := ha2.symm
  replace hn2 := hn2.symm
  subst ha2
  subst hn2
  have hfr1 : ∀ j, 98 ≤ j → j ≤ 107 → F1 j = F j := by
    rcases hx with ⟨-, z9, F9, ⟨w, -, -, -, ho⟩, rfl⟩ | ⟨k, ⟨-, -, ho⟩, -⟩
    · exact fun j a b => (va_up_ne _ _ (by omega)).trans (ho j a)
    · exact fun j a b => ho j a
  replace hx : hold _ := hx
  refine J_widen (kc' := kc + 1) (ks' := ks + 6) (Nat.le_refl _) (Nat.le_refl _) ?_
  show JL l D g A X Q ad (kc + 1) (ks + 6) 539 (lvL b ad i) [.int (iI z)] F1
  refine J_istore (lv' := (5, .int (iI z)) :: lvL b ad i) d_L_law_539 (by decide) rfl ?_
  have hM1 := mst_cg hM hfr1
  obtain ⟨f1, v1, hO1, -⟩ := mst_98 hM1
  refine J_aload_n 3 d_L_law_541 rfl rfl ?_
  refine J_aload_n 1 d_L_law_542 rfl rfl ?_
  refine J_iload 5 d_L_law_543 rfl ?_
  refine J_iconst d_L_law_545 ?_
  refine J_iadd d_L_law_546 ?_
  refine J_sld hXs hzs ⟨by omega, by omega, by omega⟩ d_L_law_547 ?_
  refine J_topi (r := z1) (congrArg iI ((congrArg zs (by omega)).trans hz1)) ?_
  refine J_aload_n 1 d_L_law_548 rfl rfl ?_
  refine J_iload 5 d_L_law_549 rfl ?_
  refine J_iconst d_L_law_551 ?_
  refine J_iadd d_L_law_552 ?_
  refine J_sld hXs hzs ⟨by omega, by omega, by omega⟩ d_L_law_553 ?_
  refine J_topi (r := z2) (congrArg iI ((congrArg zs (by omega)).trans hz2)) ?_
  refine J_aload_n 1 d_L_law_554 rfl rfl ?_
  refine J_iload 5 d_L_law_555 rfl ?_
  refine J_iconst d_L_law_557 ?_
  refine J_iadd d_L_law_558 ?_
  refine J_sld hXs hzs ⟨by omega, by omega, by omega⟩ d_L_law_559 ?_
  refine J_topi (r := z3) (congrArg iI ((congrArg zs (by omega)).trans hz3)) ?_
  refine J_callVi cw_L_90 nh_M_turn pn_M_turn rfl rfl (by decide) hO1 (As := [.int (iI z1), .int (iI z2), .int (iI z3)]) (rest := []) rfl (Nat.le_of_ble_eq_true rfl) ⟨by decide, by decide⟩ rfl ⟨rmA (by omega) (by decide), rmB (by omega) (by decide)⟩ d_L_law_560 (c_M_turn hfl (by decide) hM1 hb1 hb2 hb3) (fun y2 F2 hq => ?_)
  unfold hold at hx
  obtain ⟨hm, hoff2⟩ := hq
  obtain ⟨R2, h, hC2, hM2, hok2, h2, hzy, hyb, hzb2⟩ := lw_sto (P := fun o => turnO R z1 z2 z3 = o) (mc := fun k => if k = 0 then 1 else 2) (to := z3) (fun o o' h h' => h.symm.trans h') (fun k _ => by split <;> omega) hx ⟨_, rfl, hm⟩ hoff2 hok h108
  refine J_istore (lv' := (6, .int (iI y2)) :: (5, .int (iI z)) :: lvL b ad i) d_L_law_563 (by decide) rfl ?_
  exact lw_tail hfl (p := 565) d_L_law_565 d_L_law_566 d_L_law_569 d_L_law_571 d_L_law_576 d_L_law_578 d_L_law_581 d_L_law_582 d_L_law_583 d_L_law_584 d_L_law_586 d_L_law_587 d_L_law_588 d_L_law_593 (by decide) (by omega) (by omega) hM2 h2 hzy hyb hzb2 (next (kc + 1) (ks + 6) R2 ln sh F2 (by omega) (by omega) ⟨hC2, ⟨_, hM2⟩, hok2, h, h2⟩)
set_option maxRecDepth 100000 in
set_option maxHeartbeats 4000000 in
theorem lw_c8 {l : Launch} (hfl : l.flags = flags0) {D : va_G} {g : Nat → ClassId} {A : Nat → Prop} {X : State → Method → Prop} {Q : JQ} {ad : Nat → Nat} {b L i kc ks : Nat} {xs : Nat → Int32} {zs : Nat → Int} {R : Nat → Vn} {ln sh : List Nat} {F : Nat → va_E}
    (hE : lwE A X b L xs zs) (hi : i + 5 ≤ L) (hL : L ≤ 2560) (hk : kc ≤ 900) (hs : ks ≤ 9000) (hS : lwS ad g R ln sh F) (next : lwN l D g A X Q ad b i kc ks) : JL l D g A X Q ad kc ks 596 (lvL b ad i) [] F := by
  obtain ⟨hC, ⟨th, hM⟩, hok, h9, h108⟩ := hS
  obtain ⟨fs0, hF0⟩ := cst_0 hC
  obtain ⟨hXs, hzs, hzb⟩ := hE
  obtain ⟨z1, hz1⟩ : ∃ z, zs (i + 1) = z := ⟨_, rfl⟩
  have hb1 : inI z1 := hz1 ▸ hzb (i + 1)
  obtain ⟨z2, hz2⟩ : ∃ z, zs (i + 2) = z := ⟨_, rfl⟩
  have hb2 : inI z2 := hz2 ▸ hzb (i + 2)
  obtain ⟨z3, hz3⟩ : ∃ z, zs (i + 3) = z := ⟨_, rfl⟩
  have hb3 : inI z3 := hz3 ▸ hzb (i + 3)
  obtain ⟨z4, hz4⟩ : ∃ z, zs (i + 4) = z := ⟨_, rfl⟩
  have hb4 : inI z4 := hz4 ▸ hzb (i + 4)
  refine J_aload_n 1 d_L_law_596 rfl rfl ?_
  refine J_aload_n 0 d_L_law_597 rfl rfl ?_
  refine J_iload 4 d_L_law_598 rfl ?_
  refine J_iconst d_L_law_600 ?_
  refine J_iadd d_L_law_601 ?_
  refine J_sld hXs hzs ⟨by omega, by omega, by omega⟩ d_L_law_602 ?_
  refine J_topi (r := z1) (congrArg iI ((congrArg zs (by omega)).trans hz1)) ?_
  refine J_aload_n 0 d_L_law_603 rfl rfl ?_
  refine J_iload 4 d_L_law_604 rfl ?_
  refine J_iconst d_L_law_606 ?_
  refine J_iadd d_L_law_607 ?_
  refine J_sld hXs hzs ⟨by omega, by omega, by omega⟩ d_L_law_608 ?_
  refine J_topi (r := z2) (congrArg iI ((congrArg zs (by omega)).trans hz2)) ?_
  refine J_aload_n 0 d_L_law_609 rfl rfl ?_
  refine J_iload 4 d_L_law_610 rfl ?_
  refine J_iconst d_L_law_612 ?_
  refine J_iadd d_L_law_613 ?_
  refine J_sld hXs hzs ⟨by omega, by omega, by omega⟩ d_L_law_614 ?_
  refine J_topi (r := z3) (congrArg iI ((congrArg zs (by omega)).trans hz3)) ?_
  refine J_aload_n 3 d_L_law_615 rfl rfl ?_
  refine J_callSG ⟨wd_764, wd_765, wd_766, wd_0⟩ cwl_1 cwl_2 (fun _ _ _ h => h) (fun _ _ _ => trivial) ⟨by decide, by decide⟩ (by decide +kernel : (parseMethodDescriptor y_L_round.desc).map (fun d => d.parameters.length) = some 5) rfl (As := [.ref (ad 0), .int (iI z1), .int (iI z2), .int (iI z3), .ref (ad 108)]) (rest := []) rfl (Nat.le_of_ble_eq_true rfl) ⟨by decide, by decide⟩ ⟨rmA (by omega) (by decide), rmB (by omega) (by decide)⟩ d_L_law_616 (c_L_round hfl (h0 := h9) (by decide) hF0 (fun z F9 q => by obtain ⟨w, -, -, -, q⟩ := q; exact (q 108 (by decide)).trans h108) (fun k F9 q => by have q := roundO_k q.1; omega) (c_X_round hfl (by decide) hC hok hb1 hb2 hb3)) (fun v a2 N2 F1 hq => ?_) (fun _ _ _ _ hq => by obtain ⟨z9, hz9, -⟩ := hq; cases hz9)
  obtain ⟨z, hz, ha2, hn2, hx⟩ := hq
  cases hz
  replace ha2 := ha2.symm
  replace hn2 := hn2.symm
  subst ha2
  subst hn2
  have hfr1 : ∀ j, 98 ≤ j → j ≤ 107 → F1 j = F j := by
    rcases hx with ⟨-, z9, F9, ⟨w, -, -, -, ho⟩, rfl⟩ | ⟨k, ⟨-, -, ho⟩, -⟩
    · exact fun j a b => (va_up_ne _ _ (by omega)).trans (ho j a)
    · exact fun j a b => ho j a
  replace hx : hold _ := hx
  refine J_widen (kc' := kc + 1) (ks' := ks + 6) (Nat.le_refl _) (Nat.le_refl _) ?_
  show JL l D g A X Q ad (kc + 1) (ks + 6) 619 (lvL b ad i) [.int (iI z)] F1
  refine J_istore (lv' := (5, .int (iI z)) :: lvL b ad i) d_L_law_619 (by decide) rfl ?_
  have hM1 := mst_cg hM hfr1
  obtain ⟨f1, v1, hO1, -⟩ := mst_98 hM1
  refine J_aload_n 3 d_L_law_621 rfl rfl ?_
  refine J_aload_n 1 d_L_law_622 rfl rfl ?_
  refine J_iload 5 d_L_law_623 rfl ?_
  refine J_iconst d_L_law_625 ?_
  refine J_iadd d_L_law_626 ?_
  refine J_sld hXs hzs ⟨by omega, by omega, by omega⟩ d_L_law_627 ?_
  refine J_topi (r := z1) (congrArg iI ((congrArg zs (by omega)).trans hz1)) ?_
  refine J_aload_n 1 d_L_law_628 rfl rfl ?_
  refine J_iload 5 d_L_law_629 rfl ?_
  refine J_iconst d_L_law_631 ?_
  refine J_iadd d_L_law_632 ?_
  refine J_sld hXs hzs ⟨by omega, by omega, by omega⟩ d_L_law_633 ?_
  refine J_topi (r := z2) (congrArg iI ((congrArg zs (by omega)).trans hz2)) ?_
  refine J_aload_n 1 d_L_law_634 rfl rfl ?_
  refine J_iload 5 d_L_law_635 rfl ?_
  refine J_iconst d_L_law_637 ?_
  refine J_iadd d_L_law_638 ?_
  refine J_sld hXs hzs ⟨by omega, by omega, by omega⟩ d_L_law_639 ?_
  refine J_topi (r := z3) (congrArg iI ((congrArg zs (by omega)).trans hz3)) ?_
  refine J_callVi cw_L_93 nh_M_round pn_M_round rfl rfl (by decide) hO1 (As := [.int (iI z1), .int (iI z2), .int (iI z3)]) (rest := []) rfl (Nat.le_of_ble_eq_true rfl) ⟨by decide, by decide⟩ rfl ⟨rmA (by omega) (by decide), rmB (by omega) (by decide)⟩ d_L_law_640 (c_M_round hfl (by decide) hM1 hb1 hb2 hb3) (fun y2 F2 hq => ?_)
  unfold hold at hx
  obtain ⟨hm, hoff2⟩ := hq
  obtain ⟨R2, h, hC2, hM2, hok2, h2, hzy, hyb, hzb2⟩ := lw_sto (P := fun o => roundO R z1 z2 z3 = o) (mc := fun k => if k = 0 then 1 else 2) (to := z3) (fun o o' h h' => h.symm.trans h') (fun k _ => by split <;> omega) hx ⟨_, rfl, hm⟩ hoff2 hok h108
  refine J_istore (lv' := (6, .int (iI y2)) :: (5, .int (iI z)) :: lvL b ad i) d_L_law_643 (by decide) rfl ?_
  exact lw_tail hfl (p := 645) d_L_law_645 d_L_law_646 d_L_law_649 d_L_law_651 d_L_law_656 d_L_law_658 d_L_law_661 d_L_law_662 d_L_law_663 d_L_law_664 d_L_law_666 d_L_law_667 d_L_law_668 d_L_law_673 (by decide) (by omega) (by omega) hM2 h2 hzy hyb hzb2 (next (kc + 1) (ks + 6) R2 ln sh F2 (by omega) (by omega) ⟨hC2, ⟨_, hM2⟩, hok2, h, h2⟩)
set_option maxRecDepth 100000 in
set_option maxHeartbeats 4000000 in
theorem lw_c9 {l : Launch} (hfl : l.flags = flags0) {D : va_G} {g : Nat → ClassId} {A : Nat → Prop} {X : State → Method → Prop} {Q : JQ} {ad : Nat → Nat} {b L i kc ks : Nat} {xs : Nat → Int32} {zs : Nat → Int} {R : Nat → Vn} {ln sh : List Nat} {F : Nat → va_E}
    (hE : lwE A X b L xs zs) (hi : i + 5 ≤ L) (hL : L ≤ 2560) (hk : kc ≤ 900) (hs : ks ≤ 9000) (hS : lwS ad g R ln sh F) (next : lwN l D g A X Q ad b i kc ks) : JL l D g A X Q ad kc ks 676 (lvL b ad i) [] F := by
  obtain ⟨hC, ⟨th, hM⟩, hok, h9, h108⟩ := hS
  obtain ⟨fs0, hF0⟩ := cst_0 hC
  obtain ⟨hXs, hzs, hzb⟩ := hE
  obtain ⟨z1, hz1⟩ : ∃ z, zs (i + 1) = z := ⟨_, rfl⟩
  have hb1 : inI z1 := hz1 ▸ hzb (i + 1)
  obtain ⟨z2, hz2⟩ : ∃ z, zs (i + 2) = z := ⟨_, rfl⟩
  have hb2 : inI z2 := hz2 ▸ hzb (i + 2)
  obtain ⟨z3, hz3⟩ : ∃ z, zs (i + 3) = z := ⟨_, rfl⟩
  have hb3 : inI z3 := hz3 ▸ hzb (i + 3)
  obtain ⟨z4, hz4⟩ : ∃ z, zs (i + 4) = z := ⟨_, rfl⟩
  have hb4 : inI z4 := hz4 ▸ hzb (i + 4)
  refine J_aload_n 1 d_L_law_676 rfl rfl ?_
  refine J_aload_n 0 d_L_law_677 rfl rfl ?_
  refine J_iload 4 d_L_law_678 rfl ?_
  refine J_iconst d_L_law_680 ?_
  refine J_iadd d_L_law_681 ?_
  refine J_sld hXs hzs ⟨by omega, by omega, by omega⟩ d_L_law_682 ?_
  refine J_topi (r := z1) (congrArg iI ((congrArg zs (by omega)).trans hz1)) ?_
  refine J_aload_n 0 d_L_law_683 rfl rfl ?_
  refine J_iload 4 d_L_law_684 rfl ?_
  refine J_iconst d_L_law_686 ?_
  refine J_iadd d_L_law_687 ?_
  refine J_sld hXs hzs ⟨by omega, by omega, by omega⟩ d_L_law_688 ?_
  refine J_topi (r := z2) (congrArg iI ((congrArg zs (by omega)).trans hz2)) ?_
  refine J_aload_n 3 d_L_law_689 rfl rfl ?_
  refine J_callSG ⟨wd_786, wd_787, wd_788, wd_0⟩ cwl_1 cwl_2 (fun _ _ _ h => h) (fun _ _ _ => trivial) ⟨by decide, by decide⟩ (by decide +kernel : (parseMethodDescriptor y_L_sum.desc).map (fun d => d.parameters.length) = some 4) rfl (As := [.ref (ad 0), .int (iI z1), .int (iI z2), .ref (ad 108)]) (rest := []) rfl (Nat.le_of_ble_eq_true rfl) ⟨by decide, by decide⟩ ⟨rmA (by omega) (by decide), rmB (by omega) (by decide)⟩ d_L_law_690 (c_L_sum hfl (h0 := h9) (by decide) hF0 (fun z F9 q => by obtain ⟨w, -, -, -, q⟩ := q; exact (q 108 (by decide)).trans h108) (fun k F9 q => by have q := sumR_k q.1; omega) (c_X_sum hfl (by decide) hC hok hb1 hb2)) (fun v a2 N2 F1 hq => ?_) (fun _ _ _ _ hq => by obtain ⟨z9, hz9, -⟩ := hq; cases hz9)
  obtain ⟨z, hz, ha2, hn2, hx⟩ := hq
  cases hz
  replace ha2 := ha2.symm
  replace hn2 := hn2.symm
  subst ha2
  subst hn2
  have hfr1 : ∀ j, 98 ≤ j → j ≤ 107 → F1 j = F j := by
    rcases hx with ⟨-, z9, F9, ⟨w, -, -, -, ho⟩, rfl⟩ | ⟨k, ⟨-, -, ho⟩, -⟩
    · exact fun j a b => (va_up_ne _ _ (by omega)).trans (ho j a)
    · exact fun j a b => ho j a
  replace hx : hold _ := hx
  refine J_widen (kc' := kc + 1) (ks' := ks + 6) (Nat.le_refl _) (Nat.le_refl _) ?_
  show JL l D g A X Q ad (kc + 1) (ks + 6) 693 (lvL b ad i) [.int (iI z)] F1
  refine J_istore (lv' := (5, .int (iI z)) :: lvL b ad i) d_L_law_693 (by decide) rfl ?_
  have hM1 := mst_cg hM hfr1
  obtain ⟨f1, v1, hO1, -⟩ := mst_98 hM1
  refine J_aload_n 3 d_L_law_695 rfl rfl ?_
  refine J_aload_n 1 d_L_law_696 rfl rfl ?_
  refine J_iload 5 d_L_law_697 rfl ?_
  refine J_iconst d_L_law_699 ?_
  refine J_iadd d_L_law_700 ?_
  refine J_sld hXs hzs ⟨by omega, by omega, by omega⟩ d_L_law_701 ?_
  refine J_topi (r := z1) (congrArg iI ((congrArg zs (by omega)).trans hz1)) ?_
  refine J_aload_n 1 d_L_law_702 rfl rfl ?_
  refine J_iload 5 d_L_law_703 rfl ?_
  refine J_iconst d_L_law_705 ?_
  refine J_iadd d_L_law_706 ?_
  refine J_sld hXs hzs ⟨by omega, by omega, by omega⟩ d_L_law_707 ?_
  refine J_topi (r := z2) (congrArg iI ((congrArg zs (by omega)).trans hz2)) ?_
  refine J_callVi cw_L_97 nh_M_sum pn_M_sum rfl rfl (by decide) hO1 (As := [.int (iI z1), .int (iI z2)]) (rest := []) rfl (Nat.le_of_ble_eq_true rfl) ⟨by decide, by decide⟩ rfl ⟨rmA (by omega) (by decide), rmB (by omega) (by decide)⟩ d_L_law_708 (c_M_sum hfl (by decide) hM1 hb1 hb2) (fun y2 F2 hq => ?_)
  unfold hold at hx
  obtain ⟨o, ho, hm0, hoff2⟩ := hq
  obtain ⟨R2, h, hC2, hM2, hok2, h2, hzy, hyb, hzb2⟩ := lw_sto (P := sumR R z1 z2) (mc := fun k => if k = 0 then 1 else 2) (to := z2) (fun o o' h h' => sumR_one h h') (fun k _ => by split <;> omega) hx ⟨o, ho, hm0⟩ hoff2 hok h108
  refine J_istore (lv' := (6, .int (iI y2)) :: (5, .int (iI z)) :: lvL b ad i) d_L_law_711 (by decide) rfl ?_
  exact lw_tail hfl (p := 713) d_L_law_713 d_L_law_714 d_L_law_717 d_L_law_719 d_L_law_724 d_L_law_726 d_L_law_729 d_L_law_730 d_L_law_731 d_L_law_732 d_L_law_734 d_L_law_735 d_L_law_736 d_L_law_741 (by decide) (by omega) (by omega) hM2 h2 hzy hyb hzb2 (next (kc + 1) (ks + 6) R2 ln sh F2 (by omega) (by omega) ⟨hC2, ⟨_, hM2⟩, hok2, h, h2⟩)
set_option maxRecDepth 100000 in
set_option maxHeartbeats 4000000 in
theorem lw_c12 {l : Launch} (hfl : l.flags = flags0) {D : va_G} {g : Nat → ClassId} {A : Nat → Prop} {X : State → Method → Prop} {Q : JQ} {ad : Nat → Nat} {b L i kc ks : Nat} {xs : Nat → Int32} {zs : Nat → Int} {R : Nat → Vn} {ln sh : List Nat} {F : Nat → va_E}
    (hE : lwE A X b L xs zs) (hi : i + 5 ≤ L) (hL : L ≤ 2560) (hk : kc ≤ 900) (hs : ks ≤ 9000) (hS : lwS ad g R ln sh F) (next : lwN l D g A X Q ad b i kc ks) : JL l D g A X Q ad kc ks 807 (lvL b ad i) [] F := by
  obtain ⟨hC, ⟨th, hM⟩, hok, h9, h108⟩ := hS
  obtain ⟨fs0, hF0⟩ := cst_0 hC
  obtain ⟨hXs, hzs, hzb⟩ := hE
  obtain ⟨z1, hz1⟩ : ∃ z, zs (i + 1) = z := ⟨_, rfl⟩
  have hb1 : inI z1 := hz1 ▸ hzb (i + 1)
  obtain ⟨z2, hz2⟩ : ∃ z, zs (i + 2) = z := ⟨_, rfl⟩
  have hb2 : inI z2 := hz2 ▸ hzb (i + 2)
  obtain ⟨z3, hz3⟩ : ∃ z, zs (i + 3) = z := ⟨_, rfl⟩
  have hb3 : inI z3 := hz3 ▸ hzb (i + 3)
  obtain ⟨z4, hz4⟩ : ∃ z, zs (i + 4) = z := ⟨_, rfl⟩
  have hb4 : inI z4 := hz4 ▸ hzb (i + 4)
  refine J_aload_n 1 d_L_law_807 rfl rfl ?_
  refine J_aload_n 0 d_L_law_808 rfl rfl ?_
  refine J_iload 4 d_L_law_809 rfl ?_
  refine J_iconst d_L_law_811 ?_
  refine J_iadd d_L_law_812 ?_
  refine J_sld hXs hzs ⟨by omega, by omega, by omega⟩ d_L_law_813 ?_
  refine J_topi (r := z1) (congrArg iI ((congrArg zs (by omega)).trans hz1)) ?_
  refine J_aload_n 3 d_L_law_814 rfl rfl ?_
  refine J_callSG ⟨wd_810, wd_811, wd_812, wd_0⟩ cwl_1 cwl_2 (fun _ _ _ h => h) (fun _ _ _ => trivial) ⟨by decide, by decide⟩ (by decide +kernel : (parseMethodDescriptor y_L_show.desc).map (fun d => d.parameters.length) = some 3) rfl (As := [.ref (ad 0), .int (iI z1), .ref (ad 108)]) (rest := []) rfl (Nat.le_of_ble_eq_true rfl) ⟨by decide, by decide⟩ ⟨rmA (by omega) (by decide), rmB (by omega) (by decide)⟩ d_L_law_815 (c_L_show hfl (h0 := h9) (by decide) hF0 (fun z F9 q => by obtain ⟨w, -, -, -, q⟩ := q; exact (q 108 (by decide)).trans h108) (fun k F9 q => by have q := showO_k q.1; omega) (c_X_show hfl (by decide) hC hok hb1)) (fun v a2 N2 F1 hq => ?_) (fun _ _ _ _ hq => by obtain ⟨z9, hz9, -⟩ := hq; cases hz9)
  obtain ⟨z, hz, ha2, hn2, hx⟩ := hq
  cases hz
  replace ha2 := ha2.symm
  replace hn2 := hn2.symm
  subst ha2
  subst hn2
  have hfr1 : ∀ j, 98 ≤ j → j ≤ 107 → F1 j = F j := by
    rcases hx with ⟨-, z9, F9, ⟨w, -, -, -, ho⟩, rfl⟩ | ⟨k, ⟨-, -, ho⟩, -⟩
    · exact fun j a b => (va_up_ne _ _ (by omega)).trans (ho j a)
    · exact fun j a b => ho j a
  replace hx : hold _ := hx
  refine J_widen (kc' := kc + 1) (ks' := ks + 6) (Nat.le_refl _) (Nat.le_refl _) ?_
  show JL l D g A X Q ad (kc + 1) (ks + 6) 818 (lvL b ad i) [.int (iI z)] F1
  refine J_istore (lv' := (5, .int (iI z)) :: lvL b ad i) d_L_law_818 (by decide) rfl ?_
  have hM1 := mst_cg hM hfr1
  obtain ⟨f1, v1, hO1, -⟩ := mst_98 hM1
  refine J_aload_n 3 d_L_law_820 rfl rfl ?_
  refine J_aload_n 1 d_L_law_821 rfl rfl ?_
  refine J_iload 5 d_L_law_822 rfl ?_
  refine J_iconst d_L_law_824 ?_
  refine J_iadd d_L_law_825 ?_
  refine J_sld hXs hzs ⟨by omega, by omega, by omega⟩ d_L_law_826 ?_
  refine J_topi (r := z1) (congrArg iI ((congrArg zs (by omega)).trans hz1)) ?_
  refine J_callVi cw_L_109 nh_M_show pn_M_show rfl rfl (by decide) hO1 (As := [.int (iI z1)]) (rest := []) rfl (Nat.le_of_ble_eq_true rfl) ⟨by decide, by decide⟩ rfl ⟨rmA (by omega) (by decide), rmB (by omega) (by decide)⟩ d_L_law_827 (c_M_show hfl (by decide) hM1 hb1) (fun y2 F2 hq => ?_)
  unfold hold at hx
  obtain ⟨hm, hoff2⟩ := hq
  obtain ⟨sh2, h, hC2, hM2, h2, hzy, hyb, hzb2⟩ := lw_shw (fun k h => showO_k h) hx hm hoff2 h108
  refine J_istore (lv' := (6, .int (iI y2)) :: (5, .int (iI z)) :: lvL b ad i) d_L_law_830 (by decide) rfl ?_
  exact lw_tail hfl (p := 832) d_L_law_832 d_L_law_833 d_L_law_836 d_L_law_838 d_L_law_843 d_L_law_845 d_L_law_848 d_L_law_849 d_L_law_850 d_L_law_851 d_L_law_853 d_L_law_854 d_L_law_855 d_L_law_860 (by decide) (by omega) (by omega) hM2 h2 hzy hyb hzb2 (next (kc + 1) (ks + 6) R ln sh2 F2 (by omega) (by omega) ⟨hC2, ⟨_, hM2⟩, hok, h, h2⟩)
set_option maxRecDepth 100000 in
set_option maxHeartbeats 4000000 in
theorem lw_c13 {l : Launch} (hfl : l.flags = flags0) {D : va_G} {g : Nat → ClassId} {A : Nat → Prop} {X : State → Method → Prop} {Q : JQ} {ad : Nat → Nat} {b L i kc ks : Nat} {xs : Nat → Int32} {zs : Nat → Int} {R : Nat → Vn} {ln sh : List Nat} {F : Nat → va_E}
    (hE : lwE A X b L xs zs) (hi : i + 5 ≤ L) (hL : L ≤ 2560) (hk : kc ≤ 900) (hs : ks ≤ 9000) (hS : lwS ad g R ln sh F) (next : lwN l D g A X Q ad b i kc ks) : JL l D g A X Q ad kc ks 863 (lvL b ad i) [] F := by
  obtain ⟨hC, ⟨th, hM⟩, hok, h9, h108⟩ := hS
  obtain ⟨fs0, hF0⟩ := cst_0 hC
  obtain ⟨hXs, hzs, hzb⟩ := hE
  obtain ⟨z1, hz1⟩ : ∃ z, zs (i + 1) = z := ⟨_, rfl⟩
  have hb1 : inI z1 := hz1 ▸ hzb (i + 1)
  obtain ⟨z2, hz2⟩ : ∃ z, zs (i + 2) = z := ⟨_, rfl⟩
  have hb2 : inI z2 := hz2 ▸ hzb (i + 2)
  obtain ⟨z3, hz3⟩ : ∃ z, zs (i + 3) = z := ⟨_, rfl⟩
  have hb3 : inI z3 := hz3 ▸ hzb (i + 3)
  obtain ⟨z4, hz4⟩ : ∃ z, zs (i + 4) = z := ⟨_, rfl⟩
  have hb4 : inI z4 := hz4 ▸ hzb (i + 4)
  refine J_aload_n 1 d_L_law_863 rfl rfl ?_
  refine J_aload_n 0 d_L_law_864 rfl rfl ?_
  refine J_iload 4 d_L_law_865 rfl ?_
  refine J_iconst d_L_law_867 ?_
  refine J_iadd d_L_law_868 ?_
  refine J_sld hXs hzs ⟨by omega, by omega, by omega⟩ d_L_law_869 ?_
  refine J_topi (r := z1) (congrArg iI ((congrArg zs (by omega)).trans hz1)) ?_
  refine J_aload_n 3 d_L_law_870 rfl rfl ?_
  refine J_callSG ⟨wd_904, wd_905, wd_906, wd_0⟩ cwl_1 cwl_2 (fun _ _ _ h => h) (fun _ _ _ => trivial) ⟨by decide, by decide⟩ (by decide +kernel : (parseMethodDescriptor y_L_format.desc).map (fun d => d.parameters.length) = some 3) rfl (As := [.ref (ad 0), .int (iI z1), .ref (ad 108)]) (rest := []) rfl (Nat.le_of_ble_eq_true rfl) ⟨by decide, by decide⟩ ⟨rmA (by omega) (by decide), rmB (by omega) (by decide)⟩ d_L_law_871 (c_L_format hfl (h0 := h9) (by decide) hF0 (fun z F9 q => by obtain ⟨w, -, -, -, q⟩ := q; exact (q 108 (by decide)).trans h108) (fun k F9 q => by have q := formatO_k q.1; omega) (c_X_format hfl (by decide) hC hok hb1)) (fun v a2 N2 F1 hq => ?_) (fun _ _ _ _ hq => by obtain ⟨z9, hz9, -⟩ := hq; cases hz9)
  obtain ⟨z, hz, ha2, hn2, hx⟩ := hq
  cases hz
  replace ha2 := ha2.symm
  replace hn2 := hn2.symm
  subst ha2
  subst hn2
  have hfr1 : ∀ j, 98 ≤ j → j ≤ 107 → F1 j = F j := by
    rcases hx with ⟨-, z9, F9, ⟨w, -, -, -, ho⟩, rfl⟩ | ⟨k, ⟨-, -, ho⟩, -⟩
    · exact fun j a b => (va_up_ne _ _ (by omega)).trans (ho j a)
    · exact fun j a b => ho j a
  replace hx : hold _ := hx
  refine J_widen (kc' := kc + 1) (ks' := ks + 6) (Nat.le_refl _) (Nat.le_refl _) ?_
  show JL l D g A X Q ad (kc + 1) (ks + 6) 874 (lvL b ad i) [.int (iI z)] F1
  refine J_istore (lv' := (5, .int (iI z)) :: lvL b ad i) d_L_law_874 (by decide) rfl ?_
  have hM1 := mst_cg hM hfr1
  obtain ⟨f1, v1, hO1, -⟩ := mst_98 hM1
  refine J_aload_n 3 d_L_law_876 rfl rfl ?_
  refine J_aload_n 1 d_L_law_877 rfl rfl ?_
  refine J_iload 5 d_L_law_878 rfl ?_
  refine J_iconst d_L_law_880 ?_
  refine J_iadd d_L_law_881 ?_
  refine J_sld hXs hzs ⟨by omega, by omega, by omega⟩ d_L_law_882 ?_
  refine J_topi (r := z1) (congrArg iI ((congrArg zs (by omega)).trans hz1)) ?_
  refine J_callVi cw_L_112 nh_M_format pn_M_format rfl rfl (by decide) hO1 (As := [.int (iI z1)]) (rest := []) rfl (Nat.le_of_ble_eq_true rfl) ⟨by decide, by decide⟩ rfl ⟨rmA (by omega) (by decide), rmB (by omega) (by decide)⟩ d_L_law_883 (c_M_format hfl (by decide) hM1 hb1) (fun y2 F2 hq => ?_)
  unfold hold at hx
  obtain ⟨hm, hoff2⟩ := hq
  obtain ⟨sh2, h, hC2, hM2, h2, hzy, hyb, hzb2⟩ := lw_shw (fun k h => formatO_k h) hx hm hoff2 h108
  refine J_istore (lv' := (6, .int (iI y2)) :: (5, .int (iI z)) :: lvL b ad i) d_L_law_886 (by decide) rfl ?_
  exact lw_tail hfl (p := 888) d_L_law_888 d_L_law_889 d_L_law_892 d_L_law_894 d_L_law_899 d_L_law_901 d_L_law_904 d_L_law_905 d_L_law_906 d_L_law_907 d_L_law_909 d_L_law_910 d_L_law_911 d_L_law_916 (by decide) (by omega) (by omega) hM2 h2 hzy hyb hzb2 (next (kc + 1) (ks + 6) R [] sh2 F2 (by omega) (by omega) ⟨hC2, ⟨_, hM2⟩, hok, h, h2⟩)
