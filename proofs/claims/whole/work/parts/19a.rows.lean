/-! rows for constructors, and for the script -/
section J19
variable {l : Launch} {R : Room} {nb : Nat × Nat} {own : String} {cc : ByteArray} {nL : Nat} {ret : Option FieldType} {D : va_G} {cl : List vw_C} {tys : List (ClassId × FieldType)} {A : Nat → Prop} {X : State → Method → Prop} {Qx : JQ} {ad : Nat → Nat} {N kc ks pc : Nat} {lv : List (Nat × Value)} {F : Nat → va_E} {st : List Value}
/-- Object.<init> -/
theorem J_objInit {idx x : Nat} (w : Cond.methodLink own idx y_JObject_init ∈ jALL) (hfr : 1 ≤ R.frames) (hlo : (st.map fun v => v.category).sum + 12 ≤ R.locals) (d : decode cc pc = .ok (.invokespecial idx, 3)) (kk : J l R nb own cc nL ret D cl tys A X Qx ad N kc ks (pc + 3) lv st F) : J l R nb own cc nL ret D cl tys A X Qx ad N kc ks pc lv (.ref x :: st) F := by
  intro p e s m args below meth c H locs ls hI hP hD hS hl
  obtain ⟨hx, hb, hr, hml, hown, hts, -⟩ := id hI
  refine W.objInit hx hb hown (hts _ w) (hts _ wd_26) (hts _ wd_27) rfl (by show ls.size = _; rw [hml]; exact hl.1) (rest := st) rfl d hfr (by show 2 * 0 + (st.map fun v => v.category).sum + 12 ≤ R.locals; omega) ?_
  exact kk p e s m args below meth c H locs ls hI hP hD hS hl
theorem iI_nneg {n : Nat} (h : n ≤ 100000) : ¬ iI (n : Int) < 0 := by
  intro q
  have h2 := Int32.lt_iff_toInt_lt.mp q
  rw [iI_toInt ⟨by omega, by omega⟩] at h2
  have h3 : (0 : Int32).toInt = 0 := rfl
  omega
theorem iI_natN {n : Nat} (h : n ≤ 100000) : (iI (n : Int)).toNatClampNeg = n := by
  rw [iI_clamp ⟨by omega, by omega⟩ (by omega)]
  exact Int.toNat_natCast n
/-- newarray of a primitive type -/
theorem J_newarr {atype : ArrayType} {ty : FieldType} {n : Nat} {cA : ClassId} {a0 : vp_A} (t0 : Nat) (ht : tys[t0]? = some (cA, ty)) (hty : newarray.typeOf atype = ty) (hra : ∀ (U : State) (c1 : ClassId), va_RA U c1 ty → U.vm.findClass ("[" ++ ty.toString) = some c1) (ha : ∀ c1 : ClassId, vp_cell c1 a0 = arrV c1 n (fun _ => defaultValue ty)) (harr : Cond.arrayClass ty ∈ jALL) (hn : n ≤ 100000) (hbytes : n * componentBytes ty ≤ 536870912) (hroom : kc + 1 ≤ R.cells ∧ ks + n ≤ R.slots) (d : decode cc pc = .ok (.newarray atype, 2))
    (kk : ∀ ad2 : Nat → Nat, (∀ k, k < N → ad2 k = ad k) → J l R nb own cc nL ret D cl tys A X Qx ad2 (N + 1) (kc + 1) (ks + n) (pc + 2) lv (.ref (ad2 N) :: st) (va_up F N (.inl (cA, a0)))) : J l R nb own cc nL ret D cl tys A X Qx ad N kc ks pc lv (.int (iI (n : Int)) :: st) F := by
  intro p e s m args below meth c H locs ls hI hP hD hS hl
  obtain ⟨hx, hb, -, -, hown0, hts, -, -, -, hK, hA, -, hX, -⟩ := id hI
  subst hty
  refine va_newa (D := D) (a0 := a0) (N' := n) hx hb (hts _ harr) rfl hK hP hD hS hA ha (iI_nneg hn) (iI_natN hn) hbytes hroom.1 hroom.2 d (fun q c1 H1 hK1 hP1 hD1 hS1 => ?_)
  have h1 := hra s c1 (hK1.2 tys.length (c1, newarray.typeOf atype) (by simp)).2
  have h2 := hra s cA (hK.2 t0 _ ht).2
  have h3 : c1 = cA := Option.some.inj (h1.symm.trans h2)
  subst h3
  rw [jwl_push] at hP1 hD1
  have e : (va_up ad N q) N = q := va_up_self _ _ _
  have h2 := kk (va_up ad N q) (fun k h => va_up_ne _ _ (Nat.ne_of_lt h)) p _ s m args below meth c H1 locs ls hI hP1 hD1 hS1 hl
  rw [e] at h2
  exact h2
/-- anewarray of a class of the program -/
theorem J_newq {idx n : Nat} {C : String} {cA : ClassId} (t0 : Nat) (ht : tys[t0]? = some (cA, .object C)) (hao : ∀ s me, X s me → va_AO C s) (w0 : Cond.classLink own idx C ∈ jALL) (hn : n ≤ 100000) (hroom : kc + 1 ≤ R.cells ∧ ks + n ≤ R.slots) (d : decode cc pc = .ok (.anewarray idx, 3))
    (kk : ∀ ad2 : Nat → Nat, (∀ k, k < N → ad2 k = ad k) → J l R nb own cc nL ret D cl tys A X Qx ad2 (N + 1) (kc + 1) (ks + n) (pc + 3) lv (.ref (ad2 N) :: st) (va_up F N (.inl (cA, n, .inr (.inr (.inr (.inr (fun _ => none)))))))) : J l R nb own cc nL ret D cl tys A X Qx ad N kc ks pc lv (.int (iI (n : Int)) :: st) F := by
  intro p e s m args below meth c H locs ls hI hP hD hS hl
  obtain ⟨hx, hb, -, -, hown0, hts, -, -, -, hK, hA, -, hX, -⟩ := id hI
  refine va_newq (D := D) (N' := n) hx hb hown0 (hts _ w0) (hao _ _ hX) hK hP hD hS hA (iI_nneg hn) (iI_natN hn) (by omega) hroom.1 hroom.2 d (fun q c1 H1 hK1 hP1 hD1 hS1 => ?_)
  have h1 := (hK1.2 tys.length (c1, .object C) (by simp)).2
  have h2 := (hK.2 t0 _ ht).2
  obtain ⟨k1, m1, -, -, -, h1⟩ := h1
  obtain ⟨k2, m2, -, -, -, h2⟩ := h2
  have h3 : c1 = cA := Option.some.inj (h1.symm.trans h2)
  subst h3
  rw [jwl_push] at hP1 hD1
  have e : (va_up ad N q) N = q := va_up_self _ _ _
  have h2 := kk (va_up ad N q) (fun k h => va_up_ne _ _ (Nat.ne_of_lt h)) p _ s m args below meth c H1 locs ls hI hP1 hD1 hS1 hl
  rw [e] at h2
  exact h2
/-- aastore of an object of the program -/
theorem J_aastore {k n j ci : Nat} {i : Int} {cA : ClassId} {r : vw_C} {h : Nat → Option Nat} {vs : List Value} (t0 : Nat) (ht : tys[t0]? = some (cA, .object r.1)) (hk : k < N) (hF : F k = .inl (cA, n, .inr (.inr (.inr (.inr h))))) (hj : j < N) (hFj : F j = .inr (ci, vs)) (hc : cl[ci]? = some r) (hi : 0 ≤ i ∧ i < n ∧ i ≤ 2147483647) (d : decode cc pc = .ok (.aastore, 1)) (kk : J l R nb own cc nL ret D cl tys A X Qx ad N kc ks (pc + 1) lv st (va_up F k (.inl (cA, n, .inr (.inr (.inr (.inr (va_up h i.toNat (some (ad j)))))))))) : J l R nb own cc nL ret D cl tys A X Qx ad N kc ks pc lv (.ref (ad j) :: .int (iI i) :: .ref (ad k) :: st) F := by
  intro p e s m args below meth c H locs ls hI hP hD hS hl
  obtain ⟨hx, hb, -, -, -, -, -, -, -, hK, -⟩ := id hI
  have hin : vp_in (iI i) n := (iI_in ⟨by omega, hi.2.2⟩).mpr ⟨hi.1, hi.2.1⟩
  refine va_astq hx hb hK hP hD hS k t0 j ci (by rw [jwl_get hk, hF]) ht (by rw [jwl_get hj, hFj]) hc hin d (fun H1 locs1 hP1 hD1 hS1 => ?_)
  rw [iI_clamp ⟨by omega, hi.2.2⟩ hi.1] at hP1 hD1
  rw [jwl_set hk] at hP1 hD1
  exact kk p e s m args below meth c H1 locs1 ls hI hP1 hD1 hS1 hl
/-- more may have been made than was -/
theorem J_widen {kc' ks' : Nat} (h1 : kc ≤ kc') (h2 : ks ≤ ks') (kk : J l R nb own cc nL ret D cl tys A X Qx ad N kc' ks' pc lv st F) : J l R nb own cc nL ret D cl tys A X Qx ad N kc ks pc lv st F :=
  fun p e s m args below meth c H locs ls hI hP hD hS hl => W.widen h1 h2 (kk p e s m args below meth c H locs ls hI hP hD hS hl)
/-- an int of the script -/
theorem J_sld {b L : Nat} {xs : Nat → Int32} {zs : Nat → Int} {i : Int} (hX : ∀ s me, X s me → va_X b L xs s s.heap ∧ b < s.heap.size ∧ ¬ A b) (hz : ∀ j, xs j = iI (zs j)) (hi : 0 ≤ i ∧ i < L ∧ i ≤ 2147483647) (d : decode cc pc = .ok (.iaload, 1)) (kk : J l R nb own cc nL ret D cl tys A X Qx ad N kc ks (pc + 1) lv (.int (iI (zs i.toNat)) :: st) F) : J l R nb own cc nL ret D cl tys A X Qx ad N kc ks pc lv (.int (iI i) :: .ref b :: st) F := by
  intro p e s m args below meth c H locs ls hI hP hD hS hl
  obtain ⟨hx, hb, -, -, -, -, -, -, -, hK, hA, hZ, hX0, -⟩ := id hI
  obtain ⟨h1, h2, h3⟩ := hX _ _ hX0
  have hin : vp_in (iI i) L := (iI_in ⟨by omega, hi.2.2⟩).mpr ⟨hi.1, hi.2.1⟩
  refine va_sld hx hb h1 h2 h3 hS hin d ?_
  rw [iI_clamp ⟨by omega, hi.2.2⟩ hi.1, hz]
  exact kk p e s m args below meth c H locs ls hI hP hD hS hl
/-- the script's length -/
theorem J_slen {b L : Nat} {xs : Nat → Int32} (hX : ∀ s me, X s me → va_X b L xs s s.heap ∧ b < s.heap.size ∧ ¬ A b) (d : decode cc pc = .ok (.arraylength, 1)) (kk : J l R nb own cc nL ret D cl tys A X Qx ad N kc ks (pc + 1) lv (.int (iI (L : Int)) :: st) F) : J l R nb own cc nL ret D cl tys A X Qx ad N kc ks pc lv (.ref b :: st) F := by
  intro p e s m args below meth c H locs ls hI hP hD hS hl
  obtain ⟨hx, hb, -, -, -, -, -, -, -, hK, hA, hZ, hX0, -⟩ := id hI
  obtain ⟨h1, h2, h3⟩ := hX _ _ hX0
  refine va_slen hx hb h1 h2 h3 hS d ?_
  rw [show Int32.ofNat L = iI (L : Int) from nI_iI L]
  exact kk p e s m args below meth c H locs ls hI hP hD hS hl
end J19
