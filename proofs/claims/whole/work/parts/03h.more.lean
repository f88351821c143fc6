theorem JC.mono {l : Launch} {y : MethodName} {cc : ByteArray} {nL : Nat} {ret : Option FieldType} {rm : Room} {nb : Nat × Nat} {D : va_G} {cl : List vw_C} {tys : List (ClassId × FieldType)} {ad : Nat → Nat} {N : Nat} {F : Nat → va_E} {av : List Value} {Q1 Q2 : JQ}
    (h : JC l y cc nL ret rm nb D cl tys ad N F av Q1) (hq : ∀ o ad' N' F', Q1 o ad' N' F' → Q2 o ad' N' F') : JC l y cc nL ret rm nb D cl tys ad N F av Q2 := by
  intro sz p e ha hc hk s m args below hf happ hP hK
  obtain ⟨n, o, h1, h2, h3, ⟨⟨oc, ad', N', F', q, r⟩, r2⟩⟩ := h sz p e ha hc hk s m args below hf happ hP hK
  exact ⟨n, o, h1, h2, h3, ⟨⟨oc, ad', N', F', hq _ _ _ _ q, r⟩, r2⟩⟩
section JMORE
variable {l : Launch} {R : Room} {nb : Nat × Nat} {own : String} {cc : ByteArray} {nL : Nat} {ret : Option FieldType} {D : va_G} {cl : List vw_C} {tys : List (ClassId × FieldType)} {A : Nat → Prop} {X : State → Method → Prop} {Qx : JQ} {ad : Nat → Nat} {N kc ks pc : Nat} {lv : List (Nat × Value)} {F : Nat → va_E} {st : List Value}
theorem arrV_ext {cA : ClassId} {n : Nat} {f f' : Nat → Value} (h : ∀ j, j < n → f j = f' j) : arrV cA n f = arrV cA n f' := by
  unfold arrV
  congr 1
  apply Array.ext_getElem?
  intro i
  by_cases hi : i < n
  · simp [hi, h i hi]
  · simp [hi]
/-- an array's contents matter within its length alone -/
theorem J_arrI {k n : Nat} {cA : ClassId} {h h' : Nat → Int} (hk : k < N) (hF : F k = .inl (cA, n, .inl (aI h))) (he : ∀ j, j < n → h j = h' j) (kk : J l R nb own cc nL ret D cl tys A X Qx ad N kc ks pc lv st (va_up F k (.inl (cA, n, .inl (aI h'))))) : J l R nb own cc nL ret D cl tys A X Qx ad N kc ks pc lv st F := by
  intro p e s m args below meth c H locs ls hI hP hD hS hl
  refine kk p e s m args below meth c H locs ls hI (fun i q hq => ?_) ?_ hS hl
  · obtain ⟨hi, rfl⟩ := jwl_some hq
    by_cases hik : i = k
    · subst hik
      have h1 := hP i _ (jwl_get hk)
      rw [hF] at h1
      rw [va_up_self]
      have h2 : H[ad i]? = some (arrV cA n (fun j => .int (aI h j))) := h1
      show H[ad i]? = some (arrV cA n (fun j => .int (aI h' j)))
      rw [h2]
      congr 1
      exact arrV_ext (fun j hj => by simp only [aI, he j hj])
    · rw [va_up_ne _ _ hik]
      exact hP i _ (jwl_get hi)
  · rw [← jwl_set hk]
    exact hD.set (jwl_get hk)
theorem cpy_aI {f h : Nat → Int} {sp dp n : Nat} : va_cpy (aI f) (aI h) sp dp n = aI (va_cpy f h sp dp n) := by
  funext j
  simp only [va_cpy, aI]
  split <;> rfl
/-- System.arraycopy between two arrays of ints -/
theorem J_copyI {k0 k1 n0 n1 idx : Nat} {sp dp n : Int} {c0 c1 : ClassId} {f h : Nat → Int} {rest : List Value} (t0 t1 : Nat) (ht0 : tys[t0]? = some (c0, .int)) (ht1 : tys[t1]? = some (c1, .int)) (w1 : Cond.methodLink own idx arraycopyName ∈ jALL) (w2 : Cond.native arraycopyName ∈ jALL) (w3 : Cond.static arraycopyName ∈ jALL) (w4 : Cond.initialized "java/lang/System" ∈ jALL)
    (hk0 : k0 < N) (hk1 : k1 < N) (hF0 : F k0 = .inl (c0, n0, .inl (aI f))) (hF1 : F k1 = .inl (c1, n1, .inl (aI h))) (hsp : 0 ≤ sp ∧ 0 ≤ dp ∧ 0 ≤ n ∧ sp + n ≤ n0 ∧ dp + n ≤ n1 ∧ n0 ≤ 2147483647 ∧ n1 ≤ 2147483647) (hfr : 1 ≤ R.frames ∧ (rest.map fun v => v.category).sum + (nativeFrameWords "java/lang/System" "arraycopy" 5 + 11) ≤ R.locals) (hdg : decode cc pc = .ok (.invokestatic idx, 3))
    (kk : J l R nb own cc nL ret D cl tys A X Qx ad N kc ks (pc + 3) lv rest (va_up F k1 (.inl (c1, n1, .inl (aI (va_cpy f h sp.toNat dp.toNat n.toNat)))))) : J l R nb own cc nL ret D cl tys A X Qx ad N kc ks pc lv (.int (iI n) :: .int (iI dp) :: .ref (ad k1) :: .int (iI sp) :: .ref (ad k0) :: rest) F := by
  intro p e s m args below meth c H locs ls hI hP hD hS hl
  obtain ⟨hx, hb, -, hml, hown, hts, -, -, -, hK, -⟩ := id hI
  have r1 : inI sp := ⟨by omega, by omega⟩
  have r2 : inI dp := ⟨by omega, by omega⟩
  have r3 : inI n := ⟨by omega, by omega⟩
  have neg : ∀ z : Int, inI z → 0 ≤ z → ¬ iI z < 0 := fun z h h0 q => by
    rw [← iI_0, iI_lt h ⟨by decide, by decide⟩] at q; omega
  have e1 := iI_clamp r1 hsp.1
  have e2 := iI_clamp r2 hsp.2.1
  have e3 := iI_clamp r3 hsp.2.2.1
  refine va_copyi hx hb (hml.trans hl.1.symm) hown (hts _ w1) (hts _ w2) (hts _ w3) (hts _ w4) hK hP hD hS k0 k1 t0 t1 (by rw [jwl_get hk0, hF0]) (by rw [jwl_get hk1, hF1]) ht0 ht1 rfl (neg _ r1 hsp.1) (neg _ r2 hsp.2.1) (neg _ r3 hsp.2.2.1) (by rw [e1, e3]; omega) (by rw [e2, e3]; omega) (fun i _ => rfl) hfr.1 hfr.2 hdg (fun H1 locs1 hP1 hD1 hS1 => ?_)
  rw [e1, e2, e3, cpy_aI, jwl_set hk1] at hP1 hD1
  exact kk p e s m args below meth c H1 locs1 ls hI hP1 hD1 hS1 hl
end JMORE
