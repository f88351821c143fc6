/-! kinds of ends: void, int, long, double, a reference; and with throws -/
abbrev jv (ad : Nat → Nat) (N : Nat) (P : (Nat → va_E) → Prop) : JQ := fun o ad' N' F' => o = .inl none ∧ ad' = ad ∧ N' = N ∧ P F'
abbrev ji (ad : Nat → Nat) (N : Nat) (P : Int → (Nat → va_E) → Prop) : JQ := fun o ad' N' F' => ∃ z : Int, o = .inl (some (.int (iI z))) ∧ ad' = ad ∧ N' = N ∧ P z F'
abbrev jl (ad : Nat → Nat) (N : Nat) (P : Int → (Nat → va_E) → Prop) : JQ := fun o ad' N' F' => ∃ z : Int, o = .inl (some (.long (lI z))) ∧ ad' = ad ∧ N' = N ∧ P z F'
abbrev jd (ad : Nat → Nat) (N : Nat) (P : UInt64 → (Nat → va_E) → Prop) : JQ := fun o ad' N' F' => ∃ z : UInt64, o = .inl (some (.double z)) ∧ ad' = ad ∧ N' = N ∧ P z F'
abbrev jr (ad : Nat → Nat) (N : Nat) (P : Nat → (Nat → va_E) → Prop) : JQ := fun o ad' N' F' => ∃ z : Nat, o = .inl (some (.ref z)) ∧ ad' = ad ∧ N' = N ∧ P z F'
abbrev jvx (ad : Nat → Nat) (N : Nat) (P : (Nat → va_E) → Prop) (E : Nat → (Nat → va_E) → Prop) : JQ := fun o ad' N' F' => (o = .inl none ∧ ad' = ad ∧ N' = N ∧ P F') ∨ (∃ k, o = .inr k ∧ ad' = ad ∧ N' = N ∧ E k F')
abbrev jix (ad : Nat → Nat) (N : Nat) (P : Int → (Nat → va_E) → Prop) (E : Nat → (Nat → va_E) → Prop) : JQ := fun o ad' N' F' => (∃ z : Int, o = .inl (some (.int (iI z))) ∧ ad' = ad ∧ N' = N ∧ P z F') ∨ (∃ k, o = .inr k ∧ ad' = ad ∧ N' = N ∧ E k F')
theorem JC.go {l : Launch} (hfl : l.flags = flags0) {y : MethodName} {cc : ByteArray} {nL : Nat} {ret : Option FieldType} {rm : Room} {nb : Nat × Nat} {D : va_G} {cl : List vw_C} {tys : List (ClassId × FieldType)} {ad : Nat → Nat} {N : Nat} {F : Nat → va_E} {av : List Value} {Qx : JQ} {own : String} {lv : List (Nat × Value)}
    (ho : y.cls = own) (hy : plainFor y = true) (hlen : (lg_sl av).length ≤ nL) (hlv : lv_args 0 av = lv)
    (body : ∀ A : Nat → Prop, J l rm nb own cc nL ret D cl tys A (fun _ me => me.name = y.name) Qx ad N 0 0 0 lv [] F) : JC l y cc nL ret rm nb D cl tys ad N F av Qx := by
  subst ho
  subst hlv
  exact JC.intro hfl hy hlen (fun sz => body _)
section JKINDS
variable {l : Launch} {R : Room} {nb : Nat × Nat} {own : String} {cc : ByteArray} {nL : Nat} {ret : Option FieldType} {D : va_G} {cl : List vw_C} {tys : List (ClassId × FieldType)} {A : Nat → Prop} {X : State → Method → Prop} {Qx : JQ} {ad : Nat → Nat} {N kc ks pc : Nat} {lv : List (Nat × Value)} {F : Nat → va_E}
theorem J_callVv {C : String} {T : u_T} {n ci idx k na : Nat} {fs : List Value} {y : MethodName} {cc' : ByteArray} {nL' : Nat} {ret' : Option FieldType} {rm : Room} {nb' : Nat × Nat} {As rest st : List Value} {P : (Nat → va_E) → Prop}
    (hw : Cond.methodLink own idx y ∈ jALL ∧ Cond.instanceMethod y ∈ jALL ∧ Cond.selects C y y ∈ jALL ∧ Cond.code y cc' nL' ret' ∈ jALL ∧ Cond.initialized y.cls ∈ jALL) (hy : y.cls ≠ "java/lang/invoke/MethodHandle" ∧ y.cls ≠ "java/lang/invoke/VarHandle") (hp : (parseMethodDescriptor y.desc).map (fun d => d.parameters.length) = some na) (hna : As.length = na)
    (hc : cl[ci]? = some (C, T, n)) (hk : k < N) (hF : F k = .inr (ci, fs)) (hst : st = As.reverse ++ .ref (ad k) :: rest) (hrest : (rest.map fun v => v.category).sum ≤ 8) (hfr : rm.frames + 1 ≤ R.frames ∧ 8 + (nL' + 11) + rm.locals ≤ R.locals) (h0 : nb' = (0, 0)) (hroom : kc + rm.cells ≤ R.cells ∧ ks + rm.slots ≤ R.slots) (hdg : decode cc pc = .ok (.invokevirtual idx, 3)) (hC : JC l y cc' nL' ret' rm nb' D cl tys ad N F (.ref (ad k) :: As) (jv ad N P)) (hret : ∀ F' : Nat → va_E, P F' → J l R nb own cc nL ret D cl tys A X Qx ad N kc ks (pc + 3) lv rest F') : J l R nb own cc nL ret D cl tys A X Qx ad N kc ks pc lv st F := by
  subst h0
  refine J_callV hw hy hp hna hc hk hF hst hrest hfr hroom hdg hC (fun v ad' N' F' hq => ?_) (fun k ad' N' F' hq => ?_)
  · obtain ⟨hz, rfl, rfl, hq⟩ := hq
    cases hz
    exact hret F' hq
  · obtain ⟨hz, -⟩ := hq
    cases hz
theorem J_callVi {C : String} {T : u_T} {n ci idx k na : Nat} {fs : List Value} {y : MethodName} {cc' : ByteArray} {nL' : Nat} {ret' : Option FieldType} {rm : Room} {nb' : Nat × Nat} {As rest st : List Value} {P : Int → (Nat → va_E) → Prop}
    (hw : Cond.methodLink own idx y ∈ jALL ∧ Cond.instanceMethod y ∈ jALL ∧ Cond.selects C y y ∈ jALL ∧ Cond.code y cc' nL' ret' ∈ jALL ∧ Cond.initialized y.cls ∈ jALL) (hy : y.cls ≠ "java/lang/invoke/MethodHandle" ∧ y.cls ≠ "java/lang/invoke/VarHandle") (hp : (parseMethodDescriptor y.desc).map (fun d => d.parameters.length) = some na) (hna : As.length = na)
    (hc : cl[ci]? = some (C, T, n)) (hk : k < N) (hF : F k = .inr (ci, fs)) (hst : st = As.reverse ++ .ref (ad k) :: rest) (hrest : (rest.map fun v => v.category).sum ≤ 8) (hfr : rm.frames + 1 ≤ R.frames ∧ 8 + (nL' + 11) + rm.locals ≤ R.locals) (h0 : nb' = (0, 0)) (hroom : kc + rm.cells ≤ R.cells ∧ ks + rm.slots ≤ R.slots) (hdg : decode cc pc = .ok (.invokevirtual idx, 3)) (hC : JC l y cc' nL' ret' rm nb' D cl tys ad N F (.ref (ad k) :: As) (ji ad N P)) (hret : ∀ (z : Int) (F' : Nat → va_E), P z F' → J l R nb own cc nL ret D cl tys A X Qx ad N kc ks (pc + 3) lv (.int (iI z) :: rest) F') : J l R nb own cc nL ret D cl tys A X Qx ad N kc ks pc lv st F := by
  subst h0
  refine J_callV hw hy hp hna hc hk hF hst hrest hfr hroom hdg hC (fun v ad' N' F' hq => ?_) (fun k ad' N' F' hq => ?_)
  · obtain ⟨z, hz, rfl, rfl, hq⟩ := hq
    cases hz
    exact hret z F' hq
  · obtain ⟨z, hz, -⟩ := hq
    cases hz
theorem J_callVl {C : String} {T : u_T} {n ci idx k na : Nat} {fs : List Value} {y : MethodName} {cc' : ByteArray} {nL' : Nat} {ret' : Option FieldType} {rm : Room} {nb' : Nat × Nat} {As rest st : List Value} {P : Int → (Nat → va_E) → Prop}
    (hw : Cond.methodLink own idx y ∈ jALL ∧ Cond.instanceMethod y ∈ jALL ∧ Cond.selects C y y ∈ jALL ∧ Cond.code y cc' nL' ret' ∈ jALL ∧ Cond.initialized y.cls ∈ jALL) (hy : y.cls ≠ "java/lang/invoke/MethodHandle" ∧ y.cls ≠ "java/lang/invoke/VarHandle") (hp : (parseMethodDescriptor y.desc).map (fun d => d.parameters.length) = some na) (hna : As.length = na)
    (hc : cl[ci]? = some (C, T, n)) (hk : k < N) (hF : F k = .inr (ci, fs)) (hst : st = As.reverse ++ .ref (ad k) :: rest) (hrest : (rest.map fun v => v.category).sum ≤ 8) (hfr : rm.frames + 1 ≤ R.frames ∧ 8 + (nL' + 11) + rm.locals ≤ R.locals) (h0 : nb' = (0, 0)) (hroom : kc + rm.cells ≤ R.cells ∧ ks + rm.slots ≤ R.slots) (hdg : decode cc pc = .ok (.invokevirtual idx, 3)) (hC : JC l y cc' nL' ret' rm nb' D cl tys ad N F (.ref (ad k) :: As) (jl ad N P)) (hret : ∀ (z : Int) (F' : Nat → va_E), P z F' → J l R nb own cc nL ret D cl tys A X Qx ad N kc ks (pc + 3) lv (.long (lI z) :: rest) F') : J l R nb own cc nL ret D cl tys A X Qx ad N kc ks pc lv st F := by
  subst h0
  refine J_callV hw hy hp hna hc hk hF hst hrest hfr hroom hdg hC (fun v ad' N' F' hq => ?_) (fun k ad' N' F' hq => ?_)
  · obtain ⟨z, hz, rfl, rfl, hq⟩ := hq
    cases hz
    exact hret z F' hq
  · obtain ⟨z, hz, -⟩ := hq
    cases hz
theorem J_callVd {C : String} {T : u_T} {n ci idx k na : Nat} {fs : List Value} {y : MethodName} {cc' : ByteArray} {nL' : Nat} {ret' : Option FieldType} {rm : Room} {nb' : Nat × Nat} {As rest st : List Value} {P : UInt64 → (Nat → va_E) → Prop}
    (hw : Cond.methodLink own idx y ∈ jALL ∧ Cond.instanceMethod y ∈ jALL ∧ Cond.selects C y y ∈ jALL ∧ Cond.code y cc' nL' ret' ∈ jALL ∧ Cond.initialized y.cls ∈ jALL) (hy : y.cls ≠ "java/lang/invoke/MethodHandle" ∧ y.cls ≠ "java/lang/invoke/VarHandle") (hp : (parseMethodDescriptor y.desc).map (fun d => d.parameters.length) = some na) (hna : As.length = na)
    (hc : cl[ci]? = some (C, T, n)) (hk : k < N) (hF : F k = .inr (ci, fs)) (hst : st = As.reverse ++ .ref (ad k) :: rest) (hrest : (rest.map fun v => v.category).sum ≤ 8) (hfr : rm.frames + 1 ≤ R.frames ∧ 8 + (nL' + 11) + rm.locals ≤ R.locals) (h0 : nb' = (0, 0)) (hroom : kc + rm.cells ≤ R.cells ∧ ks + rm.slots ≤ R.slots) (hdg : decode cc pc = .ok (.invokevirtual idx, 3)) (hC : JC l y cc' nL' ret' rm nb' D cl tys ad N F (.ref (ad k) :: As) (jd ad N P)) (hret : ∀ (z : UInt64) (F' : Nat → va_E), P z F' → J l R nb own cc nL ret D cl tys A X Qx ad N kc ks (pc + 3) lv (.double z :: rest) F') : J l R nb own cc nL ret D cl tys A X Qx ad N kc ks pc lv st F := by
  subst h0
  refine J_callV hw hy hp hna hc hk hF hst hrest hfr hroom hdg hC (fun v ad' N' F' hq => ?_) (fun k ad' N' F' hq => ?_)
  · obtain ⟨z, hz, rfl, rfl, hq⟩ := hq
    cases hz
    exact hret z F' hq
  · obtain ⟨z, hz, -⟩ := hq
    cases hz
theorem J_callVr {C : String} {T : u_T} {n ci idx k na : Nat} {fs : List Value} {y : MethodName} {cc' : ByteArray} {nL' : Nat} {ret' : Option FieldType} {rm : Room} {nb' : Nat × Nat} {As rest st : List Value} {P : Nat → (Nat → va_E) → Prop}
    (hw : Cond.methodLink own idx y ∈ jALL ∧ Cond.instanceMethod y ∈ jALL ∧ Cond.selects C y y ∈ jALL ∧ Cond.code y cc' nL' ret' ∈ jALL ∧ Cond.initialized y.cls ∈ jALL) (hy : y.cls ≠ "java/lang/invoke/MethodHandle" ∧ y.cls ≠ "java/lang/invoke/VarHandle") (hp : (parseMethodDescriptor y.desc).map (fun d => d.parameters.length) = some na) (hna : As.length = na)
    (hc : cl[ci]? = some (C, T, n)) (hk : k < N) (hF : F k = .inr (ci, fs)) (hst : st = As.reverse ++ .ref (ad k) :: rest) (hrest : (rest.map fun v => v.category).sum ≤ 8) (hfr : rm.frames + 1 ≤ R.frames ∧ 8 + (nL' + 11) + rm.locals ≤ R.locals) (h0 : nb' = (0, 0)) (hroom : kc + rm.cells ≤ R.cells ∧ ks + rm.slots ≤ R.slots) (hdg : decode cc pc = .ok (.invokevirtual idx, 3)) (hC : JC l y cc' nL' ret' rm nb' D cl tys ad N F (.ref (ad k) :: As) (jr ad N P)) (hret : ∀ (z : Nat) (F' : Nat → va_E), P z F' → J l R nb own cc nL ret D cl tys A X Qx ad N kc ks (pc + 3) lv (.ref z :: rest) F') : J l R nb own cc nL ret D cl tys A X Qx ad N kc ks pc lv st F := by
  subst h0
  refine J_callV hw hy hp hna hc hk hF hst hrest hfr hroom hdg hC (fun v ad' N' F' hq => ?_) (fun k ad' N' F' hq => ?_)
  · obtain ⟨z, hz, rfl, rfl, hq⟩ := hq
    cases hz
    exact hret z F' hq
  · obtain ⟨z, hz, -⟩ := hq
    cases hz
theorem J_callVvx {C : String} {T : u_T} {n ci idx k na : Nat} {fs : List Value} {y : MethodName} {cc' : ByteArray} {nL' : Nat} {ret' : Option FieldType} {rm : Room} {nb' : Nat × Nat} {As rest st : List Value} {P : (Nat → va_E) → Prop} {Ex : Nat → (Nat → va_E) → Prop}
    (hw : Cond.methodLink own idx y ∈ jALL ∧ Cond.instanceMethod y ∈ jALL ∧ Cond.selects C y y ∈ jALL ∧ Cond.code y cc' nL' ret' ∈ jALL ∧ Cond.initialized y.cls ∈ jALL) (hy : y.cls ≠ "java/lang/invoke/MethodHandle" ∧ y.cls ≠ "java/lang/invoke/VarHandle") (hp : (parseMethodDescriptor y.desc).map (fun d => d.parameters.length) = some na) (hna : As.length = na)
    (hc : cl[ci]? = some (C, T, n)) (hk : k < N) (hF : F k = .inr (ci, fs)) (hst : st = As.reverse ++ .ref (ad k) :: rest) (hrest : (rest.map fun v => v.category).sum ≤ 8) (hfr : rm.frames + 1 ≤ R.frames ∧ 8 + (nL' + 11) + rm.locals ≤ R.locals) (h0 : nb' = (0, 0)) (hroom : kc + rm.cells ≤ R.cells ∧ ks + rm.slots ≤ R.slots) (hdg : decode cc pc = .ok (.invokevirtual idx, 3)) (hC : JC l y cc' nL' ret' rm nb' D cl tys ad N F (.ref (ad k) :: As) (jvx ad N P Ex)) (hret : ∀ F' : Nat → va_E, P F' → J l R nb own cc nL ret D cl tys A X Qx ad N kc ks (pc + 3) lv rest F') (hthr : ∀ (k : Nat) (F' : Nat → va_E), Ex k F' → Qx (.inr k) ad N F') : J l R nb own cc nL ret D cl tys A X Qx ad N kc ks pc lv st F := by
  subst h0
  refine J_callV hw hy hp hna hc hk hF hst hrest hfr hroom hdg hC (fun v ad' N' F' hq => ?_) (fun k ad' N' F' hq => ?_)
  · rcases hq with ⟨hz, rfl, rfl, hq⟩ | ⟨k, hz, -⟩
    · cases hz
      exact hret F' hq
    · cases hz
  · rcases hq with ⟨hz, -⟩ | ⟨k, hz, rfl, rfl, hq⟩
    · cases hz
    · cases hz
      exact hthr _ F' hq
theorem J_callVix {C : String} {T : u_T} {n ci idx k na : Nat} {fs : List Value} {y : MethodName} {cc' : ByteArray} {nL' : Nat} {ret' : Option FieldType} {rm : Room} {nb' : Nat × Nat} {As rest st : List Value} {P : Int → (Nat → va_E) → Prop} {Ex : Nat → (Nat → va_E) → Prop}
    (hw : Cond.methodLink own idx y ∈ jALL ∧ Cond.instanceMethod y ∈ jALL ∧ Cond.selects C y y ∈ jALL ∧ Cond.code y cc' nL' ret' ∈ jALL ∧ Cond.initialized y.cls ∈ jALL) (hy : y.cls ≠ "java/lang/invoke/MethodHandle" ∧ y.cls ≠ "java/lang/invoke/VarHandle") (hp : (parseMethodDescriptor y.desc).map (fun d => d.parameters.length) = some na) (hna : As.length = na)
    (hc : cl[ci]? = some (C, T, n)) (hk : k < N) (hF : F k = .inr (ci, fs)) (hst : st = As.reverse ++ .ref (ad k) :: rest) (hrest : (rest.map fun v => v.category).sum ≤ 8) (hfr : rm.frames + 1 ≤ R.frames ∧ 8 + (nL' + 11) + rm.locals ≤ R.locals) (h0 : nb' = (0, 0)) (hroom : kc + rm.cells ≤ R.cells ∧ ks + rm.slots ≤ R.slots) (hdg : decode cc pc = .ok (.invokevirtual idx, 3)) (hC : JC l y cc' nL' ret' rm nb' D cl tys ad N F (.ref (ad k) :: As) (jix ad N P Ex)) (hret : ∀ (z : Int) (F' : Nat → va_E), P z F' → J l R nb own cc nL ret D cl tys A X Qx ad N kc ks (pc + 3) lv (.int (iI z) :: rest) F') (hthr : ∀ (k : Nat) (F' : Nat → va_E), Ex k F' → Qx (.inr k) ad N F') : J l R nb own cc nL ret D cl tys A X Qx ad N kc ks pc lv st F := by
  subst h0
  refine J_callV hw hy hp hna hc hk hF hst hrest hfr hroom hdg hC (fun v ad' N' F' hq => ?_) (fun k ad' N' F' hq => ?_)
  · rcases hq with ⟨z, hz, rfl, rfl, hq⟩ | ⟨k, hz, -⟩
    · cases hz
      exact hret z F' hq
    · cases hz
  · rcases hq with ⟨z, hz, -⟩ | ⟨k, hz, rfl, rfl, hq⟩
    · cases hz
    · cases hz
      exact hthr _ F' hq
theorem J_callSv {idx na : Nat} {y : MethodName} {cc' : ByteArray} {nL' : Nat} {ret' : Option FieldType} {rm : Room} {nb' : Nat × Nat} {As rest st : List Value} {P : (Nat → va_E) → Prop}
    (hw : Cond.methodLink own idx y ∈ jALL ∧ Cond.static y ∈ jALL ∧ Cond.code y cc' nL' ret' ∈ jALL ∧ Cond.initialized y.cls ∈ jALL) (hy : y.cls ≠ "java/lang/invoke/MethodHandle" ∧ y.cls ≠ "java/lang/invoke/VarHandle") (hp : (parseMethodDescriptor y.desc).map (fun d => d.parameters.length) = some na) (hna : As.length = na)
    (hst : st = As.reverse ++ rest) (hrest : (rest.map fun v => v.category).sum ≤ 8) (hfr : rm.frames + 1 ≤ R.frames ∧ 8 + (nL' + 11) + rm.locals ≤ R.locals) (h0 : nb' = (0, 0)) (hroom : kc + rm.cells ≤ R.cells ∧ ks + rm.slots ≤ R.slots) (hdg : decode cc pc = .ok (.invokestatic idx, 3)) (hC : JC l y cc' nL' ret' rm nb' D cl tys ad N F As (jv ad N P)) (hret : ∀ F' : Nat → va_E, P F' → J l R nb own cc nL ret D cl tys A X Qx ad N kc ks (pc + 3) lv rest F') : J l R nb own cc nL ret D cl tys A X Qx ad N kc ks pc lv st F := by
  subst h0
  refine J_callS hw hy hp hna hst hrest hfr hroom hdg hC (fun v ad' N' F' hq => ?_) (fun k ad' N' F' hq => ?_)
  · obtain ⟨hz, rfl, rfl, hq⟩ := hq
    cases hz
    exact hret F' hq
  · obtain ⟨hz, -⟩ := hq
    cases hz
theorem J_callSi {idx na : Nat} {y : MethodName} {cc' : ByteArray} {nL' : Nat} {ret' : Option FieldType} {rm : Room} {nb' : Nat × Nat} {As rest st : List Value} {P : Int → (Nat → va_E) → Prop}
    (hw : Cond.methodLink own idx y ∈ jALL ∧ Cond.static y ∈ jALL ∧ Cond.code y cc' nL' ret' ∈ jALL ∧ Cond.initialized y.cls ∈ jALL) (hy : y.cls ≠ "java/lang/invoke/MethodHandle" ∧ y.cls ≠ "java/lang/invoke/VarHandle") (hp : (parseMethodDescriptor y.desc).map (fun d => d.parameters.length) = some na) (hna : As.length = na)
    (hst : st = As.reverse ++ rest) (hrest : (rest.map fun v => v.category).sum ≤ 8) (hfr : rm.frames + 1 ≤ R.frames ∧ 8 + (nL' + 11) + rm.locals ≤ R.locals) (h0 : nb' = (0, 0)) (hroom : kc + rm.cells ≤ R.cells ∧ ks + rm.slots ≤ R.slots) (hdg : decode cc pc = .ok (.invokestatic idx, 3)) (hC : JC l y cc' nL' ret' rm nb' D cl tys ad N F As (ji ad N P)) (hret : ∀ (z : Int) (F' : Nat → va_E), P z F' → J l R nb own cc nL ret D cl tys A X Qx ad N kc ks (pc + 3) lv (.int (iI z) :: rest) F') : J l R nb own cc nL ret D cl tys A X Qx ad N kc ks pc lv st F := by
  subst h0
  refine J_callS hw hy hp hna hst hrest hfr hroom hdg hC (fun v ad' N' F' hq => ?_) (fun k ad' N' F' hq => ?_)
  · obtain ⟨z, hz, rfl, rfl, hq⟩ := hq
    cases hz
    exact hret z F' hq
  · obtain ⟨z, hz, -⟩ := hq
    cases hz
theorem J_callSl {idx na : Nat} {y : MethodName} {cc' : ByteArray} {nL' : Nat} {ret' : Option FieldType} {rm : Room} {nb' : Nat × Nat} {As rest st : List Value} {P : Int → (Nat → va_E) → Prop}
    (hw : Cond.methodLink own idx y ∈ jALL ∧ Cond.static y ∈ jALL ∧ Cond.code y cc' nL' ret' ∈ jALL ∧ Cond.initialized y.cls ∈ jALL) (hy : y.cls ≠ "java/lang/invoke/MethodHandle" ∧ y.cls ≠ "java/lang/invoke/VarHandle") (hp : (parseMethodDescriptor y.desc).map (fun d => d.parameters.length) = some na) (hna : As.length = na)
    (hst : st = As.reverse ++ rest) (hrest : (rest.map fun v => v.category).sum ≤ 8) (hfr : rm.frames + 1 ≤ R.frames ∧ 8 + (nL' + 11) + rm.locals ≤ R.locals) (h0 : nb' = (0, 0)) (hroom : kc + rm.cells ≤ R.cells ∧ ks + rm.slots ≤ R.slots) (hdg : decode cc pc = .ok (.invokestatic idx, 3)) (hC : JC l y cc' nL' ret' rm nb' D cl tys ad N F As (jl ad N P)) (hret : ∀ (z : Int) (F' : Nat → va_E), P z F' → J l R nb own cc nL ret D cl tys A X Qx ad N kc ks (pc + 3) lv (.long (lI z) :: rest) F') : J l R nb own cc nL ret D cl tys A X Qx ad N kc ks pc lv st F := by
  subst h0
  refine J_callS hw hy hp hna hst hrest hfr hroom hdg hC (fun v ad' N' F' hq => ?_) (fun k ad' N' F' hq => ?_)
  · obtain ⟨z, hz, rfl, rfl, hq⟩ := hq
    cases hz
    exact hret z F' hq
  · obtain ⟨z, hz, -⟩ := hq
    cases hz
theorem J_callSvx {idx na : Nat} {y : MethodName} {cc' : ByteArray} {nL' : Nat} {ret' : Option FieldType} {rm : Room} {nb' : Nat × Nat} {As rest st : List Value} {P : (Nat → va_E) → Prop} {Ex : Nat → (Nat → va_E) → Prop}
    (hw : Cond.methodLink own idx y ∈ jALL ∧ Cond.static y ∈ jALL ∧ Cond.code y cc' nL' ret' ∈ jALL ∧ Cond.initialized y.cls ∈ jALL) (hy : y.cls ≠ "java/lang/invoke/MethodHandle" ∧ y.cls ≠ "java/lang/invoke/VarHandle") (hp : (parseMethodDescriptor y.desc).map (fun d => d.parameters.length) = some na) (hna : As.length = na)
    (hst : st = As.reverse ++ rest) (hrest : (rest.map fun v => v.category).sum ≤ 8) (hfr : rm.frames + 1 ≤ R.frames ∧ 8 + (nL' + 11) + rm.locals ≤ R.locals) (h0 : nb' = (0, 0)) (hroom : kc + rm.cells ≤ R.cells ∧ ks + rm.slots ≤ R.slots) (hdg : decode cc pc = .ok (.invokestatic idx, 3)) (hC : JC l y cc' nL' ret' rm nb' D cl tys ad N F As (jvx ad N P Ex)) (hret : ∀ F' : Nat → va_E, P F' → J l R nb own cc nL ret D cl tys A X Qx ad N kc ks (pc + 3) lv rest F') (hthr : ∀ (k : Nat) (F' : Nat → va_E), Ex k F' → Qx (.inr k) ad N F') : J l R nb own cc nL ret D cl tys A X Qx ad N kc ks pc lv st F := by
  subst h0
  refine J_callS hw hy hp hna hst hrest hfr hroom hdg hC (fun v ad' N' F' hq => ?_) (fun k ad' N' F' hq => ?_)
  · rcases hq with ⟨hz, rfl, rfl, hq⟩ | ⟨k, hz, -⟩
    · cases hz
      exact hret F' hq
    · cases hz
  · rcases hq with ⟨hz, -⟩ | ⟨k, hz, rfl, rfl, hq⟩
    · cases hz
    · cases hz
      exact hthr _ F' hq
theorem J_callSix {idx na : Nat} {y : MethodName} {cc' : ByteArray} {nL' : Nat} {ret' : Option FieldType} {rm : Room} {nb' : Nat × Nat} {As rest st : List Value} {P : Int → (Nat → va_E) → Prop} {Ex : Nat → (Nat → va_E) → Prop}
    (hw : Cond.methodLink own idx y ∈ jALL ∧ Cond.static y ∈ jALL ∧ Cond.code y cc' nL' ret' ∈ jALL ∧ Cond.initialized y.cls ∈ jALL) (hy : y.cls ≠ "java/lang/invoke/MethodHandle" ∧ y.cls ≠ "java/lang/invoke/VarHandle") (hp : (parseMethodDescriptor y.desc).map (fun d => d.parameters.length) = some na) (hna : As.length = na)
    (hst : st = As.reverse ++ rest) (hrest : (rest.map fun v => v.category).sum ≤ 8) (hfr : rm.frames + 1 ≤ R.frames ∧ 8 + (nL' + 11) + rm.locals ≤ R.locals) (h0 : nb' = (0, 0)) (hroom : kc + rm.cells ≤ R.cells ∧ ks + rm.slots ≤ R.slots) (hdg : decode cc pc = .ok (.invokestatic idx, 3)) (hC : JC l y cc' nL' ret' rm nb' D cl tys ad N F As (jix ad N P Ex)) (hret : ∀ (z : Int) (F' : Nat → va_E), P z F' → J l R nb own cc nL ret D cl tys A X Qx ad N kc ks (pc + 3) lv (.int (iI z) :: rest) F') (hthr : ∀ (k : Nat) (F' : Nat → va_E), Ex k F' → Qx (.inr k) ad N F') : J l R nb own cc nL ret D cl tys A X Qx ad N kc ks pc lv st F := by
  subst h0
  refine J_callS hw hy hp hna hst hrest hfr hroom hdg hC (fun v ad' N' F' hq => ?_) (fun k ad' N' F' hq => ?_)
  · rcases hq with ⟨z, hz, rfl, rfl, hq⟩ | ⟨k, hz, -⟩
    · cases hz
      exact hret z F' hq
    · cases hz
  · rcases hq with ⟨z, hz, -⟩ | ⟨k, hz, rfl, rfl, hq⟩
    · cases hz
    · cases hz
      exact hthr _ F' hq
end JKINDS
