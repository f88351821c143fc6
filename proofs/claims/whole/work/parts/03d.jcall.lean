section JCALLS
variable {l : Launch} {R : Room} {nb : Nat × Nat} {own : String} {cc : ByteArray} {nL : Nat} {ret : Option FieldType} {D : va_G} {cl : List vw_C} {tys : List (ClassId × FieldType)} {A : Nat → Prop} {X : State → Method → Prop} {Qx : JQ} {ad : Nat → Nat} {N kc ks pc : Nat} {lv : List (Nat × Value)} {F : Nat → va_E}
/-- a throw laid over the method's own frame leaves it -/
theorem j_leave {p : Program} {e : Env} {s : State} {m : MethodId} {args : Array Value} {below : List Frame} {meth : Method} {c : Code} (hI : jI l own cc nL ret D cl tys A X p e s m args meth c) {T' : State} {Ls : List Loc} (X' : Stand p l e R s m args below meth c T' Ls kc ks) (hLs : ∀ q ∈ Ls, A q.base) (hk : kc ≤ R.cells ∧ ks ≤ R.slots)
    {g : JFrame} (hg : g.method = m) (hlocked : g.locked = none) (hent : g.entered = []) {x : Addr} {k : Nat} {ad' : Nat → Nat} {N' : Nat} {F' : Nat → va_E} (hq : Qx (.inr k) ad' N' F') (hP : va_P D cl (jwl ad' N' F') T'.heap) (hD : va_D A (jwl ad' N' F')) (hF : va_F A s T')
    {cell : Cell} (hx : T'.heap[x]? = some cell) (hcl : s.vm.findClass (jEx k) = some cell.cls) (hvm : cell.vm = .none) (hnew : s.heap.size ≤ x) :
    ∃ t, Steps p.tables e below ((T'.setTop g).pushFrame (.throwing x)) t ∧ jMQ D cl A nb R.cells R.slots Qx below s t := by
  obtain ⟨-, -, -, -, -, -, hlocks, -, hexc, -⟩ := hI
  obtain ⟨st, h1, h2, h3, h4⟩ := X'.leaveThrown x hg hlocked hent (by
    intro y hy
    have : c.exceptionTable.toList = [] := by
      simpa using hexc
    rw [this] at hy; cases hy) hlocks
  refine ⟨_, st, .threw x, h1, h2, ⟨.inr k, ad', N', F', hq, hP, hD, x, cell, rfl, hx, hcl, hvm, hnew⟩, hF, h3, Ls, h4.mono hk.1 hk.2, hLs⟩
theorem J_core {p : Program} {e : Env} {s : State} {m : MethodId} {args : Array Value} {below : List Frame} {meth : Method} {c : Code} {H : Heap} {locs : List Loc} {ls : Array Slot} (hI : jI l own cc nL ret D cl tys A X p e s m args meth c) (hP : va_P D cl (jwl ad N F) H) (hD : va_D A (jwl ad N F)) (hS : va_S A s.heap H locs) (hl : lv_has ls nL lv)
    {T : State} (hT : T.heap = H) {vm₁ : Vm} (X₁ : Stand p l e R s m args below meth c (T.setVm vm₁) locs kc ks) {ig : Instr} (hdg : decode cc pc = .ok (ig, 3)) {rest : List Value} (hrest : (rest.map fun v => v.category).sum ≤ 8)
    {y : MethodName} {mk : MethodId} (hn : (T.setVm vm₁).methodNamed? y = some mk) {cc' : ByteArray} {nL' : Nat} {ret' : Option FieldType} {rm : Room} {nb' : Nat × Nat} {av : List Value} {Qc : JQ} (hC : JC l y cc' nL' ret' rm nb' D cl tys ad N F av Qc)
    (hfr : rm.frames + 1 ≤ R.frames ∧ 8 + (nL' + 11) + rm.locals ≤ R.locals) (hroom : kc + rm.cells ≤ R.cells ∧ ks + rm.slots ≤ R.slots) (hcode : Cond.code y cc' nL' ret' ∈ jALL) (hini : Cond.initialized y.cls ∈ jALL)
    (hret : ∀ (v : Option Value) (ad' : Nat → Nat) (N' : Nat) (F' : Nat → va_E), Qc (.inl v) ad' N' F' → J l R nb own cc nL ret D cl tys A X Qx ad' N' (kc + nb'.1) (ks + nb'.2) (pc + 3) lv (v.toList ++ rest) F')
    (hthr : ∀ (k : Nat) (ad' : Nat → Nat) (N' : Nat) (F' : Nat → va_E), Qc (.inr k) ad' N' F' → Qx (.inr k) ad' N' F') :
    ∃ t, Steps p.tables e below (doInvoke e ((T.setVm vm₁).setTop (F0 m pc ls rest)) [] mk av.toArray).1 t ∧ jMQ D cl A nb R.cells R.slots Qx below s t := by
  obtain ⟨hx, hb, hr, hml, hown, hts, hlocks, htr, hexc, hK, hA, hZ, hX, hfl⟩ := id hI
  subst hT
  have hW₁ : s.WarmedH vm₁ := X₁.warmed
  have hAA : ∀ q, jA ad N T.heap.size q → A q := by
    rintro q (⟨k, h1, rfl⟩ | h)
    · exact hD.2 k _ (jwl_get h1)
    · exact hA q (Nat.le_trans hS.1 h)
  obtain ⟨o, t, T', L, hq, e1, e2, X', hL, hst⟩ := jx_call X₁ (g := F0 m pc ls rest) rfl (by show ls.size = _; rw [hml]; exact hl.1) (by rw [hb]; exact hdg) (by show 2 * 0 + (rest.map fun v => v.category).sum ≤ 8; omega) hn (hC T.heap.size) hfr hroom hts hcode hini
    (fun g' mk' => ⟨rfl, rfl, hP, va_K.moved hW₁.alike hK, hD.weaken (fun _ _ _ _ => trivial), hZ.move hW₁ (fun a h1 h2 => hS.2.1 a h1 h2) hAA⟩)
    (free := jA ad N T.heap.size) (fun st o t h => ⟨h.2.2.1, h.2.2.2⟩)
  obtain ⟨⟨oc, ad', N', F', hqc, hP', hD', hout⟩, hFr, -, -⟩ := hq
  have hz1 : T.heap.size ≤ t.heap.size := hFr.1
  have hk1 : ∀ q : Nat, q < T.heap.size → ¬ jA ad N T.heap.size q → t.heap[q]? = T.heap[q]? := hFr.2
  have hLA : ∀ q ∈ locs ++ L, A q.base := fun q hq => by
    rcases List.mem_append.mp hq with h | h
    · exact hS.2.2 q h
    · exact hAA _ (hL q h)
  have hS' : va_S A s.heap t.heap (locs ++ L) := ⟨Nat.le_trans hS.1 hz1, fun q h1 h2 => by rw [hk1 q (Nat.lt_of_lt_of_le h1 hS.1) (fun z => h2 (hAA q z))]; exact hS.2.1 q h1 h2, hLA⟩
  have hDA : va_D A (jwl ad' N' F') := hD'.weaken (fun _ q _ h => hAA q.1 h)
  rcases hst with ⟨v, rfl, st⟩ | ⟨x, rfl, st⟩
  · cases oc with
    | inr k => obtain ⟨x, cell, h0, -⟩ := hout; cases h0
    | inl v' =>
      have hv : Outcome.returned v = .returned v' := hout
      cases hv
      obtain ⟨t2, a1, b1⟩ := hret v ad' N' F' hqc p e s m args below meth c t.heap (locs ++ L) ls hI hP' hDA hS' hl T' e1 X'
      exact ⟨t2, st.trans a1, b1⟩
  · cases oc with
    | inl v' => have hv : Outcome.threw x = .returned v' := hout; cases hv
    | inr k =>
      obtain ⟨x', cell, h0, h1, h2, h3, h4⟩ := hout
      cases h0
      obtain ⟨t2, a1, b1⟩ := j_leave hI X' hLA hroom (g := F0 m pc ls rest) rfl rfl rfl (hthr k ad' N' F' hqc) (by rw [e1]; exact hP') hDA ⟨by rw [e1]; exact hS'.1, fun q h1 h2 => by rw [e1]; exact hS'.2.1 q h1 h2⟩ (x := x) (cell := cell) (by rw [e1]; exact h1)
        (by rw [← hW₁.alike.findClass]; exact h2) h3 (Nat.le_trans hS.1 h4)
      exact ⟨t2, st.trans a1, b1⟩
/-- invokevirtual, on an object of the class that declares the method -/
theorem J_callV {C : String} {T : u_T} {n ci idx k na : Nat} {fs : List Value} {y : MethodName} {cc' : ByteArray} {nL' : Nat} {ret' : Option FieldType} {rm : Room} {nb' : Nat × Nat} {As rest st : List Value} {Qc : JQ}
    (hw : Cond.methodLink own idx y ∈ jALL ∧ Cond.instanceMethod y ∈ jALL ∧ Cond.selects C y y ∈ jALL ∧ Cond.code y cc' nL' ret' ∈ jALL ∧ Cond.initialized y.cls ∈ jALL) (hy : y.cls ≠ "java/lang/invoke/MethodHandle" ∧ y.cls ≠ "java/lang/invoke/VarHandle") (hp : (parseMethodDescriptor y.desc).map (fun d => d.parameters.length) = some na) (hna : As.length = na)
    (hc : cl[ci]? = some (C, T, n)) (hk : k < N) (hF : F k = .inr (ci, fs)) (hst : st = As.reverse ++ .ref (ad k) :: rest) (hrest : (rest.map fun v => v.category).sum ≤ 8) (hfr : rm.frames + 1 ≤ R.frames ∧ 8 + (nL' + 11) + rm.locals ≤ R.locals) (hroom : kc + rm.cells ≤ R.cells ∧ ks + rm.slots ≤ R.slots)
    (hdg : decode cc pc = .ok (.invokevirtual idx, 3)) (hC : JC l y cc' nL' ret' rm nb' D cl tys ad N F (.ref (ad k) :: As) Qc)
    (hret : ∀ (v : Option Value) (ad' : Nat → Nat) (N' : Nat) (F' : Nat → va_E), Qc (.inl v) ad' N' F' → J l R nb own cc nL ret D cl tys A X Qx ad' N' (kc + nb'.1) (ks + nb'.2) (pc + 3) lv (v.toList ++ rest) F')
    (hthr : ∀ (k : Nat) (ad' : Nat → Nat) (N' : Nat) (F' : Nat → va_E), Qc (.inr k) ad' N' F' → Qx (.inr k) ad' N' F') : J l R nb own cc nL ret D cl tys A X Qx ad N kc ks pc lv st F := by
  intro p e s m args below meth c H locs ls hI hP hD hS hl
  obtain ⟨hx, hb, hr, hml, hown, hts, hlocks, htr, hexc, hK, hA, hZ, hX, hfl⟩ := id hI
  obtain ⟨w1, w2, w3, w4, w5⟩ := hw
  subst hst
  intro T0 hT X0
  obtain ⟨mk, methM, hnamed, hmethM, hstM, habM⟩ := Cond.instanceMethod_spec (hts _ w2)
  obtain ⟨methM', cM, hmethM', -, -, -, -, -, -, hsigM⟩ := Cond.code_spec hnamed (hts _ w4)
  cases hmethM.symm.trans hmethM'
  obtain ⟨c2, r2, m2, q1, q2, q3, q4, kP, hkP, hkPi⟩ := Cond.selects_spec (hts _ w3)
  obtain ⟨cell, hcell, hobj, hcls⟩ := va_recv hK hP (q0 := k) hc (by rw [jwl_get hk, hF])
  cases hcls.symm.trans q1
  cases (State.methodFound?_of_named hnamed hy).symm.trans q2
  cases hnamed.symm.trans q3
  have hselP : selectMethod e.platform s.vm cell.cls mk = .method mk := by rw [Launch.admits_selectMethod X0.admits]; exact q4
  have hlen : As.length = methM.sig.parameters.length := by
    rw [hsigM] at hp
    exact hna.trans (Option.some.inj hp).symm
  obtain ⟨vm₁, X₁, hstep₁⟩ := X0.invokevirtual hx hown (hts _ w1) hnamed hmethM hstM hkP hkPi hy (a := ad k) (cell := cell) (by rw [hT]; exact hcell)
    (fun z h => by rw [h] at hobj; cases hobj) hselP hmethM habM hkP hkPi (g := F0 m pc ls (As.reverse ++ .ref (ad k) :: rest)) rfl (argsL := As) (rest := rest) hlen rfl (by rw [hb]; exact hdg)
  obtain ⟨t, a1, b1⟩ := J_core hI hP hD hS hl hT X₁ hdg hrest (X₁.named hnamed) hC hfr hroom w4 w5 hret hthr
  exact ⟨t, hstep₁ _ (fun acts => by rw [doInvoke_state]; exact a1), b1⟩
/-- invokestatic -/
theorem J_callS {idx na : Nat} {y : MethodName} {cc' : ByteArray} {nL' : Nat} {ret' : Option FieldType} {rm : Room} {nb' : Nat × Nat} {As rest st : List Value} {Qc : JQ}
    (hw : Cond.methodLink own idx y ∈ jALL ∧ Cond.static y ∈ jALL ∧ Cond.code y cc' nL' ret' ∈ jALL ∧ Cond.initialized y.cls ∈ jALL) (hy : y.cls ≠ "java/lang/invoke/MethodHandle" ∧ y.cls ≠ "java/lang/invoke/VarHandle") (hp : (parseMethodDescriptor y.desc).map (fun d => d.parameters.length) = some na) (hna : As.length = na)
    (hst : st = As.reverse ++ rest) (hrest : (rest.map fun v => v.category).sum ≤ 8) (hfr : rm.frames + 1 ≤ R.frames ∧ 8 + (nL' + 11) + rm.locals ≤ R.locals) (hroom : kc + rm.cells ≤ R.cells ∧ ks + rm.slots ≤ R.slots)
    (hdg : decode cc pc = .ok (.invokestatic idx, 3)) (hC : JC l y cc' nL' ret' rm nb' D cl tys ad N F As Qc)
    (hret : ∀ (v : Option Value) (ad' : Nat → Nat) (N' : Nat) (F' : Nat → va_E), Qc (.inl v) ad' N' F' → J l R nb own cc nL ret D cl tys A X Qx ad' N' (kc + nb'.1) (ks + nb'.2) (pc + 3) lv (v.toList ++ rest) F')
    (hthr : ∀ (k : Nat) (ad' : Nat → Nat) (N' : Nat) (F' : Nat → va_E), Qc (.inr k) ad' N' F' → Qx (.inr k) ad' N' F') : J l R nb own cc nL ret D cl tys A X Qx ad N kc ks pc lv st F := by
  intro p e s m args below meth c H locs ls hI hP hD hS hl
  obtain ⟨hx, hb, hr, hml, hown, hts, hlocks, htr, hexc, hK, hA, hZ, hX, hfl⟩ := id hI
  obtain ⟨w1, w2, w4, w5⟩ := hw
  subst hst
  intro T0 hT X0
  obtain ⟨mk, hnamed⟩ := Cond.code_named (hts _ w4)
  obtain ⟨methM, cM, hmethM, -, -, -, -, -, -, hsigM⟩ := Cond.code_spec hnamed (hts _ w4)
  have hstatic : methM.isStatic = true := Cond.static_spec hnamed hmethM (hts _ w2)
  obtain ⟨kP, hkP, -⟩ := className_of_methodNamed hnamed
  have hinitP : kP.init = .initialized := Cond.initialized_spec (findClass_of_methodNamed hnamed) hkP (hts _ w5)
  have hlen : As.length = methM.sig.parameters.length := by
    rw [hsigM] at hp
    exact hna.trans (Option.some.inj hp).symm
  obtain ⟨vm₁, X₁, hstep₁⟩ := X0.invokestatic hx hown (hts _ w1) hnamed hmethM hstatic hkP hinitP hy (g := F0 m pc ls (As.reverse ++ rest)) rfl (argsL := As) (rest := rest) hlen rfl (by rw [hb]; exact hdg)
  obtain ⟨t, a1, b1⟩ := J_core hI hP hD hS hl hT X₁ hdg hrest (X₁.named hnamed) hC hfr hroom w4 w5 hret hthr
  exact ⟨t, hstep₁ _ (fun acts => by rw [doInvoke_state]; exact a1), b1⟩
/-- invokespecial of a constructor -/
theorem J_callI {idx na k : Nat} {y : MethodName} {cc' : ByteArray} {nL' : Nat} {rm : Room} {nb' : Nat × Nat} {As rest st : List Value} {Qc : JQ}
    (hw : Cond.methodLink own idx y ∈ jALL ∧ Cond.instanceMethod y ∈ jALL ∧ Cond.code y cc' nL' none ∈ jALL ∧ Cond.initialized y.cls ∈ jALL) (hy1 : y.name = "<init>") (hy : y.cls ≠ "java/lang/invoke/MethodHandle" ∧ y.cls ≠ "java/lang/invoke/VarHandle") (hp : (parseMethodDescriptor y.desc).map (fun d => d.parameters.length) = some na) (hna : As.length = na)
    (hst : st = As.reverse ++ .ref (ad k) :: rest) (hrest : (rest.map fun v => v.category).sum ≤ 8) (hfr : rm.frames + 1 ≤ R.frames ∧ 8 + (nL' + 11) + rm.locals ≤ R.locals) (hroom : kc + rm.cells ≤ R.cells ∧ ks + rm.slots ≤ R.slots)
    (hdg : decode cc pc = .ok (.invokespecial idx, 3)) (hC : JC l y cc' nL' none rm nb' D cl tys ad N F (.ref (ad k) :: As) Qc)
    (hret : ∀ (v : Option Value) (ad' : Nat → Nat) (N' : Nat) (F' : Nat → va_E), Qc (.inl v) ad' N' F' → J l R nb own cc nL ret D cl tys A X Qx ad' N' (kc + nb'.1) (ks + nb'.2) (pc + 3) lv (v.toList ++ rest) F')
    (hthr : ∀ (k : Nat) (ad' : Nat → Nat) (N' : Nat) (F' : Nat → va_E), Qc (.inr k) ad' N' F' → Qx (.inr k) ad' N' F') : J l R nb own cc nL ret D cl tys A X Qx ad N kc ks pc lv st F := by
  intro p e s m args below meth c H locs ls hI hP hD hS hl
  obtain ⟨hx, hb, hr, hml, hown, hts, hlocks, htr, hexc, hK, hA, hZ, hX, hfl⟩ := id hI
  obtain ⟨w1, w2, w4, w5⟩ := hw
  subst hst
  intro T0 hT X0
  have hpl : e.platform.magicAccessors = ({} : Platform).magicAccessors := by rw [X0.admits.platform]
  have h0 := X0.here
  have hlen' : ∀ sig, parseMethodDescriptor y.desc = some sig → As.length = sig.parameters.length := fun sig h => by
    rw [h] at hp
    exact hna.trans (Option.some.inj hp).symm
  obtain ⟨mk, methM, cM, kP, vm₁, hnamed, hmethM, hcodeM, -, hlocalsM, -, hkP, -, hW₁, hstep₁⟩ := Steps.initColdArgs (e := e) h0 hx X0.warmed hpl hown hy1 hy (hts _ w1) (hts _ w2) (hts _ w4) (f := F0 m pc ls (As.reverse ++ .ref (ad k) :: rest)) rfl hlen' rfl (by rw [hb]; exact hdg)
  have X₁ := X0.noted hW₁
  obtain ⟨t, a1, b1⟩ := J_core hI hP hD hS hl hT X₁ hdg hrest (X₁.named hnamed) hC hfr hroom w4 w5 hret hthr
  exact ⟨t, hstep₁ _ (fun acts => by rw [doInvoke_state]; exact a1), b1⟩
end JCALLS
