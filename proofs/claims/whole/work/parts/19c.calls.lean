/-! calls of methods with a handler table, or with more to know at their start -/
section JCALLG
variable {p : Program} {l : Launch} {e : Env} {R : Room} {s : State} {m : MethodId} {args : Array Value} {below : List Frame} {meth : Method} {c : Code}
/-- from the invoke to the end of the callee: the point behind it, or the throw laid over the caller's frame -/
theorem jx_callG {U : State} {Ls : List Loc} {c0 s0 : Nat} (X : Stand p l e R s m args below meth c U Ls c0 s0) {g : JFrame} (hg : g.method = m) (hsize : g.locals.size = c.maxLocals) {ig : Instr} (hdg : decode c.code g.pc = .ok (ig, 3))
    (hW : 2 * g.monitorRoom + (g.stack.map fun v => v.category).sum ≤ 8) {y : MethodName} {mk : MethodId} (hn : U.methodNamed? y = some mk) {a : Array Value} {cw : Cond} {nL : Nat} {rm : Room} {nb : Nat × Nat} {Pc : Array Value → State → Prop} {Q : Array Value → State → Outcome → State → Prop} {free : Addr → Prop}
    (hM : MetFree l y (headSpec (cw :: jALL) rm) Pc (fun _ _ _ _ _ => True) Q) (hfr : rm.frames + 1 ≤ R.frames ∧ 8 + (nL + 11) + rm.locals ≤ R.locals) (hroom : c0 + rm.cells ≤ R.cells ∧ s0 + rm.slots ≤ R.slots)
    (hts : ∀ w ∈ jALL, w.before args s = true) (hcode : cw ∈ jALL) (hloc : ∀ (U0 : State) (mk0 : MethodId) (a0 : Array Value), U0.methodNamed? y = some mk0 → cw.before a0 U0 = true → ∃ (methY : Method) (cY : Code), U0.vm.method? mk0 = some methY ∧ methY.code = some cY ∧ cY.maxLocals = nL) (hini : Cond.initialized y.cls ∈ jALL)
    (hP : ∀ (g' : JFrame) (mk' : MethodId), Pc a (U.calling g' mk' a))
    (hQ : ∀ st o t, Q a st o t → st.WarmedH t.vm ∧ ∃ L : List Loc, st.sameButNew ({ t with vm := st.vm } : State) L (jco nb rm.cells rm.slots o).1 (jco nb rm.cells rm.slots o).2 ∧ ∀ q ∈ L, free q.base) :
    ∃ (o : Outcome) (t T' : State) (L : List Loc), Q a (U.calling g mk a) o t ∧ T'.heap = t.heap ∧ T'.vm = t.vm ∧ Stand p l e R s m args below meth c T' (Ls ++ L) (c0 + (jco nb rm.cells rm.slots o).1) (s0 + (jco nb rm.cells rm.slots o).2) ∧ (∀ q ∈ L, free q.base) ∧
      ((∃ v, o = .returned v ∧ Steps p.tables e below (doInvoke e (U.setTop g) [] mk a).1 (T'.setTop { g with pc := g.pc + 3, stack := v.toList ++ g.stack })) ∨
       (∃ x, o = .threw x ∧ Steps p.tables e below (doInvoke e (U.setTop g) [] mk a).1 ((T'.setTop g).pushFrame (.throwing x)))) := by
  have htw : ∀ w ∈ jALL, ∀ a' : Array Value, w.before a' U = true := fun w hw a' => word_at X.warmed (jALL_good hw) (hts w hw)
  have h1 : (allAtoms (cw :: jALL)).before a U = true := atoms_intro fun w hw => by
    rcases List.mem_cons.mp hw with rfl | h
    · exact htw _ hcode a
    · exact htw w h a
  obtain ⟨methY, cY, hmY, hcY, hlY⟩ := hloc U mk a hn (htw _ hcode a)
  obtain ⟨kY, hkY, -⟩ := className_of_methodNamed hn
  have hinitY : kY.init = .initialized := Cond.initialized_spec (findClass_of_methodNamed hn) hkY (htw _ hini a)
  have h : At U g.method c below := by rw [hg]; exact X.here
  have happ : (headSpec (cw :: jALL) rm).appliesLoose y e.platform (U.calling g mk a) = true :=
    Spec.appliesLoose_calling (g := g) h hdg hn hkY hinitY (X.room_calling (g := g) (R' := rm) hsize hmY hcY hfr.1 (by rw [hlY]; have := hfr.2; omega) hroom.1 hroom.2) h1
  obtain ⟨mid, hmid⟩ := h.above
  have hfrm : (U.setTop g).frames = (.java g :: mid) ++ below := by rw [State.frames_setTop' g h.top, hmid]; rfl
  obtain ⟨o, s₂, hsteps, -, hend, hq⟩ := Steps.callFree hM p X.admits X.cas X.clock (acts := []) hfrm happ (hP g mk) trivial
  have hq' : Q a (U.calling g mk a) o s₂ := hq
  rw [State.frames_setTop' g h.top] at hend
  obtain ⟨hW₂, L, ⟨e2, q2, q3, q4, q5, q6⟩, hL⟩ := hQ _ _ _ hq'
  have e3 : s₂ = ({ (U.calling g mk a).setFrames s₂.frames with heap := s₂.heap, slotsUsed := s₂.slotsUsed } : State).setVm s₂.vm := by
    have : s₂ = ({ s₂ with vm := (U.calling g mk a).vm } : State).setVm s₂.vm := rfl
    rw [e2] at this
    exact this
  have hW' : U.WarmedH s₂.vm := hW₂
  obtain ⟨g₀, hg0⟩ := Option.isSome_iff_exists.mp h.top
  obtain ⟨r, hr⟩ := State.topJava?_eq_some.mp hg0
  have hsame : U.sameButNew ({ U with heap := s₂.heap, slotsUsed := s₂.slotsUsed } : State) L (jco nb rm.cells rm.slots o).1 (jco nb rm.cells rm.slots o).2 := by
    refine ⟨?_, q2, q3, q4, q5, q6⟩
    obtain ⟨t, ht, -⟩ := State.frames_cons hr
    show ({ U with heap := s₂.heap, slotsUsed := s₂.slotsUsed } : State) = { U.setFrames U.frames with heap := s₂.heap, slotsUsed := s₂.slotsUsed }
    rw [State.setFrames_self ht]
  have hr' : (({ U with heap := s₂.heap, slotsUsed := s₂.slotsUsed } : State).setVm s₂.vm).frames = .java g₀ :: r := hr
  subst hg
  refine ⟨o, s₂, (({ U with heap := s₂.heap, slotsUsed := s₂.slotsUsed } : State).setVm s₂.vm), L, hq', rfl, rfl,
    ⟨X.admits, X.cas, X.clock, X.frames, X.room, X.hears, X.method, X.code, (X.here.setHeapUsed s₂.heap s₂.slotsUsed).setVm hW'.alike, X.tail, State.WarmedH.trans X.warmed hW', X.limits, X.bytes, X.same.trans (hsame.setVm s.vm)⟩, hL, ?_⟩
  cases o with
  | returned v =>
    left
    refine ⟨v, rfl, ?_⟩
    obtain ⟨c₂, i₂, len₂, hc₂, hd₂, hf₂⟩ := hend
    have hcc : c₂ = c := by
      have h1 : s₂.code? g.method = U.code? g.method := by
        rw [State.code?_eq, State.code?_eq, hW'.alike.method?]
      exact Option.some.inj (hc₂.symm.trans (h1.trans h.code))
    subst hcc
    have hlen : len₂ = 3 := by rw [hdg] at hd₂; cases hd₂; rfl
    subst hlen
    have hs₂ : s₂ = (({ U with heap := s₂.heap, slotsUsed := s₂.slotsUsed } : State).setVm s₂.vm).setTop { g with pc := g.pc + 3, stack := v.toList ++ g.stack } := by
      refine e3.trans ?_
      rw [hf₂, State.calling_eq h.top, State.setFrames_setFrames, State.setTop_of_frames _ hr', hr]
      rfl
    rw [← hs₂]
    exact hsteps
  | threw x =>
    right
    refine ⟨x, rfl, ?_⟩
    have hf₂ : s₂.frames = .throwing x :: .java g :: U.frames.tail := hend
    have hs₂ : s₂ = ((({ U with heap := s₂.heap, slotsUsed := s₂.slotsUsed } : State).setVm s₂.vm).setTop g).pushFrame (.throwing x) := by
      refine e3.trans ?_
      rw [hf₂, State.calling_eq h.top, State.setFrames_setFrames, State.pushFrame, State.frames_setTop _ hr', State.setTop_of_frames _ hr', State.setFrames_setFrames, hr]
      rfl
    rw [← hs₂]
    exact hsteps

end JCALLG
/-- a method's contract, its head word cw, and more to know of its start -/
def JG (l : Launch) (y : MethodName) (cw : Cond) (rm : Room) (nb : Nat × Nat) (D : va_G) (cl : List vw_C) (tys : List (ClassId × FieldType)) (ad : Nat → Nat) (N : Nat) (F : Nat → va_E) (av : List Value) (E : State → Prop) (Qx : JQ) : Prop :=
  ∀ sz : Nat, MetFree l y (headSpec (cw :: jALL) rm) (fun v U => jPre D cl tys ad N F sz av v U ∧ E U) (fun _ _ _ _ _ => True) (fun _ s o t => jEnd D cl (jA ad N sz) nb rm.cells rm.slots Qx s o t)
theorem JG.intro {l : Launch} (hfl : l.flags = flags0) {y : MethodName} {cc : ByteArray} {nL : Nat} {ret : Option FieldType} {rm : Room} {nb : Nat × Nat} {D : va_G} {cl : List vw_C} {tys : List (ClassId × FieldType)} {ad : Nat → Nat} {N : Nat} {F : Nat → va_E} {av : List Value} {E : State → Prop} {Qx : JQ}
    (hy : plainFor y = true) (hlen : (lg_sl av).length ≤ nL)
    (body : ∀ sz : Nat, J l rm nb y.cls cc nL ret D cl tys (jA ad N sz) (fun s me => me.name = y.name ∧ E s) Qx ad N 0 0 0 (lv_args 0 av) [] F) : JG l y (Cond.code y cc nL ret) rm nb D cl tys ad N F av E Qx := by
  intro sz
  refine MetFree.of_bodySF (code := cc) (maxLocals := nL) (ret := ret) hy ?_ ?_
  · intro args s m h hn
    obtain ⟨meth, c, h1, h2, h3, h4, h5, h6, -, -⟩ := Cond.code_spec hn (atoms_spec (ws := Cond.code y cc nL ret :: jALL) h _ List.mem_cons_self)
    exact ⟨meth, c, h1, h2, h3, h4, h5, h6⟩
  · intro p e s m args below meth c s₁ B hml hP _
    obtain ⟨⟨rfl, hsz, hP, hK, hD, hZ⟩, hE⟩ := hP
    have hts0 : ∀ w ∈ Cond.code y cc nL ret :: jALL, w.before av.toArray s = true := atoms_spec (ws := Cond.code y cc nL ret :: jALL) B.pre
    have hts : ∀ w ∈ jALL, w.before av.toArray s = true := fun w hw => hts0 w (List.mem_cons_of_mem _ hw)
    have hown : s.vm.findClass y.cls = some m.cls := findClass_of_methodNamed B.named
    have hl := lv_entry av (n := nL) hlen
    subst hsz
    have hh0 : s₁.heap = s.heap := by rw [B.state]; rfl
    have hD' : va_D (jA ad N s.heap.size) (jwl ad N F) := ⟨hD.1, fun k q hk => by obtain ⟨h1, rfl⟩ := jwl_some hk; exact Or.inl ⟨k, h1, rfl⟩⟩
    have K := body s.heap.size p e s m av.toArray below meth c s.heap [] _ ⟨B.exec, B.bytes, B.returns, hml, hown, hts, B.notSynchronized, Launch.traces_off hfl B.admits, B.noHandlers (hts0 _ List.mem_cons_self), hK, fun q h => Or.inr h, hZ, ⟨(name_of_methodNamed B.named B.method).1, hE⟩, hfl, jNS.of hP⟩ hP hD' va_S.rf hl
    rw [← lg_entry_eq] at K
    obtain ⟨t, a1, o, b1, b2, b3⟩ := K s₁ hh0 (Stand.of_body B)
    exact ⟨t, o, a1, b1, b2, b3⟩
section JCALLSG
variable {l : Launch} {R : Room} {nb : Nat × Nat} {own : String} {cc : ByteArray} {nL : Nat} {ret : Option FieldType} {D : va_G} {cl : List vw_C} {tys : List (ClassId × FieldType)} {A : Nat → Prop} {X : State → Method → Prop} {Qx : JQ} {ad : Nat → Nat} {N kc ks pc : Nat} {lv : List (Nat × Value)} {F : Nat → va_E}
theorem J_coreG {p : Program} {e : Env} {s : State} {m : MethodId} {args : Array Value} {below : List Frame} {meth : Method} {c : Code} {H : Heap} {locs : List Loc} {ls : Array Slot} (hI : jI l own cc nL ret D cl tys A X p e s m args meth c) (hP : va_P D cl (jwl ad N F) H) (hD : va_D A (jwl ad N F)) (hS : va_S A s.heap H locs) (hl : lv_has ls nL lv)
    {T : State} (hT : T.heap = H) {vm₁ : Vm} (X₁ : Stand p l e R s m args below meth c (T.setVm vm₁) locs kc ks) {ig : Instr} (hdg : decode cc pc = .ok (ig, 3)) {rest : List Value} (hrest : (rest.map fun v => v.category).sum ≤ 8)
    {y : MethodName} {mk : MethodId} (hn : (T.setVm vm₁).methodNamed? y = some mk) {cw : Cond} {nL' : Nat} {rm : Room} {E : State → Prop} {nb' : Nat × Nat} {av : List Value} {Qc : JQ} (hC : JG l y cw rm nb' D cl tys ad N F av E Qc)
    (hfr : rm.frames + 1 ≤ R.frames ∧ 8 + (nL' + 11) + rm.locals ≤ R.locals) (hroom : kc + rm.cells ≤ R.cells ∧ ks + rm.slots ≤ R.slots) (hcode : cw ∈ jALL) (hloc : ∀ (U0 : State) (mk0 : MethodId) (a0 : Array Value), U0.methodNamed? y = some mk0 → cw.before a0 U0 = true → ∃ (methY : Method) (cY : Code), U0.vm.method? mk0 = some methY ∧ methY.code = some cY ∧ cY.maxLocals = nL') (hEm : ∀ u U : State, u.vm.Alike U.vm → E u → E U) (hXE : ∀ s me, X s me → E s) (hini : Cond.initialized y.cls ∈ jALL)
    (hret : ∀ (v : Option Value) (ad' : Nat → Nat) (N' : Nat) (F' : Nat → va_E), Qc (.inl v) ad' N' F' → J l R nb own cc nL ret D cl tys A X Qx ad' N' (kc + nb'.1) (ks + nb'.2) (pc + 3) lv (v.toList ++ rest) F')
    (hthr : ∀ (k : Nat) (ad' : Nat → Nat) (N' : Nat) (F' : Nat → va_E), Qc (.inr k) ad' N' F' → Qx (.inr k) ad' N' F') :
    ∃ t, Steps p.tables e below (doInvoke e ((T.setVm vm₁).setTop (F0 m pc ls rest)) [] mk av.toArray).1 t ∧ jMQ D cl A nb R.cells R.slots Qx below s t := by
  obtain ⟨hx, hb, hr, hml, hown, hts, hlocks, htr, hexc, hK, hA, hZ, hX, hfl⟩ := id hI
  subst hT
  have hW₁ : s.WarmedH vm₁ := X₁.warmed
  have hAA : ∀ q, jA ad N T.heap.size q → A q := by
    rintro q (⟨k, h1, rfl⟩ | h)
    · exact hD.2 k _ (jwl_get h1)
    · exact hA q (Nat.le_trans hS.1 h)
  obtain ⟨o, t, T', L, hq, e1, e2, X', hL, hst⟩ := jx_callG X₁ (g := F0 m pc ls rest) rfl (by show ls.size = _; rw [hml]; exact hl.1) (by rw [hb]; exact hdg) (by show 2 * 0 + (rest.map fun v => v.category).sum ≤ 8; omega) hn (hC T.heap.size) hfr hroom hts hcode hloc hini
    (fun g' mk' => ⟨⟨rfl, rfl, hP, va_K.moved hW₁.alike hK, hD.weaken (fun _ _ _ _ => trivial), hZ.move hW₁ (fun a h1 h2 => hS.2.1 a h1 h2) hAA⟩, hEm _ _ hW₁.alike (hXE _ _ hX)⟩)
    (free := jA ad N T.heap.size) (fun st o t h => ⟨h.2.2.1, h.2.2.2⟩)
  obtain ⟨⟨oc, ad', N', F', hqc, hP', hD', hout⟩, hFr, -, -⟩ := hq
  have hz1 : T.heap.size ≤ t.heap.size := hFr.1
  have hk1 : ∀ q : Nat, q < T.heap.size → ¬ jA ad N T.heap.size q → t.heap[q]? = T.heap[q]? := hFr.2
  have hLA : ∀ q ∈ locs ++ L, A q.base := fun q hq => by
    rcases List.mem_append.mp hq with h | h
    · exact hS.2.2 q h
    · exact hAA _ (hL q h)
  have hS' : va_S A s.heap t.heap (locs ++ L) := ⟨Nat.le_trans hS.1 hz1, fun q h1 h2 => by rw [hk1 q (Nat.lt_of_lt_of_le h1 hS.1) (fun z => h2 (hAA q z))]; exact hS.2.1 q h1 h2, hLA⟩
  have hDA : va_D A (jwl ad' N' F') := hD'.weaken (fun _ q _ h => hAA q.1 h)
  rcases hst with ⟨v, rfl, st⟩ | ⟨x, rfl, st⟩
  · cases oc with
    | inr k => obtain ⟨x, cell, h0, -⟩ := hout; cases h0
    | inl v' =>
      have hv : Outcome.returned v = .returned v' := hout
      cases hv
      obtain ⟨t2, a1, b1⟩ := hret v ad' N' F' hqc p e s m args below meth c t.heap (locs ++ L) ls hI hP' hDA hS' hl T' e1 X'
      exact ⟨t2, st.trans a1, b1⟩
  · cases oc with
    | inl v' => have hv : Outcome.threw x = .returned v' := hout; cases hv
    | inr k =>
      obtain ⟨x', cell, h0, h1, h2, h3, h4⟩ := hout
      cases h0
      obtain ⟨t2, a1, b1⟩ := j_leave hI X' hLA hroom (g := F0 m pc ls rest) rfl rfl rfl (hthr k ad' N' F' hqc) (by rw [e1]; exact hP') hDA ⟨by rw [e1]; exact hS'.1, fun q h1 h2 => by rw [e1]; exact hS'.2.1 q h1 h2⟩ (x := x) (cell := cell) (by rw [e1]; exact h1)
        (by rw [← hW₁.alike.findClass]; exact h2) h3 (Nat.le_trans hS.1 h4)
      exact ⟨t2, st.trans a1, b1⟩
/-- invokestatic -/
theorem J_callSG {idx na : Nat} {y : MethodName} {cw : Cond} {nL' : Nat} {rm : Room} {E : State → Prop} {nb' : Nat × Nat} {As rest st : List Value} {Qc : JQ}
    (hw : Cond.methodLink own idx y ∈ jALL ∧ Cond.static y ∈ jALL ∧ cw ∈ jALL ∧ Cond.initialized y.cls ∈ jALL) (hloc : ∀ (U0 : State) (mk0 : MethodId) (a0 : Array Value), U0.methodNamed? y = some mk0 → cw.before a0 U0 = true → ∃ (methY : Method) (cY : Code), U0.vm.method? mk0 = some methY ∧ methY.code = some cY ∧ cY.maxLocals = nL') (hnm : ∀ (U0 : State) (a0 : Array Value), cw.before a0 U0 = true → ∃ (mk0 : MethodId) (methY : Method), U0.methodNamed? y = some mk0 ∧ U0.vm.method? mk0 = some methY ∧ parseMethodDescriptor y.desc = some methY.sig) (hEm : ∀ u U : State, u.vm.Alike U.vm → E u → E U) (hXE : ∀ s me, X s me → E s) (hy : y.cls ≠ "java/lang/invoke/MethodHandle" ∧ y.cls ≠ "java/lang/invoke/VarHandle") (hp : (parseMethodDescriptor y.desc).map (fun d => d.parameters.length) = some na) (hna : As.length = na)
    (hst : st = As.reverse ++ rest) (hrest : (rest.map fun v => v.category).sum ≤ 8) (hfr : rm.frames + 1 ≤ R.frames ∧ 8 + (nL' + 11) + rm.locals ≤ R.locals) (hroom : kc + rm.cells ≤ R.cells ∧ ks + rm.slots ≤ R.slots)
    (hdg : decode cc pc = .ok (.invokestatic idx, 3)) (hC : JG l y cw rm nb' D cl tys ad N F As E Qc)
    (hret : ∀ (v : Option Value) (ad' : Nat → Nat) (N' : Nat) (F' : Nat → va_E), Qc (.inl v) ad' N' F' → J l R nb own cc nL ret D cl tys A X Qx ad' N' (kc + nb'.1) (ks + nb'.2) (pc + 3) lv (v.toList ++ rest) F')
    (hthr : ∀ (k : Nat) (ad' : Nat → Nat) (N' : Nat) (F' : Nat → va_E), Qc (.inr k) ad' N' F' → Qx (.inr k) ad' N' F') : J l R nb own cc nL ret D cl tys A X Qx ad N kc ks pc lv st F := by
  intro p e s m args below meth c H locs ls hI hP hD hS hl
  obtain ⟨hx, hb, hr, hml, hown, hts, hlocks, htr, hexc, hK, hA, hZ, hX, hfl⟩ := id hI
  obtain ⟨w1, w2, w4, w5⟩ := hw
  subst hst
  intro T0 hT X0
  obtain ⟨mk, methM, hnamed, hmethM, hsigM⟩ := hnm s args (hts _ w4)
  have hstatic : methM.isStatic = true := Cond.static_spec hnamed hmethM (hts _ w2)
  obtain ⟨kP, hkP, -⟩ := className_of_methodNamed hnamed
  have hinitP : kP.init = .initialized := Cond.initialized_spec (findClass_of_methodNamed hnamed) hkP (hts _ w5)
  have hlen : As.length = methM.sig.parameters.length := by
    rw [hsigM] at hp
    exact hna.trans (Option.some.inj hp).symm
  obtain ⟨vm₁, X₁, hstep₁⟩ := X0.invokestatic hx hown (hts _ w1) hnamed hmethM hstatic hkP hinitP hy (g := F0 m pc ls (As.reverse ++ rest)) rfl (argsL := As) (rest := rest) hlen rfl (by rw [hb]; exact hdg)
  obtain ⟨t, a1, b1⟩ := J_coreG hI hP hD hS hl hT X₁ hdg hrest (X₁.named hnamed) hC hfr hroom w4 hloc hEm hXE w5 hret hthr
  exact ⟨t, hstep₁ _ (fun acts => by rw [doInvoke_state]; exact a1), b1⟩
/-- invokespecial of a constructor -/
theorem J_callIG {idx na k : Nat} {y : MethodName} {cc' : ByteArray} {nL' : Nat} {rm : Room} {E : State → Prop} {nb' : Nat × Nat} {As rest st : List Value} {Qc : JQ}
    (hw : Cond.methodLink own idx y ∈ jALL ∧ Cond.instanceMethod y ∈ jALL ∧ Cond.code y cc' nL' none ∈ jALL ∧ Cond.initialized y.cls ∈ jALL) (hEm : ∀ u U : State, u.vm.Alike U.vm → E u → E U) (hXE : ∀ s me, X s me → E s) (hy1 : y.name = "<init>") (hy : y.cls ≠ "java/lang/invoke/MethodHandle" ∧ y.cls ≠ "java/lang/invoke/VarHandle") (hp : (parseMethodDescriptor y.desc).map (fun d => d.parameters.length) = some na) (hna : As.length = na)
    (hst : st = As.reverse ++ .ref (ad k) :: rest) (hrest : (rest.map fun v => v.category).sum ≤ 8) (hfr : rm.frames + 1 ≤ R.frames ∧ 8 + (nL' + 11) + rm.locals ≤ R.locals) (hroom : kc + rm.cells ≤ R.cells ∧ ks + rm.slots ≤ R.slots)
    (hdg : decode cc pc = .ok (.invokespecial idx, 3)) (hC : JG l y (Cond.code y cc' nL' none) rm nb' D cl tys ad N F (.ref (ad k) :: As) E Qc)
    (hret : ∀ (v : Option Value) (ad' : Nat → Nat) (N' : Nat) (F' : Nat → va_E), Qc (.inl v) ad' N' F' → J l R nb own cc nL ret D cl tys A X Qx ad' N' (kc + nb'.1) (ks + nb'.2) (pc + 3) lv (v.toList ++ rest) F')
    (hthr : ∀ (k : Nat) (ad' : Nat → Nat) (N' : Nat) (F' : Nat → va_E), Qc (.inr k) ad' N' F' → Qx (.inr k) ad' N' F') : J l R nb own cc nL ret D cl tys A X Qx ad N kc ks pc lv st F := by
  intro p e s m args below meth c H locs ls hI hP hD hS hl
  obtain ⟨hx, hb, hr, hml, hown, hts, hlocks, htr, hexc, hK, hA, hZ, hX, hfl⟩ := id hI
  obtain ⟨w1, w2, w4, w5⟩ := hw
  subst hst
  intro T0 hT X0
  have hpl : e.platform.magicAccessors = ({} : Platform).magicAccessors := by rw [X0.admits.platform]
  have h0 := X0.here
  have hlen' : ∀ sig, parseMethodDescriptor y.desc = some sig → As.length = sig.parameters.length := fun sig h => by
    rw [h] at hp
    exact hna.trans (Option.some.inj hp).symm
  obtain ⟨mk, methM, cM, kP, vm₁, hnamed, hmethM, hcodeM, -, hlocalsM, -, hkP, -, hW₁, hstep₁⟩ := Steps.initColdArgs (e := e) h0 hx X0.warmed hpl hown hy1 hy (hts _ w1) (hts _ w2) (hts _ w4) (f := F0 m pc ls (As.reverse ++ .ref (ad k) :: rest)) rfl hlen' rfl (by rw [hb]; exact hdg)
  have X₁ := X0.noted hW₁
  obtain ⟨t, a1, b1⟩ := J_coreG hI hP hD hS hl hT X₁ hdg hrest (X₁.named hnamed) hC hfr hroom w4 (fun U0 mk0 a0 hn0 h0 => by obtain ⟨methY, cY, q1, q2, -, q3, -⟩ := Cond.code_spec hn0 h0; exact ⟨methY, cY, q1, q2, q3⟩) hEm hXE w5 hret hthr
  exact ⟨t, hstep₁ _ (fun acts => by rw [doInvoke_state]; exact a1), b1⟩
end JCALLSG
theorem cwl_1 {y : MethodName} {cc : ByteArray} {nL : Nat} {ret : Option FieldType} {hs : List (Nat × Nat × Nat × Nat)} : ∀ (U0 : State) (mk0 : MethodId) (a0 : Array Value), U0.methodNamed? y = some mk0 → (Cond.codeWith y cc nL ret hs).before a0 U0 = true → ∃ (methY : Method) (cY : Code), U0.vm.method? mk0 = some methY ∧ methY.code = some cY ∧ cY.maxLocals = nL := by
  intro U0 mk0 a0 hn h
  obtain ⟨m', meth, c, hn', h1, h2, h3, h4, -, -, -, -⟩ := Cond.codeWith_spec h
  cases hn.symm.trans hn'
  exact ⟨meth, c, h1, h2, h4⟩
theorem cwl_2 {y : MethodName} {cc : ByteArray} {nL : Nat} {ret : Option FieldType} {hs : List (Nat × Nat × Nat × Nat)} : ∀ (U0 : State) (a0 : Array Value), (Cond.codeWith y cc nL ret hs).before a0 U0 = true → ∃ (mk0 : MethodId) (methY : Method), U0.methodNamed? y = some mk0 ∧ U0.vm.method? mk0 = some methY ∧ parseMethodDescriptor y.desc = some methY.sig := by
  intro U0 a0 h
  obtain ⟨m', meth, c, hn', h1, h2, h3, h4, -, -, -, hsig⟩ := Cond.codeWith_spec h
  exact ⟨m', meth, hn', h1, hsig⟩
theorem JG.go {l : Launch} (hfl : l.flags = flags0) {y : MethodName} {cc : ByteArray} {nL : Nat} {ret : Option FieldType} {rm : Room} {nb : Nat × Nat} {D : va_G} {cl : List vw_C} {tys : List (ClassId × FieldType)} {ad : Nat → Nat} {N : Nat} {F : Nat → va_E} {av : List Value} {E : State → Prop} {Qx : JQ} {own : String} {lv : List (Nat × Value)}
    (ho : y.cls = own) (hy : plainFor y = true) (hlen : (lg_sl av).length ≤ nL) (hlv : lv_args 0 av = lv)
    (body : ∀ A : Nat → Prop, J l rm nb own cc nL ret D cl tys A (fun s me => me.name = y.name ∧ E s) Qx ad N 0 0 0 lv [] F) : JG l y (Cond.code y cc nL ret) rm nb D cl tys ad N F av E Qx := by
  subst ho
  subst hlv
  exact JG.intro hfl hy hlen (fun sz => body _)
