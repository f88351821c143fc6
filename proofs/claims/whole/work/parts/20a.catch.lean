/-! exceptions that a method's own table catches: its rows' classes may be cold -/
/-- the search of rows at S ends at a handler, and leaves tables that are those of s, warmer -/
def hunt (e : Env) (s : State) (f : JFrame) (a : Nat) (rows : List ExceptionTableEntry) (S : State) (pc : Nat) : Prop :=
  ∃ v, s.WarmedH v ∧ ∀ (Q : Handler → Pre) (E : CtlPost) (d : Bool) (acts : List Action), wp (findHandler.go f a rows) Q E e d acts S ↔ Q (.found pc) d acts (S.setVm v)
/-- one row whose class links: it catches, or the search goes on behind it -/
theorem hunt_row {e : Env} {s S : State} {f : JFrame} {a : Nat} {x : ExceptionTableEntry} {t : List ExceptionTableEntry} {c : ClassId} {cell : Cell} (hx : covers x f.pc = true) (h0 : x.catchType ≠ 0) (hl : s.vm.ClassLinks e.platform f.method.cls x.catchType c) (hW : s.WarmedH S.vm) (hcell : S.heap[a]? = some cell) (hv : cell.vm = .none) (hk : ∃ k, s.vm.classes[cell.cls]? = some k) :
    (s.vm.assignable cell.cls c = true → hunt e s f a (x :: t) S x.handlerPc) ∧ (s.vm.assignable cell.cls c = false → ∀ pc, (∀ S' : State, S'.heap = S.heap → s.WarmedH S'.vm → hunt e s f a t S' pc) → hunt e s f a (x :: t) S pc) := by
  have hx2 := hx
  simp only [covers] at hx2
  have hlS := hW.classLinks hl
  obtain ⟨dk, q1, q2, ck, hd, -, -, -, -, hck, -, hopen⟩ := hl.here
  obtain ⟨go1, go2⟩ := (resolveClass_links e.toSetting hlS).op (op := VmOp.resolveClass f.method.cls x.catchType) rfl
  have hWn : s.WarmedH (S.vm.noted f.method.cls x.catchType (.cls c)) := hW.noted hd hopen (State.rightAt_cls hl)
  obtain ⟨k1, hk1⟩ := hk
  obtain ⟨k2, hk2, -⟩ := hWn.alike.2.2 _ _ hk1
  obtain ⟨k3, hk3, -⟩ := hWn.alike.2.2 _ _ hck
  have hst : ∀ k, cell.vm ≠ .statics k := fun k h => by rw [hv] at h; cases h
  refine ⟨fun hfit => ⟨_, hWn, fun Q E d acts => ?_⟩, fun hno pc hrest => ?_⟩
  · have hf : (S.vm.noted f.method.cls x.catchType (.cls c)).assignable cell.cls c = true := by rw [hWn.alike.assignable]; exact hfit
    simp [findHandler.go, hx2, h0, go1, go2, hcell, hst, hk2, hk3, hf, VmOp.dirties, VmOp.acts]
  · have hf : (S.vm.noted f.method.cls x.catchType (.cls c)).assignable cell.cls c = false := by rw [hWn.alike.assignable]; exact hno
    obtain ⟨v, hv1, hv2⟩ := hrest (S.setVm (S.vm.noted f.method.cls x.catchType (.cls c))) rfl hWn
    refine ⟨v, hv1, fun Q E d acts => ?_⟩
    refine Iff.trans ?_ (hv2 Q E d acts)
    simp [findHandler.go, hx2, h0, go1, go2, hcell, hst, hk2, hk3, hf, VmOp.dirties, VmOp.acts]
/-- the rows of a table, up to the one that catches a k -/
def hsOK (own : String) (pc : Nat) (hs : List (Nat × Nat × Nat × Nat)) (k hpc : Nat) : Prop := ∃ pre q post, hs = pre ++ q :: post ∧ q.2.2.1 = hpc ∧ (∀ y ∈ pre, (y.1 ≤ pc ∧ pc < y.2.1) ∧ y.2.2.2 ≠ 0 ∧ ∃ kj, Cond.classLink own y.2.2.2 (jEx kj) ∈ jALL ∧ (jEx k, jEx kj) ∈ jNoCast) ∧ (q.1 ≤ pc ∧ pc < q.2.1) ∧ q.2.2.2 ≠ 0 ∧ Cond.classLink own q.2.2.2 (jEx k) ∈ jALL ∧ (jEx k, jEx k) ∈ jCast
theorem hunt_hs {e : Env} {s : State} {args : Array Value} {A : Nat → Prop} {own : String} {f : JFrame} {a k hpc : Nat} {cell : Cell} {hs : List (Nat × Nat × Nat × Nat)} (hpl : e.platform.magicAccessors = ({} : Platform).magicAccessors) (hown : s.vm.findClass own = some f.method.cls) (hts : ∀ w ∈ jALL, w.before args s = true) (hZ : jZ A s) (hcl : s.vm.findClass (jEx k) = some cell.cls) (hv : cell.vm = .none) (h : hsOK own f.pc hs k hpc) :
    ∀ S : State, s.WarmedH S.vm → S.heap[a]? = some cell → hunt e s f a (tableOf hs) S hpc := by
  obtain ⟨pre, q, post, rfl, rfl, hpre, hc, h0, hlk, hct⟩ := h
  have hk : ∃ kk, s.vm.classes[cell.cls]? = some kk := Vm.classAt_of_findClass hcl
  have cov : ∀ y : Nat × Nat × Nat × Nat, y.1 ≤ f.pc ∧ f.pc < y.2.1 → covers (⟨y.1, y.2.1, y.2.2.1, y.2.2.2⟩ : ExceptionTableEntry) f.pc = true := fun y hy => by simp [covers, hy.1, hy.2]
  induction pre with
  | nil =>
    intro S hW hcell
    obtain ⟨c, hc1, hc2⟩ := Cond.classLink_spec hown (hts _ hlk) e.platform hpl
    obtain ⟨c0, c1, g1, g2, g3⟩ := Cond.castable_spec (hZ.2.2.2.1 _ hct)
    cases hc1.symm.trans g2
    cases hcl.symm.trans g1
    exact (hunt_row (x := ⟨q.1, q.2.1, q.2.2.1, q.2.2.2⟩) (t := tableOf post) (cov q hc) h0 hc2 hW hcell hv hk).1 g3
  | cons y ys ih =>
    intro S hW hcell
    obtain ⟨hy1, hy2, kj, hy3, hy4⟩ := hpre y List.mem_cons_self
    obtain ⟨c, hc1, hc2⟩ := Cond.classLink_spec hown (hts _ hy3) e.platform hpl
    obtain ⟨c0, c1, g1, g2, g3⟩ := hZ.2.2.2.2.1 _ hy4
    cases hc1.symm.trans g2
    cases hcl.symm.trans g1
    exact (hunt_row (x := ⟨y.1, y.2.1, y.2.2.1, y.2.2.2⟩) (t := tableOf (ys ++ q :: post)) (cov y hy1) hy2 hc2 hW hcell hv hk).2 g3 _ (fun S' e1 hW' => ih (fun z hz => hpre z (List.mem_cons_of_mem _ hz)) S' hW' (by rw [e1]; exact hcell))
/-- the exception laid over the frame goes on at its handler -/
theorem hunt_go {p : Program} {l : Launch} {e : Env} {R : Room} {s : State} {m : MethodId} {args : Array Value} {below : List Frame} {meth : Method} {c : Code} {T : State} {locs : List Loc} {kc ks : Nat} (X : Stand p l e R s m args below meth c T locs kc ks) {a : Nat} {g : JFrame} (hg : g.method = m) {pc : Nat} (h : ∀ S : State, s.WarmedH S.vm → S.heap = T.heap → hunt e s g a c.exceptionTable.toList S pc) :
    ∃ v, Stand p l e R s m args below meth c (T.setVm v) locs kc ks ∧ ∀ target, Steps p.tables e below ((T.setVm v).setTop { g with pc := pc, stack := [.ref a] }) target → Steps p.tables e below ((T.setTop g).pushFrame (.throwing a)) target := by
  subst hg
  have hAt : At T g.method c below := X.here
  obtain ⟨hgo, hwi⟩ := hAt.throwing a
  obtain ⟨g0, hg0⟩ := Option.isSome_iff_exists.mp hAt.top
  obtain ⟨r, hr⟩ := State.topJava?_eq_some.mp hg0
  have hpush : (T.setTop g).pushFrame (.throwing a) = T.setFrames (.throwing a :: .java g :: r) := by
    rw [State.pushFrame, State.frames_setTop _ hr, State.setTop_of_frames _ hr, State.setFrames_setFrames]
  obtain ⟨v, hW, hq⟩ := h (T.setFrames (.throwing a :: .java g :: r)) X.warmed rfl
  refine ⟨v, X.noted hW, fun target hrest => ?_⟩
  refine Steps.head hgo hwi ?_
  have hst : (stepThrowing e (T.setFrames (.throwing a :: .java g :: r)) a (.java g :: r)).1 = ((T.setFrames (.throwing a :: .java g :: r)).setVm v).setFrames (.java { g with pc := pc, stack := [.ref a] } :: r) := by
    simp only [stepThrowing, searchFrame, vmDo]
    generalize hres : Sem.go _ e false [] (T.setFrames (.throwing a :: .java g :: r)) = res
    obtain ⟨as, rfl, -⟩ := Sem.eq_ok_of hres (a := Handler.found pc) (s' := (T.setFrames (.throwing a :: .java g :: r)).setVm v) (acts' := []) (by simp [W.findHandler_eq (s := T.setFrames (.throwing a :: .java g :: r)) (meth := meth) (code := c) X.method' X.code, hq])
    rfl
  have hfr : (T.setFrames (.throwing a :: .java g :: r)).frames = .throwing a :: .java g :: r := State.frames_setFrames _ (State.cur_lt_of_frames hr)
  rw [hpush, stepThread_throwing hfr, hst]
  have hr' : (T.setVm v).frames = .java g0 :: r := hr
  rw [State.setTop_of_frames _ hr'] at hrest
  have e1 : ((T.setFrames (.throwing a :: .java g :: r)).setVm v).setFrames (.java { g with pc := pc, stack := [.ref a] } :: r) = (T.setVm v).setFrames (.java { g with pc := pc, stack := [.ref a] } :: r) := by
    have e2 : (T.setFrames (.throwing a :: .java g :: r)).setVm v = (T.setVm v).setFrames (.throwing a :: .java g :: r) := rfl
    rw [e2, State.setFrames_setFrames]
  rw [e1]
  exact hrest

def jIW (l : Launch) (own : String) (cc : ByteArray) (nL : Nat) (ret : Option FieldType) (hs : List (Nat × Nat × Nat × Nat)) (D : va_G) (cl : List vw_C) (tys : List (ClassId × FieldType)) (A : Nat → Prop) (X : State → Method → Prop) (p : Program) (e : Env) (s : State) (m : MethodId) (args : Array Value) (meth : Method) (c : Code) : Prop :=
  p.tables.exec = Jvm.exec ∧ c.code = cc ∧ meth.sig.returnType = ret ∧ c.maxLocals = nL ∧ s.vm.findClass own = some m.cls ∧ (∀ w ∈ jALL, w.before args s = true) ∧ meth.locks = false ∧ e.platform.stackTraces = false ∧ c.exceptionTable.toList = tableOf hs ∧ va_K D cl tys s ∧ (∀ q : Nat, s.heap.size ≤ q → A q) ∧ jZ A s ∧ X s meth ∧ l.flags = flags0 ∧ jNS A s
def JW (l : Launch) (R : Room) (nb : Nat × Nat) (own : String) (cc : ByteArray) (nL : Nat) (ret : Option FieldType) (hs : List (Nat × Nat × Nat × Nat)) (D : va_G) (cl : List vw_C) (tys : List (ClassId × FieldType)) (A : Nat → Prop) (X : State → Method → Prop) (Qx : JQ) (ad : Nat → Nat) (N kc ks pc : Nat) (lv : List (Nat × Value)) (st : List Value) (F : Nat → va_E) : Prop :=
  ∀ (p : Program) (e : Env) (s : State) (m : MethodId) (args : Array Value) (below : List Frame) (meth : Method) (c : Code) (H : Heap) (locs : List Loc) (ls : Array Slot),
    jIW l own cc nL ret hs D cl tys A X p e s m args meth c → va_P D cl (jwl ad N F) H → va_D A (jwl ad N F) → va_S A s.heap H locs → lv_has ls nL lv →
    W p l e R s m args below meth c H locs kc ks (jMQ D cl A nb R.cells R.slots Qx below s) (F0 m pc ls st)
section JWROWS
variable {l : Launch} {R : Room} {nb : Nat × Nat} {own : String} {cc : ByteArray} {nL : Nat} {ret : Option FieldType} {hs : List (Nat × Nat × Nat × Nat)} {D : va_G} {cl : List vw_C} {tys : List (ClassId × FieldType)} {A : Nat → Prop} {X : State → Method → Prop} {Qx : JQ} {ad : Nat → Nat} {N kc ks pc : Nat} {lv lv' : List (Nat × Value)} {F : Nat → va_E} {st : List Value}
theorem JW_topi {x : Int32} {r : Int} (h : x = iI r) (k : JW l R nb own cc nL ret hs D cl tys A X Qx ad N kc ks pc lv (.int (iI r) :: st) F) : JW l R nb own cc nL ret hs D cl tys A X Qx ad N kc ks pc lv (.int x :: st) F := h ▸ k
theorem JW_iconst {z : Int} (d : decode cc pc = .ok (.iconst z, 1)) (k : JW l R nb own cc nL ret hs D cl tys A X Qx ad N kc ks (pc + 1) lv (.int (iI z) :: st) F) : JW l R nb own cc nL ret hs D cl tys A X Qx ad N kc ks pc lv st F := by
  intro p e s m args below meth c H locs ls hI hP hD hS hl
  have hx := hI.1
  have hb := hI.2.1
  refine lv_iconst (v := iI z) hx hb d rfl ?_
  exact k p e s m args below meth c H locs ls hI hP hD hS hl
theorem JW_iload_n {z : Fin 4} {i : Nat} {x : Int32} (j : Nat) (d : decode cc pc = .ok (.iload_n z, 1)) (hi : (z : Nat) = i) (hj : lv[j]? = some (i, .int x)) (k : JW l R nb own cc nL ret hs D cl tys A X Qx ad N kc ks (pc + 1) lv (.int x :: st) F) : JW l R nb own cc nL ret hs D cl tys A X Qx ad N kc ks pc lv st F := by
  intro p e s m args below meth c H locs ls hI hP hD hS hl
  have hx := hI.1
  have hb := hI.2.1
  refine lv_iload_n hx hb d hi (lv_at hl j hj) ?_
  exact k p e s m args below meth c H locs ls hI hP hD hS hl
theorem JW_iload {i : Nat} {x : Int32} (j : Nat) (d : decode cc pc = .ok (.iload i, 2)) (hj : lv[j]? = some (i, .int x)) (k : JW l R nb own cc nL ret hs D cl tys A X Qx ad N kc ks (pc + 2) lv (.int x :: st) F) : JW l R nb own cc nL ret hs D cl tys A X Qx ad N kc ks pc lv st F := by
  intro p e s m args below meth c H locs ls hI hP hD hS hl
  have hx := hI.1
  have hb := hI.2.1
  refine lv_iload hx hb d (lv_at hl j hj) ?_
  exact k p e s m args below meth c H locs ls hI hP hD hS hl
theorem JW_aload_n {z : Fin 4} {i : Nat} {x : Nat} (j : Nat) (d : decode cc pc = .ok (.aload_n z, 1)) (hi : (z : Nat) = i) (hj : lv[j]? = some (i, .ref x)) (k : JW l R nb own cc nL ret hs D cl tys A X Qx ad N kc ks (pc + 1) lv (.ref x :: st) F) : JW l R nb own cc nL ret hs D cl tys A X Qx ad N kc ks pc lv st F := by
  intro p e s m args below meth c H locs ls hI hP hD hS hl
  have hx := hI.1
  have hb := hI.2.1
  refine lv_aload_n hx hb d hi (lv_at hl j hj) ?_
  exact k p e s m args below meth c H locs ls hI hP hD hS hl
theorem JW_aload {i : Nat} {x : Nat} (j : Nat) (d : decode cc pc = .ok (.aload i, 2)) (hj : lv[j]? = some (i, .ref x)) (k : JW l R nb own cc nL ret hs D cl tys A X Qx ad N kc ks (pc + 2) lv (.ref x :: st) F) : JW l R nb own cc nL ret hs D cl tys A X Qx ad N kc ks pc lv st F := by
  intro p e s m args below meth c H locs ls hI hP hD hS hl
  have hx := hI.1
  have hb := hI.2.1
  refine lv_aload hx hb d (lv_at hl j hj) ?_
  exact k p e s m args below meth c H locs ls hI hP hD hS hl
theorem JW_astore_n {z : Fin 4} {i : Nat} {x : Nat} (d : decode cc pc = .ok (.astore_n z, 1)) (hi : (z : Nat) = i) (hn : i < nL) (hl0 : (i, Value.ref x) :: lv.filter (fun q => !(q.1 == i) && !(q.1 + 1 == i && q.2.category == 2)) = lv') (k : JW l R nb own cc nL ret hs D cl tys A X Qx ad N kc ks (pc + 1) lv' st F) : JW l R nb own cc nL ret hs D cl tys A X Qx ad N kc ks pc lv (.ref x :: st) F := by
  intro p e s m args below meth c H locs ls hI hP hD hS hl
  exact lv_astore_n hI.1 hI.2.1 d hi hl hn hl0 (fun ls' hl' => k p e s m args below meth c H locs ls' hI hP hD hS hl')
theorem JW_astore {i : Nat} {x : Nat} (d : decode cc pc = .ok (.astore i, 2)) (hn : i < nL) (hl0 : (i, Value.ref x) :: lv.filter (fun q => !(q.1 == i) && !(q.1 + 1 == i && q.2.category == 2)) = lv') (k : JW l R nb own cc nL ret hs D cl tys A X Qx ad N kc ks (pc + 2) lv' st F) : JW l R nb own cc nL ret hs D cl tys A X Qx ad N kc ks pc lv (.ref x :: st) F := by
  intro p e s m args below meth c H locs ls hI hP hD hS hl
  exact lv_astore hI.1 hI.2.1 d hl hn hl0 (fun ls' hl' => k p e s m args below meth c H locs ls' hI hP hD hS hl')
theorem JW_i2l {a : Int} (d : decode cc pc = .ok (.i2l, 1)) (ha : inI a) (k : JW l R nb own cc nL ret hs D cl tys A X Qx ad N kc ks (pc + 1) lv (.long (lI a) :: st) F) : JW l R nb own cc nL ret hs D cl tys A X Qx ad N kc ks pc lv (.int (iI a) :: st) F := by
  intro p e s m args below meth c H locs ls hI hP hD hS hl
  have hx := hI.1
  have hb := hI.2.1
  refine lv_i2l (v := lI a) hx hb d (iI_i2l ha) ?_
  exact k p e s m args below meth c H locs ls hI hP hD hS hl
theorem JW_goto {off : Int} {tgt : Nat} (d : decode cc pc = .ok (.goto off, 3)) (ht : (pc : Int) + off = (tgt : Int)) (k : JW l R nb own cc nL ret hs D cl tys A X Qx ad N kc ks tgt lv st F) : JW l R nb own cc nL ret hs D cl tys A X Qx ad N kc ks pc lv st F := by
  intro p e s m args below meth c H locs ls hI hP hD hS hl
  exact lv_goto hI.1 hI.2.1 d ht (k p e s m args below meth c H locs ls hI hP hD hS hl)
theorem JW_lastore {k n : Nat} {i : Int} {x : Int64} {cA : ClassId} {h : Nat → Int64} (t0 : Nat) (ht : tys[t0]? = some (cA, .long)) (hk : k < N) (hF : F k = .inl (cA, n, .inr (.inl h))) (hi : 0 ≤ i ∧ i < n ∧ i ≤ 2147483647) (d : decode cc pc = .ok (.lastore, 1)) (kk : JW l R nb own cc nL ret hs D cl tys A X Qx ad N kc ks (pc + 1) lv st (va_up F k (.inl (cA, n, .inr (.inl (va_up h i.toNat x)))))) : JW l R nb own cc nL ret hs D cl tys A X Qx ad N kc ks pc lv (.long x :: .int (iI i) :: .ref (ad k) :: st) F := by
  intro p e s m args below meth c H locs ls hI hP hD hS hl
  obtain ⟨hx, hb, -, -, -, -, -, -, -, hK, -⟩ := id hI
  have hin : vp_in (iI i) n := (iI_in ⟨by omega, hi.2.2⟩).mpr ⟨hi.1, hi.2.1⟩
  refine va_last hx hb hK hP hD hS k t0 (by rw [jwl_get hk, hF]) ht hin d (fun H1 locs1 hP1 hD1 hS1 => ?_)
  rw [iI_clamp ⟨by omega, hi.2.2⟩ hi.1] at hP1 hD1
  rw [upL_eq] at hP1 hD1
  rw [jwl_set hk] at hP1 hD1
  exact kk p e s m args below meth c H1 locs1 ls hI hP1 hD1 hS1 hl
theorem JW_iret {x : Int32} {ty : FieldType} (hr0 : ret = some ty) (hn0 : narrow ty (.int x) = .int x) (d : decode cc pc = .ok (.ireturn, 1)) (hk : kc ≤ nb.1 ∧ ks ≤ nb.2) (hq : Qx (.inl (some (.int x))) ad N F) : JW l R nb own cc nL ret hs D cl tys A X Qx ad N kc ks pc lv [.int x] F := by
  intro p e s m args below meth c H locs ls hI hP hD hS hl
  obtain ⟨hx, hb, hr, -, -, -, hlocks, -⟩ := id hI
  rw [hr0] at hr
  intro T hT X0
  obtain ⟨fs, hret, hrun, hended, hW, hframe⟩ := X0.leave (v := (some (.int x))) (fun h => by first | rfl | (rw [hr] at h; cases h)) hlocks
  have hmeth' : T.vm.method? m = some meth := X0.method'
  subst hT
  refine ⟨T.setFrames fs, ?_, .returned (some (.int x)), hrun, hended, ⟨.inl (some (.int x)), ad, N, F, hq, hP, hD, rfl⟩, ⟨hS.1, hS.2.1⟩, hW, locs, hframe.mono hk.1 hk.2, hS.2.2⟩
  jvm_step X0.here [X0.here.top, hx, hb, d, hmeth', hr, hn0]
  (try refine ⟨rfl, ?_⟩); (try refine ⟨rfl, ?_⟩)
  first | (intro acts; rw [hret _ acts rfl rfl rfl]) | rw [hret _ _ rfl rfl rfl]
  exact Steps.refl _
/-- invokevirtual whose callee may throw: what it throws is caught here -/
theorem JW_callV {C : String} {T : u_T} {n ci idx k na : Nat} {fs : List Value} {y : MethodName} {cc' : ByteArray} {nL' : Nat} {ret' : Option FieldType} {rm : Room} {As rest st : List Value} {Qc : JQ}
    (hw : Cond.methodLink own idx y ∈ jALL ∧ Cond.instanceMethod y ∈ jALL ∧ Cond.selects C y y ∈ jALL ∧ Cond.code y cc' nL' ret' ∈ jALL ∧ Cond.initialized y.cls ∈ jALL) (hy : y.cls ≠ "java/lang/invoke/MethodHandle" ∧ y.cls ≠ "java/lang/invoke/VarHandle") (hp : (parseMethodDescriptor y.desc).map (fun d => d.parameters.length) = some na) (hna : As.length = na)
    (hc : cl[ci]? = some (C, T, n)) (hk : k < N) (hF : F k = .inr (ci, fs)) (hst : st = As.reverse ++ .ref (ad k) :: rest) (hrest : (rest.map fun v => v.category).sum ≤ 8) (hfr : rm.frames + 1 ≤ R.frames ∧ 8 + (nL' + 11) + rm.locals ≤ R.locals) (hroom : kc + rm.cells ≤ R.cells ∧ ks + rm.slots ≤ R.slots)
    (hdg : decode cc pc = .ok (.invokevirtual idx, 3)) (hC : JC l y cc' nL' ret' rm (0, 0) D cl tys ad N F (.ref (ad k) :: As) Qc)
    (hret : ∀ (v : Option Value) (ad' : Nat → Nat) (N' : Nat) (F' : Nat → va_E), Qc (.inl v) ad' N' F' → JW l R nb own cc nL ret hs D cl tys A X Qx ad' N' kc ks (pc + 3) lv (v.toList ++ rest) F')
    (hthr : ∀ (k : Nat) (ad' : Nat → Nat) (N' : Nat) (F' : Nat → va_E), Qc (.inr k) ad' N' F' → ∃ hpc, hsOK own pc hs k hpc ∧ ∀ x : Nat, JW l R nb own cc nL ret hs D cl tys A X Qx ad' N' (kc + rm.cells) (ks + rm.slots) hpc lv [.ref x] F') : JW l R nb own cc nL ret hs D cl tys A X Qx ad N kc ks pc lv st F := by
  intro p e s m args below meth c H locs ls hI hP hD hS hl
  obtain ⟨hx, hb, hr, hml, hown, hts, hlocks, htr, hexc, hK, hA, hZ, hX, hfl⟩ := id hI
  obtain ⟨w1, w2, w3, w4, w5⟩ := hw
  subst hst
  intro T0 hT X0
  obtain ⟨mk, methM, hnamed, hmethM, hstM, habM⟩ := Cond.instanceMethod_spec (hts _ w2)
  obtain ⟨methM', cM, hmethM', -, -, -, -, -, -, hsigM⟩ := Cond.code_spec hnamed (hts _ w4)
  cases hmethM.symm.trans hmethM'
  obtain ⟨c2, r2, m2, q1, q2, q3, q4, kP, hkP, hkPi⟩ := Cond.selects_spec (hts _ w3)
  obtain ⟨cell, hcell, hobj, hcls⟩ := va_recv hK hP (q0 := k) hc (by rw [jwl_get hk, hF])
  cases hcls.symm.trans q1
  cases (State.methodFound?_of_named hnamed hy).symm.trans q2
  cases hnamed.symm.trans q3
  have hselP : selectMethod e.platform s.vm cell.cls mk = .method mk := by rw [Launch.admits_selectMethod X0.admits]; exact q4
  have hlen : As.length = methM.sig.parameters.length := by
    rw [hsigM] at hp
    exact hna.trans (Option.some.inj hp).symm
  obtain ⟨vm₁, X₁, hstep₁⟩ := X0.invokevirtual hx hown (hts _ w1) hnamed hmethM hstM hkP hkPi hy (a := ad k) (cell := cell) (by rw [hT]; exact hcell)
    (fun z h => by rw [h] at hobj; cases hobj) hselP hmethM habM hkP hkPi (g := F0 m pc ls (As.reverse ++ .ref (ad k) :: rest)) rfl (argsL := As) (rest := rest) hlen rfl (by rw [hb]; exact hdg)
  have hpl : e.platform.magicAccessors = ({} : Platform).magicAccessors := by rw [X0.admits.platform]
  subst hT
  have hW₁ : s.WarmedH vm₁ := X₁.warmed
  have hAA : ∀ q, jA ad N T0.heap.size q → A q := by
    rintro q (⟨k, h1, rfl⟩ | h)
    · exact hD.2 k _ (jwl_get h1)
    · exact hA q (Nat.le_trans hS.1 h)
  obtain ⟨o, t, T', L, hq, e1, e2, X', hL, hst⟩ := jx_call X₁ (g := F0 m pc ls rest) rfl (by show ls.size = _; rw [hml]; exact hl.1) (by rw [hb]; exact hdg) (by show 2 * 0 + (rest.map fun v => v.category).sum ≤ 8; omega) (X₁.named hnamed) (hC T0.heap.size) hfr hroom hts w4 w5
    (a := (.ref (ad k) :: As).toArray) (fun g' mk' => ⟨rfl, rfl, hP, va_K.moved hW₁.alike hK, hD.weaken (fun _ _ _ _ => trivial), hZ.move hW₁ (fun a h1 h2 => hS.2.1 a h1 h2) hAA⟩)
    (free := jA ad N T0.heap.size) (fun st o t h => ⟨h.2.2.1, h.2.2.2⟩)
  obtain ⟨⟨oc, ad', N', F', hqc, hP', hD', hout⟩, hFr, -, -⟩ := hq
  have hz1 : T0.heap.size ≤ t.heap.size := hFr.1
  have hk1 : ∀ q : Nat, q < T0.heap.size → ¬ jA ad N T0.heap.size q → t.heap[q]? = T0.heap[q]? := hFr.2
  have hLA : ∀ q ∈ locs ++ L, A q.base := fun q hq => by
    rcases List.mem_append.mp hq with h | h
    · exact hS.2.2 q h
    · exact hAA _ (hL q h)
  have hS' : va_S A s.heap t.heap (locs ++ L) := ⟨Nat.le_trans hS.1 hz1, fun q h1 h2 => by rw [hk1 q (Nat.lt_of_lt_of_le h1 hS.1) (fun z => h2 (hAA q z))]; exact hS.2.1 q h1 h2, hLA⟩
  have hDA : va_D A (jwl ad' N' F') := hD'.weaken (fun _ q _ h => hAA q.1 h)
  have fin : ∀ t2, Steps p.tables e below (doInvoke e ((T0.setVm vm₁).setTop (F0 m pc ls rest)) [] mk (.ref (ad k) :: As).toArray).1 t2 ∧ jMQ D cl A nb R.cells R.slots Qx below s t2 → ∃ t, Steps p.tables e below (T0.setTop (F0 m pc ls (As.reverse ++ .ref (ad k) :: rest))) t ∧ jMQ D cl A nb R.cells R.slots Qx below s t := fun t2 h => ⟨t2, hstep₁ _ (fun acts => by rw [doInvoke_state]; exact h.1), h.2⟩
  rcases hst with ⟨v, rfl, st⟩ | ⟨x, rfl, st⟩
  · cases oc with
    | inr k => obtain ⟨x, cell, h0, -⟩ := hout; cases h0
    | inl v' =>
      have hv : Outcome.returned v = .returned v' := hout
      cases hv
      obtain ⟨t2, a1, b1⟩ := hret v ad' N' F' hqc p e s m args below meth c t.heap (locs ++ L) ls hI hP' hDA hS' hl T' e1 X'
      exact fin t2 ⟨st.trans a1, b1⟩
  · cases oc with
    | inl v' => have hv : Outcome.threw x = .returned v' := hout; cases hv
    | inr k =>
      obtain ⟨x', cell, h0, h1, h2, h3, h4⟩ := hout
      cases h0
      obtain ⟨hpc, hok, hgo⟩ := hthr k ad' N' F' hqc
      have h2s : s.vm.findClass (jEx k) = some cell.cls := by rw [← hW₁.alike.findClass]; exact h2
      obtain ⟨v9, X9, hst9⟩ := hunt_go X' (a := x) (g := F0 m pc ls rest) rfl (pc := hpc) (fun S hWS hSh => by
        rw [hexc]
        exact hunt_hs (f := F0 m pc ls rest) hpl hown hts hZ h2s h3 hok S hWS (by rw [hSh, e1]; exact h1))
      obtain ⟨t2, a1, b1⟩ := hgo x p e s m args below meth c t.heap (locs ++ L) ls hI hP' hDA hS' hl (T'.setVm v9) e1 X9
      exact fin t2 ⟨st.trans (hst9 _ a1), b1⟩
end JWROWS
/-- a wrapper's contract from its walk -/
theorem JG.introW {l : Launch} (hfl : l.flags = flags0) {y : MethodName} {cc : ByteArray} {nL : Nat} {ret : Option FieldType} {hs : List (Nat × Nat × Nat × Nat)} {rm : Room} {nb : Nat × Nat} {D : va_G} {cl : List vw_C} {tys : List (ClassId × FieldType)} {ad : Nat → Nat} {N : Nat} {F : Nat → va_E} {av : List Value} {Qx : JQ} {own : String} {lv : List (Nat × Value)}
    (ho : y.cls = own) (hy : plainFor y = true) (hlen : (lg_sl av).length ≤ nL) (hlv : lv_args 0 av = lv)
    (body : ∀ A : Nat → Prop, JW l rm nb own cc nL ret hs D cl tys A (fun _ _ => True) Qx ad N 0 0 0 lv [] F) : JG l y (Cond.codeWith y cc nL ret hs) rm nb D cl tys ad N F av (fun _ => True) Qx := by
  subst ho
  subst hlv
  intro sz
  refine MetFree.of_bodySF (code := cc) (maxLocals := nL) (ret := ret) hy ?_ ?_
  · intro args s m h hn
    obtain ⟨m', meth, c, hn', h1, h2, h3, h4, h5, h6, h7, -⟩ := Cond.codeWith_spec (atoms_spec (ws := Cond.codeWith y cc nL ret hs :: jALL) h _ List.mem_cons_self)
    cases hn.symm.trans hn'
    exact ⟨meth, c, h1, h2, h3, h4, h6, h7⟩
  · intro p e s m args below meth c s₁ B hml hP _
    obtain ⟨⟨rfl, hsz, hP, hK, hD, hZ⟩, -⟩ := hP
    have hts0 : ∀ w ∈ Cond.codeWith y cc nL ret hs :: jALL, w.before av.toArray s = true := atoms_spec (ws := Cond.codeWith y cc nL ret hs :: jALL) B.pre
    have hts : ∀ w ∈ jALL, w.before av.toArray s = true := fun w hw => hts0 w (List.mem_cons_of_mem _ hw)
    have hown : s.vm.findClass y.cls = some m.cls := findClass_of_methodNamed B.named
    have htab : c.exceptionTable.toList = tableOf hs := by
      obtain ⟨m', meth', c', hn', h1, h2, h3, h4, h5, -⟩ := Cond.codeWith_spec (hts0 _ List.mem_cons_self)
      cases B.named.symm.trans hn'
      cases B.method.symm.trans h1
      have h6 : s₁.code? m = some c := B.here.code
      have h7 : s.code? m = some c := by rw [B.state] at h6; exact h6
      have h8 : meth.code = some c := by
        rw [State.code?_eq, B.method] at h7
        exact h7
      cases h8.symm.trans h2
      rw [← h5, table_eq]
    have hl := lv_entry av (n := nL) hlen
    subst hsz
    have hh0 : s₁.heap = s.heap := by rw [B.state]; rfl
    have hD' : va_D (jA ad N s.heap.size) (jwl ad N F) := ⟨hD.1, fun k q hk => by obtain ⟨h1, rfl⟩ := jwl_some hk; exact Or.inl ⟨k, h1, rfl⟩⟩
    have K := body (jA ad N s.heap.size) p e s m av.toArray below meth c s.heap [] _ ⟨B.exec, B.bytes, B.returns, hml, hown, hts, B.notSynchronized, Launch.traces_off hfl B.admits, htab, hK, fun q h => Or.inr h, hZ, trivial, hfl, jNS.of hP⟩ hP hD' va_S.rf hl
    rw [← lg_entry_eq] at K
    obtain ⟨t, a1, o, b1, b2, b3⟩ := K s₁ hh0 (Stand.of_body B)
    exact ⟨t, o, a1, b1, b2, b3⟩
