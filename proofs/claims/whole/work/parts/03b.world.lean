/-! the world as a function from places to contents; a method's walk as a sentence on places -/
def jws (y : MethodName) (cc : ByteArray) (nL : Nat) (ret : Option FieldType) : List Cond := Cond.code y cc nL ret :: jALL
theorem jALL_good {w : Cond} (h : w ∈ jALL) : (w.onTables && w.keeps) = true ∨ ∃ ty, w = .arrayClass ty := good_of_word (List.mem_filter.mp h).2
def jwl (ad : Nat → Nat) (N : Nat) (F : Nat → va_E) : va_W := (List.range N).map fun k => (ad k, F k)
theorem jwl_get {ad : Nat → Nat} {N : Nat} {F : Nat → va_E} {k : Nat} (h : k < N) : (jwl ad N F)[k]? = some (ad k, F k) := by
  simp [jwl, List.getElem?_map, List.getElem?_range h]
theorem jwl_some {ad : Nat → Nat} {N : Nat} {F : Nat → va_E} {k : Nat} {q : Nat × va_E} (h : (jwl ad N F)[k]? = some q) : k < N ∧ q = (ad k, F k) := by
  have hk : k < N := by
    have := (List.getElem?_eq_some_iff.mp h).1
    simpa [jwl] using this
  rw [jwl_get hk] at h
  exact ⟨hk, (Option.some.inj h).symm⟩
theorem jwl_set {ad : Nat → Nat} {N : Nat} {F : Nat → va_E} {k : Nat} {e : va_E} (h : k < N) : (jwl ad N F).set k (ad k, e) = jwl ad N (va_up F k e) := by
  apply List.ext_getElem?
  intro j
  by_cases hj : j < N
  · rw [jwl_get hj]
    by_cases hjk : j = k
    · subst hjk
      rw [List.getElem?_set_self (by simpa [jwl] using hj), va_up_self]
    · rw [List.getElem?_set_ne (Ne.symm hjk), jwl_get hj, va_up_ne _ _ hjk]
  · rw [List.getElem?_eq_none (by simpa [jwl] using Nat.le_of_not_lt hj), List.getElem?_eq_none (by simpa [jwl] using Nat.le_of_not_lt hj)]
theorem jwl_push {ad : Nat → Nat} {N : Nat} {F : Nat → va_E} {q : Nat} {e : va_E} : jwl ad N F ++ [(q, e)] = jwl (va_up ad N q) (N + 1) (va_up F N e) := by
  simp only [jwl, List.range_succ, List.map_append, List.map_cons, List.map_nil, va_up_self]
  congr 1
  apply List.map_congr_left
  intro k hk
  have : k ≠ N := Nat.ne_of_lt (List.mem_range.mp hk)
  rw [va_up_ne _ _ this, va_up_ne _ _ this]
/-- the cells that a method may change -/
def jA (ad : Nat → Nat) (N sz : Nat) : Nat → Prop := fun q => (∃ k : Nat, k < N ∧ q = ad k) ∨ sz ≤ q
/-! what the JVM's own Throwable has in its statics, and the messages' constants -/
def jZ1 (n d : String) (A : Nat → Prop) (U : State) : Prop := ∃ (c : ClassId) (k : Class) (i : Nat) (f : Field) (a : Nat) (cell : Cell) (v : Value),
  U.vm.findClass Bundle.tN = some c ∧ U.fieldFound? Bundle.tN n d = some (c, k, i, f) ∧ f.isStatic = true ∧ k.statics = some a ∧ U.heap[a]? = some cell ∧ cell.vm.isStatics = true ∧ cell.cls = c ∧ f.slot < cell.slots.size ∧ k.staticTypes[f.slot]? = some f.type ∧ cell.slots[f.slot]? = some v ∧ v.isRef = true ∧ ¬ A a
theorem jZ1.move {n d : String} {A A' : Nat → Prop} {u U : State} (hvm : u.vm.Alike U.vm) (hh : ∀ a : Nat, a < u.heap.size → ¬ A a → U.heap[a]? = u.heap[a]?) (hA : ∀ q, A' q → A q) (h : jZ1 n d A u) : jZ1 n d A' U := by
  obtain ⟨c, k, i, f, a, cell, v, h0, h1, h2, h3, h4, h5, h6, h7, h8, h9, h10, h11⟩ := h
  obtain ⟨k', hi', he⟩ := State.fieldFound?_setVm hvm h1
  refine ⟨c, k', i, f, a, cell, v, by rw [hvm.findClass]; exact h0, hi', h2, by rw [he]; exact h3, ?_, h5, h6, h7, by rw [he]; exact h8, h9, h10, fun z => h11 (hA a z)⟩
  rw [hh a (Array.getElem?_eq_some_iff.mp h4).1 h11]
  exact h4
theorem jZ1.isRef {n d : String} {A : Nat → Prop} {U : State} {args : Array Value} (h : jZ1 n d A U) : (Cond.isRef (.static Bundle.tN n d)).before args U = true := by
  obtain ⟨c, k, i, f, a, cell, v, h0, h1, h2, h3, h4, h5, h6, h7, h8, h9, h10, h11⟩ := h
  have e : (Term.static Bundle.tN n d).eval args U none [] U = some v := by
    simp [Term.eval, State.fieldNamed?, h1, h2, h3, h4, h5, h9]
  simp only [Cond.before, Cond.holds, Cond.value, e]
  cases v <;> simp_all [Value.isRef]
theorem jZ1.lays {n d : String} {A : Nat → Prop} {U : State} {args : Array Value} (h : jZ1 n d A U) : (Cond.laysStatic Bundle.tN n d).before args U = true := by
  obtain ⟨c, k, i, f, a, cell, v, h0, h1, h2, h3, h4, h5, h6, h7, h8, h9, h10, h11⟩ := h
  simp only [Cond.before, Cond.holds, Cond.value, h0, h1, h3, Option.bind_some, h4, Option.map_some, h2, h5, h6, h7, h8]
  simp
theorem jZ1.of {n d : String} {args : Array Value} {s : State} {A : Nat → Prop} (hl : (Cond.laysStatic Bundle.tN n d).before args s = true) (hr : (Cond.isRef (.static Bundle.tN n d)).before args s = true) (hA : ∀ a : Nat, a < s.heap.size → ¬ A a) : jZ1 n d A s := by
  obtain ⟨c, k, i, f, a, cell, hc, hi, hst, ha, hcell, hs, hcls, hlt, hty⟩ := Cond.laysStatic_spec hl
  have e : (Term.static Bundle.tN n d).eval args s none [] s = cell.slots[f.slot]? := by
    simp [Term.eval, State.fieldNamed?, hi, hst, ha, hcell, hs]
  have hv : cell.slots[f.slot]? = some (cell.slots[f.slot]'hlt) := Array.getElem?_eq_getElem hlt
  refine ⟨c, k, i, f, a, cell, cell.slots[f.slot]'hlt, hc, hi, hst, ha, hcell, hs, hcls, hlt, hty, hv, ?_, hA a (Array.getElem?_eq_some_iff.mp hcell).1⟩
  simp only [Cond.before, Cond.holds, Cond.value, e, hv] at hr
  generalize cell.slots[f.slot]'hlt = v at hr
  cases v <;> simp_all [Value.isRef]
/-- the String constants of the class, by owner, place and text -/
def jStr : List (String × Nat × String) := [("NumberTower", 81, "no register, or the line is no number"), ("NumberTower", 98, "a lower part 0"), ("NumberTower$Desk", 207, "BEYOND"), ("NumberTower", 132, "no such operation on these registers"), ("NumberTower", 137, "divided by 0"), ("NumberTower", 164, "no such power of these registers"), ("NumberTower", 173, "no number times x is 1 modulo m"), ("NumberTower", 175, "no such turn of this register"), ("NumberTower", 181, "no such rounding of this register"), ("NumberTower", 189, "no such sum"), ("NumberTower", 209, "no number to show"), ("NumberTower", 222, "no number, or no SPEC for it")]
/-- of the tables' sentences that are no words: what can be cast -/
def jCast : List (String × String) := [("java/lang/IllegalArgumentException", "java/lang/IllegalArgumentException"), ("java/lang/ArithmeticException", "java/lang/ArithmeticException"), ("java/lang/IllegalStateException", "java/lang/IllegalStateException")]
def jDecl : List MethodName := [⟨"java/lang/RuntimeException", "<init>", "(Ljava/lang/String;)V"⟩, ⟨"java/lang/Exception", "<init>", "(Ljava/lang/String;)V"⟩, ⟨"java/lang/Throwable", "<init>", "(Ljava/lang/String;)V"⟩]
def jNoCast : List (String × String) := [("java/lang/ArithmeticException", "java/lang/IllegalArgumentException"), ("java/lang/IllegalStateException", "java/lang/IllegalArgumentException"), ("java/lang/IllegalStateException", "java/lang/ArithmeticException")]
def jNo (a b : String) (U : State) : Prop := ∃ (c t : ClassId), U.vm.findClass a = some c ∧ U.vm.findClass b = some t ∧ U.vm.assignable c t = false
/-- what a walk knows of its start beside its words: the Throwable's statics, the messages, the casts -/
def jZ (A : Nat → Prop) (U : State) : Prop := jZ1 "UNASSIGNED_STACK" Bundle.steD A U ∧ jZ1 "SUPPRESSED_SENTINEL" Bundle.listD A U ∧ (∀ q ∈ jStr, ∃ a, vk_R q.1 q.2.1 q.2.2 a U) ∧ (∀ q ∈ jCast, (Cond.castable q.1 q.2).before #[] U = true) ∧ (∀ q ∈ jNoCast, jNo q.1 q.2 U) ∧ (∀ q ∈ jDecl, (Cond.declares q).before #[] U = true)
theorem jCast_move {a b : String} {args args' : Array Value} {u U : State} (hvm : u.vm.Alike U.vm) (h : (Cond.castable a b).before args u = true) : (Cond.castable a b).before args' U = true := by
  have h1 := Cond.faceAtom_setVm hvm (.castable a b) rfl h
  exact h1
theorem jDecl_move {y : MethodName} {args args' : Array Value} {u U : State} (hvm : u.vm.Alike U.vm) (h : (Cond.declares y).before args u = true) : (Cond.declares y).before args' U = true := by
  have h1 := Cond.faceAtom_setVm hvm (.declares y) rfl h
  exact h1
theorem jNo.move {a b : String} {u U : State} (hvm : u.vm.Alike U.vm) (h : jNo a b u) : jNo a b U := by
  obtain ⟨c, t, h1, h2, h3⟩ := h
  exact ⟨c, t, by rw [hvm.findClass]; exact h1, by rw [hvm.findClass]; exact h2, by rw [hvm.assignable]; exact h3⟩
theorem jNo.of {a b : String} {args : Array Value} {U : State} (h : (Cond.not (Cond.castable a b)).before args U = true) : jNo a b U := by
  simp only [Cond.before, Cond.holds, Cond.value] at h
  cases hc : U.vm.findClass a with
  | none => simp [hc] at h
  | some c =>
    cases ht : U.vm.findClass b with
    | none => simp [hc, ht] at h
    | some t => exact ⟨c, t, hc, ht, by simpa [hc, ht] using h⟩
theorem jZ.move {A A' : Nat → Prop} {u U : State} (hW : u.WarmedH U.vm) (hh : ∀ a : Nat, a < u.heap.size → ¬ A a → U.heap[a]? = u.heap[a]?) (hA : ∀ q, A' q → A q) (h : jZ A u) : jZ A' U := by
  obtain ⟨h1, h2, h3, h4, h5, h6⟩ := h
  exact ⟨h1.move hW.alike hh hA, h2.move hW.alike hh hA, fun q hq => by obtain ⟨a, ha⟩ := h3 q hq; exact ⟨a, ha.warm hW⟩, fun q hq => jCast_move hW.alike (h4 q hq), fun q hq => (h5 q hq).move hW.alike, fun q hq => jDecl_move hW.alike (h6 q hq)⟩
/-! outcomes -/
def jEx (k : Nat) : String := if k = 0 then "java/lang/IllegalArgumentException" else if k = 1 then "java/lang/ArithmeticException" else "java/lang/IllegalStateException"
abbrev JO : Type := Option Value ⊕ Nat
abbrev JQ : Type := JO → (Nat → Nat) → Nat → (Nat → va_E) → Prop
/-- what an outcome of the machine is: an answer, or a thrown exception of a kind -/
def jOut (s t : State) (o : Outcome) (oc : JO) : Prop := match oc with
  | .inl v => o = .returned v
  | .inr k => ∃ (x : Addr) (cell : Cell), o = .threw x ∧ t.heap[x]? = some cell ∧ s.vm.findClass (jEx k) = some cell.cls ∧ cell.vm = .none ∧ s.heap.size ≤ x
/-- what may have been made: by an answer nb, by a throw the room -/
def jco (nb : Nat × Nat) (mc ms : Nat) : Outcome → Nat × Nat
  | .returned _ => nb
  | .threw _ => (mc, ms)
def jEnd (D : va_G) (cl : List vw_C) (A : Nat → Prop) (nb : Nat × Nat) (mc ms : Nat) (Qx : JQ) (s : State) (o : Outcome) (t : State) : Prop :=
  (∃ (oc : JO) (ad : Nat → Nat) (N : Nat) (F : Nat → va_E), Qx oc ad N F ∧ va_P D cl (jwl ad N F) t.heap ∧ va_D A (jwl ad N F) ∧ jOut s t o oc) ∧ va_F A s t ∧ s.WarmedH t.vm ∧ ∃ L : List Loc, s.sameButNew ({ t with vm := s.vm } : State) L (jco nb mc ms o).1 (jco nb mc ms o).2 ∧ ∀ q ∈ L, A q.base
def jMQ (D : va_G) (cl : List vw_C) (A : Nat → Prop) (nb : Nat × Nat) (mc ms : Nat) (Qx : JQ) (below : List Frame) (s : State) : State → Prop := fun t => ∃ o, t.status = .running ∧ Ended t below o ∧ jEnd D cl A nb mc ms Qx s o t
/-- no cell that may be written is a class's statics -/
def jNS (A : Nat → Prop) (s : State) : Prop := ∀ (q : Nat) (cell : Cell), A q → s.heap[q]? = some cell → cell.vm.isStatics = false
theorem jNS.of {D : va_G} {cl : List vw_C} {ad : Nat → Nat} {N : Nat} {F : Nat → va_E} {s : State} (hP : va_P D cl (jwl ad N F) s.heap) : jNS (jA ad N s.heap.size) s := by
  rintro q cell (⟨k, h1, rfl⟩ | h) hc
  · have h2 := hP k _ (jwl_get h1)
    cases he : F k with
    | inl a =>
      simp only [va_at, he] at h2
      rw [h2] at hc
      cases hc
      obtain ⟨cA, n, f | f | f | f | f⟩ := a <;> rfl
    | inr o =>
      simp only [va_at, he] at h2
      obtain ⟨r, -, cell', q1, -, q3, -⟩ := h2
      rw [q1] at hc
      cases hc
      rw [q3]; rfl
  · rw [Array.getElem?_eq_none h] at hc
    cases hc
/-- what holds of an invocation all along -/
def jI (l : Launch) (own : String) (cc : ByteArray) (nL : Nat) (ret : Option FieldType) (D : va_G) (cl : List vw_C) (tys : List (ClassId × FieldType)) (A : Nat → Prop) (X : State → Method → Prop) (p : Program) (e : Env) (s : State) (m : MethodId) (args : Array Value) (meth : Method) (c : Code) : Prop :=
  p.tables.exec = Jvm.exec ∧ c.code = cc ∧ meth.sig.returnType = ret ∧ c.maxLocals = nL ∧ s.vm.findClass own = some m.cls ∧ (∀ w ∈ jALL, w.before args s = true) ∧ meth.locks = false ∧ e.platform.stackTraces = false ∧ c.exceptionTable.isEmpty = true ∧ va_K D cl tys s ∧ (∀ q : Nat, s.heap.size ≤ q → A q) ∧ jZ A s ∧ X s meth ∧ l.flags = flags0 ∧ jNS A s
def J (l : Launch) (R : Room) (nb : Nat × Nat) (own : String) (cc : ByteArray) (nL : Nat) (ret : Option FieldType) (D : va_G) (cl : List vw_C) (tys : List (ClassId × FieldType)) (A : Nat → Prop) (X : State → Method → Prop) (Qx : JQ) (ad : Nat → Nat) (N kc ks pc : Nat) (lv : List (Nat × Value)) (st : List Value) (F : Nat → va_E) : Prop :=
  ∀ (p : Program) (e : Env) (s : State) (m : MethodId) (args : Array Value) (below : List Frame) (meth : Method) (c : Code) (H : Heap) (locs : List Loc) (ls : Array Slot),
    jI l own cc nL ret D cl tys A X p e s m args meth c → va_P D cl (jwl ad N F) H → va_D A (jwl ad N F) → va_S A s.heap H locs → lv_has ls nL lv →
    W p l e R s m args below meth c H locs kc ks (jMQ D cl A nb R.cells R.slots Qx below s) (F0 m pc ls st)
/-- a method's contract on the world -/
def jPre (D : va_G) (cl : List vw_C) (tys : List (ClassId × FieldType)) (ad : Nat → Nat) (N : Nat) (F : Nat → va_E) (sz : Nat) (av : List Value) : Array Value → State → Prop := fun v U =>
  v = av.toArray ∧ U.heap.size = sz ∧ va_P D cl (jwl ad N F) U.heap ∧ va_K D cl tys U ∧ va_D (fun _ => True) (jwl ad N F) ∧ jZ (jA ad N sz) U
def JC (l : Launch) (y : MethodName) (cc : ByteArray) (nL : Nat) (ret : Option FieldType) (rm : Room) (nb : Nat × Nat) (D : va_G) (cl : List vw_C) (tys : List (ClassId × FieldType)) (ad : Nat → Nat) (N : Nat) (F : Nat → va_E) (av : List Value) (Qx : JQ) : Prop :=
  ∀ sz : Nat, MetFree l y (headSpec (jws y cc nL ret) rm) (jPre D cl tys ad N F sz av) (fun _ _ _ _ _ => True) (fun _ s o t => jEnd D cl (jA ad N sz) nb rm.cells rm.slots Qx s o t)
theorem JC.intro {l : Launch} (hfl : l.flags = flags0) {y : MethodName} {cc : ByteArray} {nL : Nat} {ret : Option FieldType} {rm : Room} {nb : Nat × Nat} {D : va_G} {cl : List vw_C} {tys : List (ClassId × FieldType)} {ad : Nat → Nat} {N : Nat} {F : Nat → va_E} {av : List Value} {Qx : JQ}
    (hy : plainFor y = true) (hlen : (lg_sl av).length ≤ nL)
    (body : ∀ sz : Nat, J l rm nb y.cls cc nL ret D cl tys (jA ad N sz) (fun _ me => me.name = y.name) Qx ad N 0 0 0 (lv_args 0 av) [] F) : JC l y cc nL ret rm nb D cl tys ad N F av Qx := by
  intro sz
  refine MetFree.of_bodySF (code := cc) (maxLocals := nL) (ret := ret) hy ?_ ?_
  · intro args s m h hn
    obtain ⟨meth, c, h1, h2, h3, h4, h5, h6, -, -⟩ := Cond.code_spec hn (atoms_spec (ws := jws y cc nL ret) h _ List.mem_cons_self)
    exact ⟨meth, c, h1, h2, h3, h4, h5, h6⟩
  · intro p e s m args below meth c s₁ B hml hP _
    obtain ⟨rfl, hsz, hP, hK, hD, hZ⟩ := hP
    have hts0 : ∀ w ∈ jws y cc nL ret, w.before av.toArray s = true := atoms_spec (ws := jws y cc nL ret) B.pre
    have hts : ∀ w ∈ jALL, w.before av.toArray s = true := fun w hw => hts0 w (List.mem_cons_of_mem _ hw)
    have hown : s.vm.findClass y.cls = some m.cls := findClass_of_methodNamed B.named
    have hl := lv_entry av (n := nL) hlen
    subst hsz
    have hh0 : s₁.heap = s.heap := by rw [B.state]; rfl
    have hD' : va_D (jA ad N s.heap.size) (jwl ad N F) := ⟨hD.1, fun k q hk => by obtain ⟨h1, rfl⟩ := jwl_some hk; exact Or.inl ⟨k, h1, rfl⟩⟩
    have K := body s.heap.size p e s m av.toArray below meth c s.heap [] _ ⟨B.exec, B.bytes, B.returns, hml, hown, hts, B.notSynchronized, Launch.traces_off hfl B.admits, B.noHandlers (hts0 _ List.mem_cons_self), hK, fun q h => Or.inr h, hZ, (name_of_methodNamed B.named B.method).1, hfl, jNS.of hP⟩ hP hD' va_S.rf hl
    rw [← lg_entry_eq] at K
    obtain ⟨t, a1, o, b1, b2, b3⟩ := K s₁ hh0 (Stand.of_body B)
    exact ⟨t, o, a1, b1, b2, b3⟩
