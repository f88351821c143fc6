/-- an int array's contents by integers -/
def aI (h : Nat → Int) : Nat → Int32 := fun j => iI (h j)
theorem aI_upd {h : Nat → Int} {i : Nat} {x : Int} : upd (aI h) i (iI x) = aI (va_up h i x) := by
  funext j
  by_cases hj : j = i
  · subst hj; simp [upd, aI, va_up]
  · simp [upd, aI, va_up, hj]
theorem upL_eq {h : Nat → Int64} {i : Nat} {x : Int64} : vp_updL h i x = va_up h i x := by
  funext j
  simp [vp_updL, va_up]
theorem i8_ok {z : Int} (h : -128 ≤ z ∧ z ≤ 127) : (Int8.ofInt z).toInt32 = iI z := by
  rw [← Int32.toInt_inj, Int8.toInt_toInt32, iI_toInt ⟨by omega, by omega⟩, Int8.toInt_ofInt_of_le (by omega) (by omega)]
theorem i16_ok {z : Int} (h : -32768 ≤ z ∧ z ≤ 32767) : (Int16.ofInt z).toInt32 = iI z := by
  rw [← Int32.toInt_inj, Int16.toInt_toInt32, iI_toInt ⟨by omega, by omega⟩, Int16.toInt_ofInt_of_le (by omega) (by omega)]
section JROWS
variable {l : Launch} {R : Room} {nb : Nat × Nat} {own : String} {cc : ByteArray} {nL : Nat} {ret : Option FieldType} {D : va_G} {cl : List vw_C} {tys : List (ClassId × FieldType)} {A : Nat → Prop} {X : State → Method → Prop} {Qx : JQ} {ad : Nat → Nat} {N kc ks pc : Nat} {lv lv' : List (Nat × Value)} {F : Nat → va_E} {st : List Value}
theorem J_iconst {z : Int} (d : decode cc pc = .ok (.iconst z, 1)) (k : J l R nb own cc nL ret D cl tys A X Qx ad N kc ks (pc + 1) lv (.int (iI z) :: st) F) : J l R nb own cc nL ret D cl tys A X Qx ad N kc ks pc lv st F := by
  intro p e s m args below meth c H locs ls hI hP hD hS hl
  have hx := hI.1
  have hb := hI.2.1
  refine lv_iconst (v := iI z) hx hb d rfl ?_
  exact k p e s m args below meth c H locs ls hI hP hD hS hl
theorem J_bipush {z : Int} (d : decode cc pc = .ok (.bipush z, 2)) (hv : (Int8.ofInt z).toInt32 = iI z) (k : J l R nb own cc nL ret D cl tys A X Qx ad N kc ks (pc + 2) lv (.int (iI z) :: st) F) : J l R nb own cc nL ret D cl tys A X Qx ad N kc ks pc lv st F := by
  intro p e s m args below meth c H locs ls hI hP hD hS hl
  have hx := hI.1
  have hb := hI.2.1
  refine lv_bipush (v := iI z) hx hb d hv ?_
  exact k p e s m args below meth c H locs ls hI hP hD hS hl
theorem J_sipush {z : Int} (d : decode cc pc = .ok (.sipush z, 3)) (hv : (Int16.ofInt z).toInt32 = iI z) (k : J l R nb own cc nL ret D cl tys A X Qx ad N kc ks (pc + 3) lv (.int (iI z) :: st) F) : J l R nb own cc nL ret D cl tys A X Qx ad N kc ks pc lv st F := by
  intro p e s m args below meth c H locs ls hI hP hD hS hl
  have hx := hI.1
  have hb := hI.2.1
  refine lv_sipush (v := iI z) hx hb d hv ?_
  exact k p e s m args below meth c H locs ls hI hP hD hS hl
theorem J_lconst {z : Fin 2} {v : Int} (d : decode cc pc = .ok (.lconst z, 1)) (hv : Int64.ofNat (z : Nat) = lI v) (k : J l R nb own cc nL ret D cl tys A X Qx ad N kc ks (pc + 1) lv (.long (lI v) :: st) F) : J l R nb own cc nL ret D cl tys A X Qx ad N kc ks pc lv st F := by
  intro p e s m args below meth c H locs ls hI hP hD hS hl
  have hx := hI.1
  have hb := hI.2.1
  refine lv_lconst (v := lI v) hx hb d hv ?_
  exact k p e s m args below meth c H locs ls hI hP hD hS hl
theorem J_dconst0 (d : decode cc pc = .ok (.dconst 0, 1)) (k : J l R nb own cc nL ret D cl tys A X Qx ad N kc ks (pc + 1) lv (.double FP.dconst0 :: st) F) : J l R nb own cc nL ret D cl tys A X Qx ad N kc ks pc lv st F := by
  intro p e s m args below meth c H locs ls hI hP hD hS hl
  have hx := hI.1
  have hb := hI.2.1
  refine lv_dconst0 hx hb d ?_
  exact k p e s m args below meth c H locs ls hI hP hD hS hl
theorem J_dconst1 (d : decode cc pc = .ok (.dconst 1, 1)) (k : J l R nb own cc nL ret D cl tys A X Qx ad N kc ks (pc + 1) lv (.double FP.dconst1 :: st) F) : J l R nb own cc nL ret D cl tys A X Qx ad N kc ks pc lv st F := by
  intro p e s m args below meth c H locs ls hI hP hD hS hl
  have hx := hI.1
  have hb := hI.2.1
  refine lv_dconst1 hx hb d ?_
  exact k p e s m args below meth c H locs ls hI hP hD hS hl
theorem J_ldc {idx : Nat} {v : Int32} {z : Int} (d : decode cc pc = .ok (.ldc idx, 2)) (hw : Cond.constant own idx v ∈ jALL) (hv : v = iI z) (k : J l R nb own cc nL ret D cl tys A X Qx ad N kc ks (pc + 2) lv (.int (iI z) :: st) F) : J l R nb own cc nL ret D cl tys A X Qx ad N kc ks pc lv st F := by
  intro p e s m args below meth c H locs ls hI hP hD hS hl
  have hx := hI.1
  have hb := hI.2.1
  refine lv_ldc hx hb hI.2.2.2.2.1 (hI.2.2.2.2.2.1 _ hw) d ?_
  subst hv
  exact k p e s m args below meth c H locs ls hI hP hD hS hl
theorem J_ldcw {idx : Nat} {v : Int32} {z : Int} (d : decode cc pc = .ok (.ldc_w idx, 3)) (hw : Cond.constant own idx v ∈ jALL) (hv : v = iI z) (k : J l R nb own cc nL ret D cl tys A X Qx ad N kc ks (pc + 3) lv (.int (iI z) :: st) F) : J l R nb own cc nL ret D cl tys A X Qx ad N kc ks pc lv st F := by
  intro p e s m args below meth c H locs ls hI hP hD hS hl
  have hx := hI.1
  have hb := hI.2.1
  refine lv_ldcw hx hb hI.2.2.2.2.1 (hI.2.2.2.2.2.1 _ hw) d ?_
  subst hv
  exact k p e s m args below meth c H locs ls hI hP hD hS hl
theorem J_ldc2 {idx : Nat} {v : Int64} {z : Int} (d : decode cc pc = .ok (.ldc2_w idx, 3)) (hw : Cond.constantLong own idx v ∈ jALL) (hv : v = lI z) (k : J l R nb own cc nL ret D cl tys A X Qx ad N kc ks (pc + 3) lv (.long (lI z) :: st) F) : J l R nb own cc nL ret D cl tys A X Qx ad N kc ks pc lv st F := by
  intro p e s m args below meth c H locs ls hI hP hD hS hl
  have hx := hI.1
  have hb := hI.2.1
  refine lv_ldc2 hx hb hI.2.2.2.2.1 (hI.2.2.2.2.2.1 _ hw) d ?_
  subst hv
  exact k p e s m args below meth c H locs ls hI hP hD hS hl
theorem J_ldc2d {idx : Nat} {v : UInt64} (d : decode cc pc = .ok (.ldc2_w idx, 3)) (hw : Cond.constantDouble own idx v ∈ jALL) (k : J l R nb own cc nL ret D cl tys A X Qx ad N kc ks (pc + 3) lv (.double v :: st) F) : J l R nb own cc nL ret D cl tys A X Qx ad N kc ks pc lv st F := by
  intro p e s m args below meth c H locs ls hI hP hD hS hl
  have hx := hI.1
  have hb := hI.2.1
  refine lv_ldc2d hx hb hI.2.2.2.2.1 (hI.2.2.2.2.2.1 _ hw) d ?_
  exact k p e s m args below meth c H locs ls hI hP hD hS hl
theorem J_iload_n {z : Fin 4} {i : Nat} {x : Int32} (j : Nat) (d : decode cc pc = .ok (.iload_n z, 1)) (hi : (z : Nat) = i) (hj : lv[j]? = some (i, .int x)) (k : J l R nb own cc nL ret D cl tys A X Qx ad N kc ks (pc + 1) lv (.int x :: st) F) : J l R nb own cc nL ret D cl tys A X Qx ad N kc ks pc lv st F := by
  intro p e s m args below meth c H locs ls hI hP hD hS hl
  have hx := hI.1
  have hb := hI.2.1
  refine lv_iload_n hx hb d hi (lv_at hl j hj) ?_
  exact k p e s m args below meth c H locs ls hI hP hD hS hl
theorem J_iload {i : Nat} {x : Int32} (j : Nat) (d : decode cc pc = .ok (.iload i, 2)) (hj : lv[j]? = some (i, .int x)) (k : J l R nb own cc nL ret D cl tys A X Qx ad N kc ks (pc + 2) lv (.int x :: st) F) : J l R nb own cc nL ret D cl tys A X Qx ad N kc ks pc lv st F := by
  intro p e s m args below meth c H locs ls hI hP hD hS hl
  have hx := hI.1
  have hb := hI.2.1
  refine lv_iload hx hb d (lv_at hl j hj) ?_
  exact k p e s m args below meth c H locs ls hI hP hD hS hl
theorem J_istore_n {z : Fin 4} {i : Nat} {x : Int32} (d : decode cc pc = .ok (.istore_n z, 1)) (hi : (z : Nat) = i) (hn : i < nL) (hl0 : (i, Value.int x) :: lv.filter (fun q => !(q.1 == i) && !(q.1 + 1 == i && q.2.category == 2)) = lv') (k : J l R nb own cc nL ret D cl tys A X Qx ad N kc ks (pc + 1) lv' st F) : J l R nb own cc nL ret D cl tys A X Qx ad N kc ks pc lv (.int x :: st) F := by
  intro p e s m args below meth c H locs ls hI hP hD hS hl
  exact lv_istore_n hI.1 hI.2.1 d hi hl hn hl0 (fun ls' hl' => k p e s m args below meth c H locs ls' hI hP hD hS hl')
theorem J_istore {i : Nat} {x : Int32} (d : decode cc pc = .ok (.istore i, 2)) (hn : i < nL) (hl0 : (i, Value.int x) :: lv.filter (fun q => !(q.1 == i) && !(q.1 + 1 == i && q.2.category == 2)) = lv') (k : J l R nb own cc nL ret D cl tys A X Qx ad N kc ks (pc + 2) lv' st F) : J l R nb own cc nL ret D cl tys A X Qx ad N kc ks pc lv (.int x :: st) F := by
  intro p e s m args below meth c H locs ls hI hP hD hS hl
  exact lv_istore hI.1 hI.2.1 d hl hn hl0 (fun ls' hl' => k p e s m args below meth c H locs ls' hI hP hD hS hl')
theorem J_lload_n {z : Fin 4} {i : Nat} {x : Int64} (j : Nat) (d : decode cc pc = .ok (.lload_n z, 1)) (hi : (z : Nat) = i) (hj : lv[j]? = some (i, .long x)) (k : J l R nb own cc nL ret D cl tys A X Qx ad N kc ks (pc + 1) lv (.long x :: st) F) : J l R nb own cc nL ret D cl tys A X Qx ad N kc ks pc lv st F := by
  intro p e s m args below meth c H locs ls hI hP hD hS hl
  have hx := hI.1
  have hb := hI.2.1
  refine lv_lload_n hx hb d hi (lv_at hl j hj) ?_
  exact k p e s m args below meth c H locs ls hI hP hD hS hl
theorem J_lload {i : Nat} {x : Int64} (j : Nat) (d : decode cc pc = .ok (.lload i, 2)) (hj : lv[j]? = some (i, .long x)) (k : J l R nb own cc nL ret D cl tys A X Qx ad N kc ks (pc + 2) lv (.long x :: st) F) : J l R nb own cc nL ret D cl tys A X Qx ad N kc ks pc lv st F := by
  intro p e s m args below meth c H locs ls hI hP hD hS hl
  have hx := hI.1
  have hb := hI.2.1
  refine lv_lload hx hb d (lv_at hl j hj) ?_
  exact k p e s m args below meth c H locs ls hI hP hD hS hl
theorem J_lstore_n {z : Fin 4} {i : Nat} {x : Int64} (d : decode cc pc = .ok (.lstore_n z, 1)) (hi : (z : Nat) = i) (hn : i + 1 < nL) (hl0 : (i, Value.long x) :: lv.filter (fun q => !(q.1 == i) && (!(q.1 == i + 1) && !(q.1 + 1 == i && q.2.category == 2))) = lv') (k : J l R nb own cc nL ret D cl tys A X Qx ad N kc ks (pc + 1) lv' st F) : J l R nb own cc nL ret D cl tys A X Qx ad N kc ks pc lv (.long x :: st) F := by
  intro p e s m args below meth c H locs ls hI hP hD hS hl
  exact lv_lstore_n hI.1 hI.2.1 d hi hl hn hl0 (fun ls' hl' => k p e s m args below meth c H locs ls' hI hP hD hS hl')
theorem J_lstore {i : Nat} {x : Int64} (d : decode cc pc = .ok (.lstore i, 2)) (hn : i + 1 < nL) (hl0 : (i, Value.long x) :: lv.filter (fun q => !(q.1 == i) && (!(q.1 == i + 1) && !(q.1 + 1 == i && q.2.category == 2))) = lv') (k : J l R nb own cc nL ret D cl tys A X Qx ad N kc ks (pc + 2) lv' st F) : J l R nb own cc nL ret D cl tys A X Qx ad N kc ks pc lv (.long x :: st) F := by
  intro p e s m args below meth c H locs ls hI hP hD hS hl
  exact lv_lstore hI.1 hI.2.1 d hl hn hl0 (fun ls' hl' => k p e s m args below meth c H locs ls' hI hP hD hS hl')
theorem J_dload_n {z : Fin 4} {i : Nat} {x : UInt64} (j : Nat) (d : decode cc pc = .ok (.dload_n z, 1)) (hi : (z : Nat) = i) (hj : lv[j]? = some (i, .double x)) (k : J l R nb own cc nL ret D cl tys A X Qx ad N kc ks (pc + 1) lv (.double x :: st) F) : J l R nb own cc nL ret D cl tys A X Qx ad N kc ks pc lv st F := by
  intro p e s m args below meth c H locs ls hI hP hD hS hl
  have hx := hI.1
  have hb := hI.2.1
  refine lv_dload_n hx hb d hi (lv_at hl j hj) ?_
  exact k p e s m args below meth c H locs ls hI hP hD hS hl
theorem J_dload {i : Nat} {x : UInt64} (j : Nat) (d : decode cc pc = .ok (.dload i, 2)) (hj : lv[j]? = some (i, .double x)) (k : J l R nb own cc nL ret D cl tys A X Qx ad N kc ks (pc + 2) lv (.double x :: st) F) : J l R nb own cc nL ret D cl tys A X Qx ad N kc ks pc lv st F := by
  intro p e s m args below meth c H locs ls hI hP hD hS hl
  have hx := hI.1
  have hb := hI.2.1
  refine lv_dload hx hb d (lv_at hl j hj) ?_
  exact k p e s m args below meth c H locs ls hI hP hD hS hl
theorem J_dstore_n {z : Fin 4} {i : Nat} {x : UInt64} (d : decode cc pc = .ok (.dstore_n z, 1)) (hi : (z : Nat) = i) (hn : i + 1 < nL) (hl0 : (i, Value.double x) :: lv.filter (fun q => !(q.1 == i) && (!(q.1 == i + 1) && !(q.1 + 1 == i && q.2.category == 2))) = lv') (k : J l R nb own cc nL ret D cl tys A X Qx ad N kc ks (pc + 1) lv' st F) : J l R nb own cc nL ret D cl tys A X Qx ad N kc ks pc lv (.double x :: st) F := by
  intro p e s m args below meth c H locs ls hI hP hD hS hl
  exact lv_dstore_n hI.1 hI.2.1 d hi hl hn hl0 (fun ls' hl' => k p e s m args below meth c H locs ls' hI hP hD hS hl')
theorem J_dstore {i : Nat} {x : UInt64} (d : decode cc pc = .ok (.dstore i, 2)) (hn : i + 1 < nL) (hl0 : (i, Value.double x) :: lv.filter (fun q => !(q.1 == i) && (!(q.1 == i + 1) && !(q.1 + 1 == i && q.2.category == 2))) = lv') (k : J l R nb own cc nL ret D cl tys A X Qx ad N kc ks (pc + 2) lv' st F) : J l R nb own cc nL ret D cl tys A X Qx ad N kc ks pc lv (.double x :: st) F := by
  intro p e s m args below meth c H locs ls hI hP hD hS hl
  exact lv_dstore hI.1 hI.2.1 d hl hn hl0 (fun ls' hl' => k p e s m args below meth c H locs ls' hI hP hD hS hl')
theorem J_aload_n {z : Fin 4} {i : Nat} {x : Nat} (j : Nat) (d : decode cc pc = .ok (.aload_n z, 1)) (hi : (z : Nat) = i) (hj : lv[j]? = some (i, .ref x)) (k : J l R nb own cc nL ret D cl tys A X Qx ad N kc ks (pc + 1) lv (.ref x :: st) F) : J l R nb own cc nL ret D cl tys A X Qx ad N kc ks pc lv st F := by
  intro p e s m args below meth c H locs ls hI hP hD hS hl
  have hx := hI.1
  have hb := hI.2.1
  refine lv_aload_n hx hb d hi (lv_at hl j hj) ?_
  exact k p e s m args below meth c H locs ls hI hP hD hS hl
theorem J_aload {i : Nat} {x : Nat} (j : Nat) (d : decode cc pc = .ok (.aload i, 2)) (hj : lv[j]? = some (i, .ref x)) (k : J l R nb own cc nL ret D cl tys A X Qx ad N kc ks (pc + 2) lv (.ref x :: st) F) : J l R nb own cc nL ret D cl tys A X Qx ad N kc ks pc lv st F := by
  intro p e s m args below meth c H locs ls hI hP hD hS hl
  have hx := hI.1
  have hb := hI.2.1
  refine lv_aload hx hb d (lv_at hl j hj) ?_
  exact k p e s m args below meth c H locs ls hI hP hD hS hl
theorem J_astore_n {z : Fin 4} {i : Nat} {x : Nat} (d : decode cc pc = .ok (.astore_n z, 1)) (hi : (z : Nat) = i) (hn : i < nL) (hl0 : (i, Value.ref x) :: lv.filter (fun q => !(q.1 == i) && !(q.1 + 1 == i && q.2.category == 2)) = lv') (k : J l R nb own cc nL ret D cl tys A X Qx ad N kc ks (pc + 1) lv' st F) : J l R nb own cc nL ret D cl tys A X Qx ad N kc ks pc lv (.ref x :: st) F := by
  intro p e s m args below meth c H locs ls hI hP hD hS hl
  exact lv_astore_n hI.1 hI.2.1 d hi hl hn hl0 (fun ls' hl' => k p e s m args below meth c H locs ls' hI hP hD hS hl')
theorem J_astore {i : Nat} {x : Nat} (d : decode cc pc = .ok (.astore i, 2)) (hn : i < nL) (hl0 : (i, Value.ref x) :: lv.filter (fun q => !(q.1 == i) && !(q.1 + 1 == i && q.2.category == 2)) = lv') (k : J l R nb own cc nL ret D cl tys A X Qx ad N kc ks (pc + 2) lv' st F) : J l R nb own cc nL ret D cl tys A X Qx ad N kc ks pc lv (.ref x :: st) F := by
  intro p e s m args below meth c H locs ls hI hP hD hS hl
  exact lv_astore hI.1 hI.2.1 d hl hn hl0 (fun ls' hl' => k p e s m args below meth c H locs ls' hI hP hD hS hl')
theorem J_iinc {i j : Nat} {z a b : Int} (d : decode cc pc = .ok (.iinc i z, 3)) (hj : lv[j]? = some (i, .int (iI a))) (hb0 : a + z = b) (hn : i < nL) (hl0 : (i, Value.int (iI b)) :: lv.filter (fun q => !(q.1 == i) && !(q.1 + 1 == i && q.2.category == 2)) = lv') (k : J l R nb own cc nL ret D cl tys A X Qx ad N kc ks (pc + 3) lv' st F) : J l R nb own cc nL ret D cl tys A X Qx ad N kc ks pc lv st F := by
  intro p e s m args below meth c H locs ls hI hP hD hS hl
  exact lv_iinc (v := iI b) hI.1 hI.2.1 d hl hj (by rw [← hb0, ← iI_add]; rfl) hn hl0 (fun ls' hl' => k p e s m args below meth c H locs ls' hI hP hD hS hl')
theorem J_iadd {a b : Int} (d : decode cc pc = .ok (.iadd, 1)) (k : J l R nb own cc nL ret D cl tys A X Qx ad N kc ks (pc + 1) lv (.int (iI (a + b)) :: st) F) : J l R nb own cc nL ret D cl tys A X Qx ad N kc ks pc lv (.int (iI b) :: .int (iI a) :: st) F := by
  intro p e s m args below meth c H locs ls hI hP hD hS hl
  have hx := hI.1
  have hb := hI.2.1
  refine lv_iadd hx hb d ?_
  rw [iI_add]
  exact k p e s m args below meth c H locs ls hI hP hD hS hl
theorem J_isub {a b : Int} (d : decode cc pc = .ok (.isub, 1)) (k : J l R nb own cc nL ret D cl tys A X Qx ad N kc ks (pc + 1) lv (.int (iI (a - b)) :: st) F) : J l R nb own cc nL ret D cl tys A X Qx ad N kc ks pc lv (.int (iI b) :: .int (iI a) :: st) F := by
  intro p e s m args below meth c H locs ls hI hP hD hS hl
  have hx := hI.1
  have hb := hI.2.1
  refine lv_isub hx hb d ?_
  rw [iI_sub]
  exact k p e s m args below meth c H locs ls hI hP hD hS hl
theorem J_imul {a b : Int} (d : decode cc pc = .ok (.imul, 1)) (k : J l R nb own cc nL ret D cl tys A X Qx ad N kc ks (pc + 1) lv (.int (iI (a * b)) :: st) F) : J l R nb own cc nL ret D cl tys A X Qx ad N kc ks pc lv (.int (iI b) :: .int (iI a) :: st) F := by
  intro p e s m args below meth c H locs ls hI hP hD hS hl
  have hx := hI.1
  have hb := hI.2.1
  refine lv_imul hx hb d ?_
  rw [iI_mul]
  exact k p e s m args below meth c H locs ls hI hP hD hS hl
theorem J_ineg {a : Int} (d : decode cc pc = .ok (.ineg, 1)) (k : J l R nb own cc nL ret D cl tys A X Qx ad N kc ks (pc + 1) lv (.int (iI (-a)) :: st) F) : J l R nb own cc nL ret D cl tys A X Qx ad N kc ks pc lv (.int (iI a) :: st) F := by
  intro p e s m args below meth c H locs ls hI hP hD hS hl
  have hx := hI.1
  have hb := hI.2.1
  refine lv_ineg hx hb d ?_
  rw [iI_neg]
  exact k p e s m args below meth c H locs ls hI hP hD hS hl
theorem J_idiv {a b : Int} (d : decode cc pc = .ok (.idiv, 1)) (ha : inI a) (hb1 : 0 < b ∧ b ≤ 2147483647) (k : J l R nb own cc nL ret D cl tys A X Qx ad N kc ks (pc + 1) lv (.int (iI (a.tdiv b)) :: st) F) : J l R nb own cc nL ret D cl tys A X Qx ad N kc ks pc lv (.int (iI b) :: .int (iI a) :: st) F := by
  intro p e s m args below meth c H locs ls hI hP hD hS hl
  have hx := hI.1
  have hb := hI.2.1
  refine lv_idiv hx hb d (fun h => by rw [← iI_0, iI_eq ⟨by omega, hb1.2⟩ ⟨by decide, by decide⟩] at h; omega) ?_
  rw [iI_div ha hb1]
  exact k p e s m args below meth c H locs ls hI hP hD hS hl
theorem J_irem {a b : Int} (d : decode cc pc = .ok (.irem, 1)) (ha : inI a) (hb1 : 0 < b ∧ b ≤ 2147483647) (k : J l R nb own cc nL ret D cl tys A X Qx ad N kc ks (pc + 1) lv (.int (iI (a.tmod b)) :: st) F) : J l R nb own cc nL ret D cl tys A X Qx ad N kc ks pc lv (.int (iI b) :: .int (iI a) :: st) F := by
  intro p e s m args below meth c H locs ls hI hP hD hS hl
  have hx := hI.1
  have hb := hI.2.1
  refine lv_irem hx hb d (fun h => by rw [← iI_0, iI_eq ⟨by omega, hb1.2⟩ ⟨by decide, by decide⟩] at h; omega) ?_
  rw [iI_rem ha hb1]
  exact k p e s m args below meth c H locs ls hI hP hD hS hl
theorem J_idivn {a b : Int} (d : decode cc pc = .ok (.idiv, 1)) (ha : 0 ≤ a ∧ a ≤ 2147483647) (hb1 : 0 < b ∧ b ≤ 2147483647) (k : J l R nb own cc nL ret D cl tys A X Qx ad N kc ks (pc + 1) lv (.int (iI (a / b)) :: st) F) : J l R nb own cc nL ret D cl tys A X Qx ad N kc ks pc lv (.int (iI b) :: .int (iI a) :: st) F := by
  intro p e s m args below meth c H locs ls hI hP hD hS hl
  have hx := hI.1
  have hb := hI.2.1
  refine lv_idiv hx hb d (fun h => by rw [← iI_0, iI_eq ⟨by omega, hb1.2⟩ ⟨by decide, by decide⟩] at h; omega) ?_
  rw [iI_divn ha hb1]
  exact k p e s m args below meth c H locs ls hI hP hD hS hl
theorem J_iremn {a b : Int} (d : decode cc pc = .ok (.irem, 1)) (ha : 0 ≤ a ∧ a ≤ 2147483647) (hb1 : 0 < b ∧ b ≤ 2147483647) (k : J l R nb own cc nL ret D cl tys A X Qx ad N kc ks (pc + 1) lv (.int (iI (a % b)) :: st) F) : J l R nb own cc nL ret D cl tys A X Qx ad N kc ks pc lv (.int (iI b) :: .int (iI a) :: st) F := by
  intro p e s m args below meth c H locs ls hI hP hD hS hl
  have hx := hI.1
  have hb := hI.2.1
  refine lv_irem hx hb d (fun h => by rw [← iI_0, iI_eq ⟨by omega, hb1.2⟩ ⟨by decide, by decide⟩] at h; omega) ?_
  rw [iI_remn ha hb1]
  exact k p e s m args below meth c H locs ls hI hP hD hS hl
theorem J_ladd {a b : Int} (d : decode cc pc = .ok (.ladd, 1)) (k : J l R nb own cc nL ret D cl tys A X Qx ad N kc ks (pc + 1) lv (.long (lI (a + b)) :: st) F) : J l R nb own cc nL ret D cl tys A X Qx ad N kc ks pc lv (.long (lI b) :: .long (lI a) :: st) F := by
  intro p e s m args below meth c H locs ls hI hP hD hS hl
  have hx := hI.1
  have hb := hI.2.1
  refine lv_ladd hx hb d ?_
  rw [lI_add]
  exact k p e s m args below meth c H locs ls hI hP hD hS hl
theorem J_lsub {a b : Int} (d : decode cc pc = .ok (.lsub, 1)) (k : J l R nb own cc nL ret D cl tys A X Qx ad N kc ks (pc + 1) lv (.long (lI (a - b)) :: st) F) : J l R nb own cc nL ret D cl tys A X Qx ad N kc ks pc lv (.long (lI b) :: .long (lI a) :: st) F := by
  intro p e s m args below meth c H locs ls hI hP hD hS hl
  have hx := hI.1
  have hb := hI.2.1
  refine lv_lsub hx hb d ?_
  rw [lI_sub]
  exact k p e s m args below meth c H locs ls hI hP hD hS hl
theorem J_lmul {a b : Int} (d : decode cc pc = .ok (.lmul, 1)) (k : J l R nb own cc nL ret D cl tys A X Qx ad N kc ks (pc + 1) lv (.long (lI (a * b)) :: st) F) : J l R nb own cc nL ret D cl tys A X Qx ad N kc ks pc lv (.long (lI b) :: .long (lI a) :: st) F := by
  intro p e s m args below meth c H locs ls hI hP hD hS hl
  have hx := hI.1
  have hb := hI.2.1
  refine lv_lmul hx hb d ?_
  rw [lI_mul]
  exact k p e s m args below meth c H locs ls hI hP hD hS hl
theorem J_lneg {a : Int} (d : decode cc pc = .ok (.lneg, 1)) (k : J l R nb own cc nL ret D cl tys A X Qx ad N kc ks (pc + 1) lv (.long (lI (-a)) :: st) F) : J l R nb own cc nL ret D cl tys A X Qx ad N kc ks pc lv (.long (lI a) :: st) F := by
  intro p e s m args below meth c H locs ls hI hP hD hS hl
  have hx := hI.1
  have hb := hI.2.1
  refine lv_lneg hx hb d ?_
  rw [lI_neg]
  exact k p e s m args below meth c H locs ls hI hP hD hS hl
theorem J_ldiv {a b : Int} (d : decode cc pc = .ok (.ldiv, 1)) (ha : inL a) (hb1 : 0 < b ∧ b ≤ 9223372036854775807) (k : J l R nb own cc nL ret D cl tys A X Qx ad N kc ks (pc + 1) lv (.long (lI (a.tdiv b)) :: st) F) : J l R nb own cc nL ret D cl tys A X Qx ad N kc ks pc lv (.long (lI b) :: .long (lI a) :: st) F := by
  intro p e s m args below meth c H locs ls hI hP hD hS hl
  have hx := hI.1
  have hb := hI.2.1
  refine lv_ldiv hx hb d (fun h => by rw [← lI_0, lI_eq ⟨by omega, hb1.2⟩ ⟨by decide, by decide⟩] at h; omega) ?_
  rw [lI_div ha hb1]
  exact k p e s m args below meth c H locs ls hI hP hD hS hl
theorem J_lrem {a b : Int} (d : decode cc pc = .ok (.lrem, 1)) (ha : inL a) (hb1 : 0 < b ∧ b ≤ 9223372036854775807) (k : J l R nb own cc nL ret D cl tys A X Qx ad N kc ks (pc + 1) lv (.long (lI (a.tmod b)) :: st) F) : J l R nb own cc nL ret D cl tys A X Qx ad N kc ks pc lv (.long (lI b) :: .long (lI a) :: st) F := by
  intro p e s m args below meth c H locs ls hI hP hD hS hl
  have hx := hI.1
  have hb := hI.2.1
  refine lv_lrem hx hb d (fun h => by rw [← lI_0, lI_eq ⟨by omega, hb1.2⟩ ⟨by decide, by decide⟩] at h; omega) ?_
  rw [lI_rem ha hb1]
  exact k p e s m args below meth c H locs ls hI hP hD hS hl
theorem J_ldivn {a b : Int} (d : decode cc pc = .ok (.ldiv, 1)) (ha : 0 ≤ a ∧ a ≤ 9223372036854775807) (hb1 : 0 < b ∧ b ≤ 9223372036854775807) (k : J l R nb own cc nL ret D cl tys A X Qx ad N kc ks (pc + 1) lv (.long (lI (a / b)) :: st) F) : J l R nb own cc nL ret D cl tys A X Qx ad N kc ks pc lv (.long (lI b) :: .long (lI a) :: st) F := by
  intro p e s m args below meth c H locs ls hI hP hD hS hl
  have hx := hI.1
  have hb := hI.2.1
  refine lv_ldiv hx hb d (fun h => by rw [← lI_0, lI_eq ⟨by omega, hb1.2⟩ ⟨by decide, by decide⟩] at h; omega) ?_
  rw [lI_divn ha hb1]
  exact k p e s m args below meth c H locs ls hI hP hD hS hl
theorem J_lremn {a b : Int} (d : decode cc pc = .ok (.lrem, 1)) (ha : 0 ≤ a ∧ a ≤ 9223372036854775807) (hb1 : 0 < b ∧ b ≤ 9223372036854775807) (k : J l R nb own cc nL ret D cl tys A X Qx ad N kc ks (pc + 1) lv (.long (lI (a % b)) :: st) F) : J l R nb own cc nL ret D cl tys A X Qx ad N kc ks pc lv (.long (lI b) :: .long (lI a) :: st) F := by
  intro p e s m args below meth c H locs ls hI hP hD hS hl
  have hx := hI.1
  have hb := hI.2.1
  refine lv_lrem hx hb d (fun h => by rw [← lI_0, lI_eq ⟨by omega, hb1.2⟩ ⟨by decide, by decide⟩] at h; omega) ?_
  rw [lI_remn ha hb1]
  exact k p e s m args below meth c H locs ls hI hP hD hS hl
theorem J_iand {a b r : Int} (d : decode cc pc = .ok (.iand, 1)) (h : iI a &&& iI b = iI r) (k : J l R nb own cc nL ret D cl tys A X Qx ad N kc ks (pc + 1) lv (.int (iI r) :: st) F) : J l R nb own cc nL ret D cl tys A X Qx ad N kc ks pc lv (.int (iI b) :: .int (iI a) :: st) F := by
  intro p e s m args below meth c H locs ls hI hP hD hS hl
  have hx := hI.1
  have hb := hI.2.1
  refine lv_iand hx hb d ?_
  rw [h]
  exact k p e s m args below meth c H locs ls hI hP hD hS hl
theorem J_ior {a b r : Int} (d : decode cc pc = .ok (.ior, 1)) (h : iI a ||| iI b = iI r) (k : J l R nb own cc nL ret D cl tys A X Qx ad N kc ks (pc + 1) lv (.int (iI r) :: st) F) : J l R nb own cc nL ret D cl tys A X Qx ad N kc ks pc lv (.int (iI b) :: .int (iI a) :: st) F := by
  intro p e s m args below meth c H locs ls hI hP hD hS hl
  have hx := hI.1
  have hb := hI.2.1
  refine lv_ior hx hb d ?_
  rw [h]
  exact k p e s m args below meth c H locs ls hI hP hD hS hl
theorem J_ixor {a b r : Int} (d : decode cc pc = .ok (.ixor, 1)) (h : iI a ^^^ iI b = iI r) (k : J l R nb own cc nL ret D cl tys A X Qx ad N kc ks (pc + 1) lv (.int (iI r) :: st) F) : J l R nb own cc nL ret D cl tys A X Qx ad N kc ks pc lv (.int (iI b) :: .int (iI a) :: st) F := by
  intro p e s m args below meth c H locs ls hI hP hD hS hl
  have hx := hI.1
  have hb := hI.2.1
  refine lv_ixor hx hb d ?_
  rw [h]
  exact k p e s m args below meth c H locs ls hI hP hD hS hl
theorem J_land {a b r : Int} (d : decode cc pc = .ok (.land, 1)) (h : lI a &&& lI b = lI r) (k : J l R nb own cc nL ret D cl tys A X Qx ad N kc ks (pc + 1) lv (.long (lI r) :: st) F) : J l R nb own cc nL ret D cl tys A X Qx ad N kc ks pc lv (.long (lI b) :: .long (lI a) :: st) F := by
  intro p e s m args below meth c H locs ls hI hP hD hS hl
  have hx := hI.1
  have hb := hI.2.1
  refine lv_land hx hb d ?_
  rw [h]
  exact k p e s m args below meth c H locs ls hI hP hD hS hl
theorem J_lor {a b r : Int} (d : decode cc pc = .ok (.lor, 1)) (h : lI a ||| lI b = lI r) (k : J l R nb own cc nL ret D cl tys A X Qx ad N kc ks (pc + 1) lv (.long (lI r) :: st) F) : J l R nb own cc nL ret D cl tys A X Qx ad N kc ks pc lv (.long (lI b) :: .long (lI a) :: st) F := by
  intro p e s m args below meth c H locs ls hI hP hD hS hl
  have hx := hI.1
  have hb := hI.2.1
  refine lv_lor hx hb d ?_
  rw [h]
  exact k p e s m args below meth c H locs ls hI hP hD hS hl
theorem J_ishl {a b r : Int} (d : decode cc pc = .ok (.ishl, 1)) (h : iI a <<< (iI b &&& 31) = iI r) (k : J l R nb own cc nL ret D cl tys A X Qx ad N kc ks (pc + 1) lv (.int (iI r) :: st) F) : J l R nb own cc nL ret D cl tys A X Qx ad N kc ks pc lv (.int (iI b) :: .int (iI a) :: st) F := by
  intro p e s m args below meth c H locs ls hI hP hD hS hl
  have hx := hI.1
  have hb := hI.2.1
  refine lv_ishl hx hb d ?_
  rw [h]
  exact k p e s m args below meth c H locs ls hI hP hD hS hl
theorem J_ishr {a b r : Int} (d : decode cc pc = .ok (.ishr, 1)) (h : iI a >>> (iI b &&& 31) = iI r) (k : J l R nb own cc nL ret D cl tys A X Qx ad N kc ks (pc + 1) lv (.int (iI r) :: st) F) : J l R nb own cc nL ret D cl tys A X Qx ad N kc ks pc lv (.int (iI b) :: .int (iI a) :: st) F := by
  intro p e s m args below meth c H locs ls hI hP hD hS hl
  have hx := hI.1
  have hb := hI.2.1
  refine lv_ishr hx hb d ?_
  rw [h]
  exact k p e s m args below meth c H locs ls hI hP hD hS hl
theorem J_iushr {a b r : Int} (d : decode cc pc = .ok (.iushr, 1)) (h : ((iI a).toUInt32 >>> ((iI b).toUInt32 &&& Int32.toUInt32 31)).toInt32 = iI r) (k : J l R nb own cc nL ret D cl tys A X Qx ad N kc ks (pc + 1) lv (.int (iI r) :: st) F) : J l R nb own cc nL ret D cl tys A X Qx ad N kc ks pc lv (.int (iI b) :: .int (iI a) :: st) F := by
  intro p e s m args below meth c H locs ls hI hP hD hS hl
  have hx := hI.1
  have hb := hI.2.1
  refine lv_iushr (v := iI r) hx hb d h ?_
  exact k p e s m args below meth c H locs ls hI hP hD hS hl
theorem J_lshl {a b r : Int} (d : decode cc pc = .ok (.lshl, 1)) (h : lI a <<< ((iI b).toInt64 &&& 63) = lI r) (k : J l R nb own cc nL ret D cl tys A X Qx ad N kc ks (pc + 1) lv (.long (lI r) :: st) F) : J l R nb own cc nL ret D cl tys A X Qx ad N kc ks pc lv (.int (iI b) :: .long (lI a) :: st) F := by
  intro p e s m args below meth c H locs ls hI hP hD hS hl
  have hx := hI.1
  have hb := hI.2.1
  refine lv_lshl (v := lI r) hx hb d h ?_
  exact k p e s m args below meth c H locs ls hI hP hD hS hl
theorem J_lshr {a b r : Int} (d : decode cc pc = .ok (.lshr, 1)) (h : lI a >>> ((iI b).toInt64 &&& 63) = lI r) (k : J l R nb own cc nL ret D cl tys A X Qx ad N kc ks (pc + 1) lv (.long (lI r) :: st) F) : J l R nb own cc nL ret D cl tys A X Qx ad N kc ks pc lv (.int (iI b) :: .long (lI a) :: st) F := by
  intro p e s m args below meth c H locs ls hI hP hD hS hl
  have hx := hI.1
  have hb := hI.2.1
  refine lv_lshr (v := lI r) hx hb d h ?_
  exact k p e s m args below meth c H locs ls hI hP hD hS hl
theorem J_lushr {a b r : Int} (d : decode cc pc = .ok (.lushr, 1)) (h : ((lI a).toUInt64 >>> ((iI b).toInt64.toUInt64 &&& Int64.toUInt64 63)).toInt64 = lI r) (k : J l R nb own cc nL ret D cl tys A X Qx ad N kc ks (pc + 1) lv (.long (lI r) :: st) F) : J l R nb own cc nL ret D cl tys A X Qx ad N kc ks pc lv (.int (iI b) :: .long (lI a) :: st) F := by
  intro p e s m args below meth c H locs ls hI hP hD hS hl
  have hx := hI.1
  have hb := hI.2.1
  refine lv_lushr (v := lI r) hx hb d h ?_
  exact k p e s m args below meth c H locs ls hI hP hD hS hl
theorem J_i2l {a : Int} (d : decode cc pc = .ok (.i2l, 1)) (ha : inI a) (k : J l R nb own cc nL ret D cl tys A X Qx ad N kc ks (pc + 1) lv (.long (lI a) :: st) F) : J l R nb own cc nL ret D cl tys A X Qx ad N kc ks pc lv (.int (iI a) :: st) F := by
  intro p e s m args below meth c H locs ls hI hP hD hS hl
  have hx := hI.1
  have hb := hI.2.1
  refine lv_i2l (v := lI a) hx hb d (iI_i2l ha) ?_
  exact k p e s m args below meth c H locs ls hI hP hD hS hl
theorem J_l2i {a : Int} (d : decode cc pc = .ok (.l2i, 1)) (k : J l R nb own cc nL ret D cl tys A X Qx ad N kc ks (pc + 1) lv (.int (iI a) :: st) F) : J l R nb own cc nL ret D cl tys A X Qx ad N kc ks pc lv (.long (lI a) :: st) F := by
  intro p e s m args below meth c H locs ls hI hP hD hS hl
  have hx := hI.1
  have hb := hI.2.1
  refine lv_l2i (v := iI a) hx hb d (iI_l2i a) ?_
  exact k p e s m args below meth c H locs ls hI hP hD hS hl
theorem J_i2c {a : Int} (d : decode cc pc = .ok (.i2c, 1)) (ha : ((iI a).toUInt32 % 65536).toInt32 = iI a) (k : J l R nb own cc nL ret D cl tys A X Qx ad N kc ks (pc + 1) lv (.int (iI a) :: st) F) : J l R nb own cc nL ret D cl tys A X Qx ad N kc ks pc lv (.int (iI a) :: st) F := by
  intro p e s m args below meth c H locs ls hI hP hD hS hl
  have hx := hI.1
  have hb := hI.2.1
  refine lv_i2c (v := iI a) hx hb d ha ?_
  exact k p e s m args below meth c H locs ls hI hP hD hS hl
theorem J_i2d {x : Int32} (d : decode cc pc = .ok (.i2d, 1)) (k : J l R nb own cc nL ret D cl tys A X Qx ad N kc ks (pc + 1) lv (.double (FP.i2d x) :: st) F) : J l R nb own cc nL ret D cl tys A X Qx ad N kc ks pc lv (.int x :: st) F := by
  intro p e s m args below meth c H locs ls hI hP hD hS hl
  have hx := hI.1
  have hb := hI.2.1
  refine lv_i2d hx hb d ?_
  exact k p e s m args below meth c H locs ls hI hP hD hS hl
theorem J_l2d {x : Int64} (d : decode cc pc = .ok (.l2d, 1)) (k : J l R nb own cc nL ret D cl tys A X Qx ad N kc ks (pc + 1) lv (.double (FP.l2d x) :: st) F) : J l R nb own cc nL ret D cl tys A X Qx ad N kc ks pc lv (.long x :: st) F := by
  intro p e s m args below meth c H locs ls hI hP hD hS hl
  have hx := hI.1
  have hb := hI.2.1
  refine lv_l2d hx hb d ?_
  exact k p e s m args below meth c H locs ls hI hP hD hS hl
theorem J_d2l {x : UInt64} (d : decode cc pc = .ok (.d2l, 1)) (k : J l R nb own cc nL ret D cl tys A X Qx ad N kc ks (pc + 1) lv (.long (FP.d2l x) :: st) F) : J l R nb own cc nL ret D cl tys A X Qx ad N kc ks pc lv (.double x :: st) F := by
  intro p e s m args below meth c H locs ls hI hP hD hS hl
  have hx := hI.1
  have hb := hI.2.1
  refine lv_d2l hx hb d ?_
  exact k p e s m args below meth c H locs ls hI hP hD hS hl
theorem J_dadd {x y r : UInt64} (d : decode cc pc = .ok (.dadd, 1)) (h : FP.dadd x y = r) (hn : vf_n64 r) (k : J l R nb own cc nL ret D cl tys A X Qx ad N kc ks (pc + 1) lv (.double r :: st) F) : J l R nb own cc nL ret D cl tys A X Qx ad N kc ks pc lv (.double y :: .double x :: st) F := by
  intro p e s m args below meth c H locs ls hI hP hD hS hl
  have hx := hI.1
  have hb := hI.2.1
  refine lv_dadd hx hb d (by rw [h]; exact hn) ?_
  rw [h]
  exact k p e s m args below meth c H locs ls hI hP hD hS hl
theorem J_dmul {x y r : UInt64} (d : decode cc pc = .ok (.dmul, 1)) (h : FP.dmul x y = r) (hn : vf_n64 r) (k : J l R nb own cc nL ret D cl tys A X Qx ad N kc ks (pc + 1) lv (.double r :: st) F) : J l R nb own cc nL ret D cl tys A X Qx ad N kc ks pc lv (.double y :: .double x :: st) F := by
  intro p e s m args below meth c H locs ls hI hP hD hS hl
  have hx := hI.1
  have hb := hI.2.1
  refine lv_dmul hx hb d (by rw [h]; exact hn) ?_
  rw [h]
  exact k p e s m args below meth c H locs ls hI hP hD hS hl
theorem J_ddiv {x y r : UInt64} (d : decode cc pc = .ok (.ddiv, 1)) (h : FP.ddiv x y = r) (hn : vf_n64 r) (k : J l R nb own cc nL ret D cl tys A X Qx ad N kc ks (pc + 1) lv (.double r :: st) F) : J l R nb own cc nL ret D cl tys A X Qx ad N kc ks pc lv (.double y :: .double x :: st) F := by
  intro p e s m args below meth c H locs ls hI hP hD hS hl
  have hx := hI.1
  have hb := hI.2.1
  refine lv_ddiv hx hb d (by rw [h]; exact hn) ?_
  rw [h]
  exact k p e s m args below meth c H locs ls hI hP hD hS hl
theorem J_dneg {x : UInt64} (d : decode cc pc = .ok (.dneg, 1)) (k : J l R nb own cc nL ret D cl tys A X Qx ad N kc ks (pc + 1) lv (.double (FP.dneg x) :: st) F) : J l R nb own cc nL ret D cl tys A X Qx ad N kc ks pc lv (.double x :: st) F := by
  intro p e s m args below meth c H locs ls hI hP hD hS hl
  have hx := hI.1
  have hb := hI.2.1
  refine lv_dneg hx hb d ?_
  exact k p e s m args below meth c H locs ls hI hP hD hS hl
theorem J_dcmp {x y : UInt64} {op : CmpOp} (d : decode cc pc = .ok (.dcmp op, 1)) (k : J l R nb own cc nL ret D cl tys A X Qx ad N kc ks (pc + 1) lv (.int (Op.cmpValue (FP.dcmp x y) op) :: st) F) : J l R nb own cc nL ret D cl tys A X Qx ad N kc ks pc lv (.double y :: .double x :: st) F := by
  intro p e s m args below meth c H locs ls hI hP hD hS hl
  have hx := hI.1
  have hb := hI.2.1
  refine lv_dcmp hx hb d ?_
  exact k p e s m args below meth c H locs ls hI hP hD hS hl
theorem J_dup {v : Value} (d : decode cc pc = .ok (.dup, 1)) (hv : v.category = 1) (k : J l R nb own cc nL ret D cl tys A X Qx ad N kc ks (pc + 1) lv (v :: v :: st) F) : J l R nb own cc nL ret D cl tys A X Qx ad N kc ks pc lv (v :: st) F := by
  intro p e s m args below meth c H locs ls hI hP hD hS hl
  have hx := hI.1
  have hb := hI.2.1
  refine lv_dup hx hb d hv ?_
  exact k p e s m args below meth c H locs ls hI hP hD hS hl
theorem J_pop {v : Value} (d : decode cc pc = .ok (.pop, 1)) (hv : v.category = 1) (k : J l R nb own cc nL ret D cl tys A X Qx ad N kc ks (pc + 1) lv st F) : J l R nb own cc nL ret D cl tys A X Qx ad N kc ks pc lv (v :: st) F := by
  intro p e s m args below meth c H locs ls hI hP hD hS hl
  have hx := hI.1
  have hb := hI.2.1
  refine lv_pop hx hb d hv ?_
  exact k p e s m args below meth c H locs ls hI hP hD hS hl
theorem J_dup2 {v w : Value} (d : decode cc pc = .ok (.dup2, 1)) (hv : v.category = 1) (hw : w.category = 1) (k : J l R nb own cc nL ret D cl tys A X Qx ad N kc ks (pc + 1) lv (v :: w :: v :: w :: st) F) : J l R nb own cc nL ret D cl tys A X Qx ad N kc ks pc lv (v :: w :: st) F := by
  intro p e s m args below meth c H locs ls hI hP hD hS hl
  have hx := hI.1
  have hb := hI.2.1
  refine lv_dup2_11 hx hb d hv hw ?_
  exact k p e s m args below meth c H locs ls hI hP hD hS hl
theorem J_topi {x : Int32} {r : Int} (h : x = iI r) (k : J l R nb own cc nL ret D cl tys A X Qx ad N kc ks pc lv (.int (iI r) :: st) F) : J l R nb own cc nL ret D cl tys A X Qx ad N kc ks pc lv (.int x :: st) F := h ▸ k
theorem J_topl {x : Int64} {r : Int} (h : x = lI r) (k : J l R nb own cc nL ret D cl tys A X Qx ad N kc ks pc lv (.long (lI r) :: st) F) : J l R nb own cc nL ret D cl tys A X Qx ad N kc ks pc lv (.long x :: st) F := h ▸ k
theorem J_topd {x y : UInt64} (h : x = y) (k : J l R nb own cc nL ret D cl tys A X Qx ad N kc ks pc lv (.double y :: st) F) : J l R nb own cc nL ret D cl tys A X Qx ad N kc ks pc lv (.double x :: st) F := h ▸ k
theorem J_lv (h : ∀ ls n, lv_has ls n lv → lv_has ls n lv') (k : J l R nb own cc nL ret D cl tys A X Qx ad N kc ks pc lv' st F) : J l R nb own cc nL ret D cl tys A X Qx ad N kc ks pc lv st F := by
  intro p e s m args below meth c H locs ls hI hP hD hS hl
  exact k p e s m args below meth c H locs ls hI hP hD hS (h ls _ hl)
theorem J_pick (is : List Nat) (h : lv_pick lv is = lv') (k : J l R nb own cc nL ret D cl tys A X Qx ad N kc ks pc lv' st F) : J l R nb own cc nL ret D cl tys A X Qx ad N kc ks pc lv st F := J_lv (fun _ _ q => lv_sub q is h) k
theorem J_eqF {F2 : Nat → va_E} (h : F = F2) (k : J l R nb own cc nL ret D cl tys A X Qx ad N kc ks pc lv st F2) : J l R nb own cc nL ret D cl tys A X Qx ad N kc ks pc lv st F := h ▸ k
theorem J_eqlv (h : lv = lv') (k : J l R nb own cc nL ret D cl tys A X Qx ad N kc ks pc lv' st F) : J l R nb own cc nL ret D cl tys A X Qx ad N kc ks pc lv st F := h ▸ k
theorem J_if_icmpeq {a b off : Int} {tgt : Nat} (d : decode cc pc = .ok (.if_icmp .eq off, 3)) (ht : (pc : Int) + off = (tgt : Int)) (ha : inI a) (hb1 : inI b) (k1 : a = b → J l R nb own cc nL ret D cl tys A X Qx ad N kc ks tgt lv st F) (k2 : a ≠ b → J l R nb own cc nL ret D cl tys A X Qx ad N kc ks (pc + 3) lv st F) : J l R nb own cc nL ret D cl tys A X Qx ad N kc ks pc lv (.int (iI b) :: .int (iI a) :: st) F := by
  intro p e s m args below meth c H locs ls hI hP hD hS hl
  refine lv_icmp_eq hI.1 hI.2.1 d ht (fun h => k1 ?_ p e s m args below meth c H locs ls hI hP hD hS hl) (fun h => k2 ?_ p e s m args below meth c H locs ls hI hP hD hS hl)
  all_goals
    first
      | (simp only [ge_iff_le, gt_iff_lt, ne_eq, iI_eq ha hb1, iI_lt ha hb1, iI_le ha hb1, iI_lt hb1 ha, iI_le hb1 ha] at h; omega)
theorem J_ifeq {a off : Int} {tgt : Nat} (d : decode cc pc = .ok (.ifCond .eq off, 3)) (ht : (pc : Int) + off = (tgt : Int)) (ha : inI a) (k1 : a = 0 → J l R nb own cc nL ret D cl tys A X Qx ad N kc ks tgt lv st F) (k2 : a ≠ 0 → J l R nb own cc nL ret D cl tys A X Qx ad N kc ks (pc + 3) lv st F) : J l R nb own cc nL ret D cl tys A X Qx ad N kc ks pc lv (.int (iI a) :: st) F := by
  intro p e s m args below meth c H locs ls hI hP hD hS hl
  have hb1 : inI 0 := ⟨by decide, by decide⟩
  refine lv_if_eq hI.1 hI.2.1 d ht (fun h => k1 ?_ p e s m args below meth c H locs ls hI hP hD hS hl) (fun h => k2 ?_ p e s m args below meth c H locs ls hI hP hD hS hl)
  all_goals
    rw [← iI_0] at h
    simp only [ge_iff_le, gt_iff_lt, ne_eq, iI_eq ha hb1, iI_lt ha hb1, iI_le ha hb1, iI_lt hb1 ha, iI_le hb1 ha] at h
    omega
theorem J_lcmpeq {a b off : Int} {tgt : Nat} (d : decode cc pc = .ok (.lcmp, 1)) (d2 : decode cc (pc + 1) = .ok (.ifCond .eq off, 3)) (ht : ((pc + 1 : Nat) : Int) + off = (tgt : Int)) (ha : inL a) (hb1 : inL b) (k1 : a = b → J l R nb own cc nL ret D cl tys A X Qx ad N kc ks tgt lv st F) (k2 : a ≠ b → J l R nb own cc nL ret D cl tys A X Qx ad N kc ks (pc + 4) lv st F) : J l R nb own cc nL ret D cl tys A X Qx ad N kc ks pc lv (.long (lI b) :: .long (lI a) :: st) F := by
  intro p e s m args below meth c H locs ls hI hP hD hS hl
  refine W.lcmp hI.1 hI.2.1 d ?_
  have e1 : lg_cmp (lI a) (lI b) = iI (if b < a then 1 else if a = b then 0 else -1) := by
    unfold lg_cmp
    simp only [gt_iff_lt, lI_lt hb1 ha, lI_eq ha hb1]
    split
    · rfl
    · split <;> rfl
  rw [e1]
  have hb2 : inI 0 := ⟨by decide, by decide⟩
  have ha2 : inI (if b < a then 1 else if a = b then 0 else -1) := by
    split
    · exact ⟨by decide, by decide⟩
    · split <;> exact ⟨by decide, by decide⟩
  refine lv_if_eq hI.1 hI.2.1 d2 ht (fun h => k1 ?_ p e s m args below meth c H locs ls hI hP hD hS hl) (fun h => k2 ?_ p e s m args below meth c H locs ls hI hP hD hS hl)
  all_goals
    rw [← iI_0] at h
    simp only [ge_iff_le, gt_iff_lt, ne_eq, iI_eq ha2 hb2, iI_lt ha2 hb2, iI_le ha2 hb2, iI_lt hb2 ha2, iI_le hb2 ha2] at h
    split at h
    · omega
    · split at h <;> omega
theorem J_if_icmpne {a b off : Int} {tgt : Nat} (d : decode cc pc = .ok (.if_icmp .ne off, 3)) (ht : (pc : Int) + off = (tgt : Int)) (ha : inI a) (hb1 : inI b) (k1 : a ≠ b → J l R nb own cc nL ret D cl tys A X Qx ad N kc ks tgt lv st F) (k2 : a = b → J l R nb own cc nL ret D cl tys A X Qx ad N kc ks (pc + 3) lv st F) : J l R nb own cc nL ret D cl tys A X Qx ad N kc ks pc lv (.int (iI b) :: .int (iI a) :: st) F := by
  intro p e s m args below meth c H locs ls hI hP hD hS hl
  refine lv_icmp_ne hI.1 hI.2.1 d ht (fun h => k1 ?_ p e s m args below meth c H locs ls hI hP hD hS hl) (fun h => k2 ?_ p e s m args below meth c H locs ls hI hP hD hS hl)
  all_goals
    first
      | (simp only [ge_iff_le, gt_iff_lt, ne_eq, iI_eq ha hb1, iI_lt ha hb1, iI_le ha hb1, iI_lt hb1 ha, iI_le hb1 ha] at h; omega)
theorem J_ifne {a off : Int} {tgt : Nat} (d : decode cc pc = .ok (.ifCond .ne off, 3)) (ht : (pc : Int) + off = (tgt : Int)) (ha : inI a) (k1 : a ≠ 0 → J l R nb own cc nL ret D cl tys A X Qx ad N kc ks tgt lv st F) (k2 : a = 0 → J l R nb own cc nL ret D cl tys A X Qx ad N kc ks (pc + 3) lv st F) : J l R nb own cc nL ret D cl tys A X Qx ad N kc ks pc lv (.int (iI a) :: st) F := by
  intro p e s m args below meth c H locs ls hI hP hD hS hl
  have hb1 : inI 0 := ⟨by decide, by decide⟩
  refine lv_if_ne hI.1 hI.2.1 d ht (fun h => k1 ?_ p e s m args below meth c H locs ls hI hP hD hS hl) (fun h => k2 ?_ p e s m args below meth c H locs ls hI hP hD hS hl)
  all_goals
    rw [← iI_0] at h
    simp only [ge_iff_le, gt_iff_lt, ne_eq, iI_eq ha hb1, iI_lt ha hb1, iI_le ha hb1, iI_lt hb1 ha, iI_le hb1 ha] at h
    omega
theorem J_lcmpne {a b off : Int} {tgt : Nat} (d : decode cc pc = .ok (.lcmp, 1)) (d2 : decode cc (pc + 1) = .ok (.ifCond .ne off, 3)) (ht : ((pc + 1 : Nat) : Int) + off = (tgt : Int)) (ha : inL a) (hb1 : inL b) (k1 : a ≠ b → J l R nb own cc nL ret D cl tys A X Qx ad N kc ks tgt lv st F) (k2 : a = b → J l R nb own cc nL ret D cl tys A X Qx ad N kc ks (pc + 4) lv st F) : J l R nb own cc nL ret D cl tys A X Qx ad N kc ks pc lv (.long (lI b) :: .long (lI a) :: st) F := by
  intro p e s m args below meth c H locs ls hI hP hD hS hl
  refine W.lcmp hI.1 hI.2.1 d ?_
  have e1 : lg_cmp (lI a) (lI b) = iI (if b < a then 1 else if a = b then 0 else -1) := by
    unfold lg_cmp
    simp only [gt_iff_lt, lI_lt hb1 ha, lI_eq ha hb1]
    split
    · rfl
    · split <;> rfl
  rw [e1]
  have hb2 : inI 0 := ⟨by decide, by decide⟩
  have ha2 : inI (if b < a then 1 else if a = b then 0 else -1) := by
    split
    · exact ⟨by decide, by decide⟩
    · split <;> exact ⟨by decide, by decide⟩
  refine lv_if_ne hI.1 hI.2.1 d2 ht (fun h => k1 ?_ p e s m args below meth c H locs ls hI hP hD hS hl) (fun h => k2 ?_ p e s m args below meth c H locs ls hI hP hD hS hl)
  all_goals
    rw [← iI_0] at h
    simp only [ge_iff_le, gt_iff_lt, ne_eq, iI_eq ha2 hb2, iI_lt ha2 hb2, iI_le ha2 hb2, iI_lt hb2 ha2, iI_le hb2 ha2] at h
    split at h
    · omega
    · split at h <;> omega
theorem J_if_icmplt {a b off : Int} {tgt : Nat} (d : decode cc pc = .ok (.if_icmp .lt off, 3)) (ht : (pc : Int) + off = (tgt : Int)) (ha : inI a) (hb1 : inI b) (k1 : a < b → J l R nb own cc nL ret D cl tys A X Qx ad N kc ks tgt lv st F) (k2 : b ≤ a → J l R nb own cc nL ret D cl tys A X Qx ad N kc ks (pc + 3) lv st F) : J l R nb own cc nL ret D cl tys A X Qx ad N kc ks pc lv (.int (iI b) :: .int (iI a) :: st) F := by
  intro p e s m args below meth c H locs ls hI hP hD hS hl
  refine lv_icmp_lt hI.1 hI.2.1 d ht (fun h => k1 ?_ p e s m args below meth c H locs ls hI hP hD hS hl) (fun h => k2 ?_ p e s m args below meth c H locs ls hI hP hD hS hl)
  all_goals
    first
      | (simp only [ge_iff_le, gt_iff_lt, ne_eq, iI_eq ha hb1, iI_lt ha hb1, iI_le ha hb1, iI_lt hb1 ha, iI_le hb1 ha] at h; omega)
theorem J_iflt {a off : Int} {tgt : Nat} (d : decode cc pc = .ok (.ifCond .lt off, 3)) (ht : (pc : Int) + off = (tgt : Int)) (ha : inI a) (k1 : a < 0 → J l R nb own cc nL ret D cl tys A X Qx ad N kc ks tgt lv st F) (k2 : 0 ≤ a → J l R nb own cc nL ret D cl tys A X Qx ad N kc ks (pc + 3) lv st F) : J l R nb own cc nL ret D cl tys A X Qx ad N kc ks pc lv (.int (iI a) :: st) F := by
  intro p e s m args below meth c H locs ls hI hP hD hS hl
  have hb1 : inI 0 := ⟨by decide, by decide⟩
  refine lv_if_lt hI.1 hI.2.1 d ht (fun h => k1 ?_ p e s m args below meth c H locs ls hI hP hD hS hl) (fun h => k2 ?_ p e s m args below meth c H locs ls hI hP hD hS hl)
  all_goals
    rw [← iI_0] at h
    simp only [ge_iff_le, gt_iff_lt, ne_eq, iI_eq ha hb1, iI_lt ha hb1, iI_le ha hb1, iI_lt hb1 ha, iI_le hb1 ha] at h
    omega
theorem J_lcmplt {a b off : Int} {tgt : Nat} (d : decode cc pc = .ok (.lcmp, 1)) (d2 : decode cc (pc + 1) = .ok (.ifCond .lt off, 3)) (ht : ((pc + 1 : Nat) : Int) + off = (tgt : Int)) (ha : inL a) (hb1 : inL b) (k1 : a < b → J l R nb own cc nL ret D cl tys A X Qx ad N kc ks tgt lv st F) (k2 : b ≤ a → J l R nb own cc nL ret D cl tys A X Qx ad N kc ks (pc + 4) lv st F) : J l R nb own cc nL ret D cl tys A X Qx ad N kc ks pc lv (.long (lI b) :: .long (lI a) :: st) F := by
  intro p e s m args below meth c H locs ls hI hP hD hS hl
  refine W.lcmp hI.1 hI.2.1 d ?_
  have e1 : lg_cmp (lI a) (lI b) = iI (if b < a then 1 else if a = b then 0 else -1) := by
    unfold lg_cmp
    simp only [gt_iff_lt, lI_lt hb1 ha, lI_eq ha hb1]
    split
    · rfl
    · split <;> rfl
  rw [e1]
  have hb2 : inI 0 := ⟨by decide, by decide⟩
  have ha2 : inI (if b < a then 1 else if a = b then 0 else -1) := by
    split
    · exact ⟨by decide, by decide⟩
    · split <;> exact ⟨by decide, by decide⟩
  refine lv_if_lt hI.1 hI.2.1 d2 ht (fun h => k1 ?_ p e s m args below meth c H locs ls hI hP hD hS hl) (fun h => k2 ?_ p e s m args below meth c H locs ls hI hP hD hS hl)
  all_goals
    rw [← iI_0] at h
    simp only [ge_iff_le, gt_iff_lt, ne_eq, iI_eq ha2 hb2, iI_lt ha2 hb2, iI_le ha2 hb2, iI_lt hb2 ha2, iI_le hb2 ha2] at h
    split at h
    · omega
    · split at h <;> omega
theorem J_if_icmpge {a b off : Int} {tgt : Nat} (d : decode cc pc = .ok (.if_icmp .ge off, 3)) (ht : (pc : Int) + off = (tgt : Int)) (ha : inI a) (hb1 : inI b) (k1 : b ≤ a → J l R nb own cc nL ret D cl tys A X Qx ad N kc ks tgt lv st F) (k2 : a < b → J l R nb own cc nL ret D cl tys A X Qx ad N kc ks (pc + 3) lv st F) : J l R nb own cc nL ret D cl tys A X Qx ad N kc ks pc lv (.int (iI b) :: .int (iI a) :: st) F := by
  intro p e s m args below meth c H locs ls hI hP hD hS hl
  refine lv_icmp_ge hI.1 hI.2.1 d ht (fun h => k1 ?_ p e s m args below meth c H locs ls hI hP hD hS hl) (fun h => k2 ?_ p e s m args below meth c H locs ls hI hP hD hS hl)
  all_goals
    first
      | (simp only [ge_iff_le, gt_iff_lt, ne_eq, iI_eq ha hb1, iI_lt ha hb1, iI_le ha hb1, iI_lt hb1 ha, iI_le hb1 ha] at h; omega)
theorem J_ifge {a off : Int} {tgt : Nat} (d : decode cc pc = .ok (.ifCond .ge off, 3)) (ht : (pc : Int) + off = (tgt : Int)) (ha : inI a) (k1 : 0 ≤ a → J l R nb own cc nL ret D cl tys A X Qx ad N kc ks tgt lv st F) (k2 : a < 0 → J l R nb own cc nL ret D cl tys A X Qx ad N kc ks (pc + 3) lv st F) : J l R nb own cc nL ret D cl tys A X Qx ad N kc ks pc lv (.int (iI a) :: st) F := by
  intro p e s m args below meth c H locs ls hI hP hD hS hl
  have hb1 : inI 0 := ⟨by decide, by decide⟩
  refine lv_if_ge hI.1 hI.2.1 d ht (fun h => k1 ?_ p e s m args below meth c H locs ls hI hP hD hS hl) (fun h => k2 ?_ p e s m args below meth c H locs ls hI hP hD hS hl)
  all_goals
    rw [← iI_0] at h
    simp only [ge_iff_le, gt_iff_lt, ne_eq, iI_eq ha hb1, iI_lt ha hb1, iI_le ha hb1, iI_lt hb1 ha, iI_le hb1 ha] at h
    omega
theorem J_lcmpge {a b off : Int} {tgt : Nat} (d : decode cc pc = .ok (.lcmp, 1)) (d2 : decode cc (pc + 1) = .ok (.ifCond .ge off, 3)) (ht : ((pc + 1 : Nat) : Int) + off = (tgt : Int)) (ha : inL a) (hb1 : inL b) (k1 : b ≤ a → J l R nb own cc nL ret D cl tys A X Qx ad N kc ks tgt lv st F) (k2 : a < b → J l R nb own cc nL ret D cl tys A X Qx ad N kc ks (pc + 4) lv st F) : J l R nb own cc nL ret D cl tys A X Qx ad N kc ks pc lv (.long (lI b) :: .long (lI a) :: st) F := by
  intro p e s m args below meth c H locs ls hI hP hD hS hl
  refine W.lcmp hI.1 hI.2.1 d ?_
  have e1 : lg_cmp (lI a) (lI b) = iI (if b < a then 1 else if a = b then 0 else -1) := by
    unfold lg_cmp
    simp only [gt_iff_lt, lI_lt hb1 ha, lI_eq ha hb1]
    split
    · rfl
    · split <;> rfl
  rw [e1]
  have hb2 : inI 0 := ⟨by decide, by decide⟩
  have ha2 : inI (if b < a then 1 else if a = b then 0 else -1) := by
    split
    · exact ⟨by decide, by decide⟩
    · split <;> exact ⟨by decide, by decide⟩
  refine lv_if_ge hI.1 hI.2.1 d2 ht (fun h => k1 ?_ p e s m args below meth c H locs ls hI hP hD hS hl) (fun h => k2 ?_ p e s m args below meth c H locs ls hI hP hD hS hl)
  all_goals
    rw [← iI_0] at h
    simp only [ge_iff_le, gt_iff_lt, ne_eq, iI_eq ha2 hb2, iI_lt ha2 hb2, iI_le ha2 hb2, iI_lt hb2 ha2, iI_le hb2 ha2] at h
    split at h
    · omega
    · split at h <;> omega
theorem J_if_icmpgt {a b off : Int} {tgt : Nat} (d : decode cc pc = .ok (.if_icmp .gt off, 3)) (ht : (pc : Int) + off = (tgt : Int)) (ha : inI a) (hb1 : inI b) (k1 : b < a → J l R nb own cc nL ret D cl tys A X Qx ad N kc ks tgt lv st F) (k2 : a ≤ b → J l R nb own cc nL ret D cl tys A X Qx ad N kc ks (pc + 3) lv st F) : J l R nb own cc nL ret D cl tys A X Qx ad N kc ks pc lv (.int (iI b) :: .int (iI a) :: st) F := by
  intro p e s m args below meth c H locs ls hI hP hD hS hl
  refine lv_icmp_gt hI.1 hI.2.1 d ht (fun h => k1 ?_ p e s m args below meth c H locs ls hI hP hD hS hl) (fun h => k2 ?_ p e s m args below meth c H locs ls hI hP hD hS hl)
  all_goals
    first
      | (simp only [ge_iff_le, gt_iff_lt, ne_eq, iI_eq ha hb1, iI_lt ha hb1, iI_le ha hb1, iI_lt hb1 ha, iI_le hb1 ha] at h; omega)
theorem J_ifgt {a off : Int} {tgt : Nat} (d : decode cc pc = .ok (.ifCond .gt off, 3)) (ht : (pc : Int) + off = (tgt : Int)) (ha : inI a) (k1 : 0 < a → J l R nb own cc nL ret D cl tys A X Qx ad N kc ks tgt lv st F) (k2 : a ≤ 0 → J l R nb own cc nL ret D cl tys A X Qx ad N kc ks (pc + 3) lv st F) : J l R nb own cc nL ret D cl tys A X Qx ad N kc ks pc lv (.int (iI a) :: st) F := by
  intro p e s m args below meth c H locs ls hI hP hD hS hl
  have hb1 : inI 0 := ⟨by decide, by decide⟩
  refine lv_if_gt hI.1 hI.2.1 d ht (fun h => k1 ?_ p e s m args below meth c H locs ls hI hP hD hS hl) (fun h => k2 ?_ p e s m args below meth c H locs ls hI hP hD hS hl)
  all_goals
    rw [← iI_0] at h
    simp only [ge_iff_le, gt_iff_lt, ne_eq, iI_eq ha hb1, iI_lt ha hb1, iI_le ha hb1, iI_lt hb1 ha, iI_le hb1 ha] at h
    omega
theorem J_lcmpgt {a b off : Int} {tgt : Nat} (d : decode cc pc = .ok (.lcmp, 1)) (d2 : decode cc (pc + 1) = .ok (.ifCond .gt off, 3)) (ht : ((pc + 1 : Nat) : Int) + off = (tgt : Int)) (ha : inL a) (hb1 : inL b) (k1 : b < a → J l R nb own cc nL ret D cl tys A X Qx ad N kc ks tgt lv st F) (k2 : a ≤ b → J l R nb own cc nL ret D cl tys A X Qx ad N kc ks (pc + 4) lv st F) : J l R nb own cc nL ret D cl tys A X Qx ad N kc ks pc lv (.long (lI b) :: .long (lI a) :: st) F := by
  intro p e s m args below meth c H locs ls hI hP hD hS hl
  refine W.lcmp hI.1 hI.2.1 d ?_
  have e1 : lg_cmp (lI a) (lI b) = iI (if b < a then 1 else if a = b then 0 else -1) := by
    unfold lg_cmp
    simp only [gt_iff_lt, lI_lt hb1 ha, lI_eq ha hb1]
    split
    · rfl
    · split <;> rfl
  rw [e1]
  have hb2 : inI 0 := ⟨by decide, by decide⟩
  have ha2 : inI (if b < a then 1 else if a = b then 0 else -1) := by
    split
    · exact ⟨by decide, by decide⟩
    · split <;> exact ⟨by decide, by decide⟩
  refine lv_if_gt hI.1 hI.2.1 d2 ht (fun h => k1 ?_ p e s m args below meth c H locs ls hI hP hD hS hl) (fun h => k2 ?_ p e s m args below meth c H locs ls hI hP hD hS hl)
  all_goals
    rw [← iI_0] at h
    simp only [ge_iff_le, gt_iff_lt, ne_eq, iI_eq ha2 hb2, iI_lt ha2 hb2, iI_le ha2 hb2, iI_lt hb2 ha2, iI_le hb2 ha2] at h
    split at h
    · omega
    · split at h <;> omega
theorem J_if_icmple {a b off : Int} {tgt : Nat} (d : decode cc pc = .ok (.if_icmp .le off, 3)) (ht : (pc : Int) + off = (tgt : Int)) (ha : inI a) (hb1 : inI b) (k1 : a ≤ b → J l R nb own cc nL ret D cl tys A X Qx ad N kc ks tgt lv st F) (k2 : b < a → J l R nb own cc nL ret D cl tys A X Qx ad N kc ks (pc + 3) lv st F) : J l R nb own cc nL ret D cl tys A X Qx ad N kc ks pc lv (.int (iI b) :: .int (iI a) :: st) F := by
  intro p e s m args below meth c H locs ls hI hP hD hS hl
  refine lv_icmp_le hI.1 hI.2.1 d ht (fun h => k1 ?_ p e s m args below meth c H locs ls hI hP hD hS hl) (fun h => k2 ?_ p e s m args below meth c H locs ls hI hP hD hS hl)
  all_goals
    first
      | (simp only [ge_iff_le, gt_iff_lt, ne_eq, iI_eq ha hb1, iI_lt ha hb1, iI_le ha hb1, iI_lt hb1 ha, iI_le hb1 ha] at h; omega)
theorem J_ifle {a off : Int} {tgt : Nat} (d : decode cc pc = .ok (.ifCond .le off, 3)) (ht : (pc : Int) + off = (tgt : Int)) (ha : inI a) (k1 : a ≤ 0 → J l R nb own cc nL ret D cl tys A X Qx ad N kc ks tgt lv st F) (k2 : 0 < a → J l R nb own cc nL ret D cl tys A X Qx ad N kc ks (pc + 3) lv st F) : J l R nb own cc nL ret D cl tys A X Qx ad N kc ks pc lv (.int (iI a) :: st) F := by
  intro p e s m args below meth c H locs ls hI hP hD hS hl
  have hb1 : inI 0 := ⟨by decide, by decide⟩
  refine lv_if_le hI.1 hI.2.1 d ht (fun h => k1 ?_ p e s m args below meth c H locs ls hI hP hD hS hl) (fun h => k2 ?_ p e s m args below meth c H locs ls hI hP hD hS hl)
  all_goals
    rw [← iI_0] at h
    simp only [ge_iff_le, gt_iff_lt, ne_eq, iI_eq ha hb1, iI_lt ha hb1, iI_le ha hb1, iI_lt hb1 ha, iI_le hb1 ha] at h
    omega
theorem J_lcmple {a b off : Int} {tgt : Nat} (d : decode cc pc = .ok (.lcmp, 1)) (d2 : decode cc (pc + 1) = .ok (.ifCond .le off, 3)) (ht : ((pc + 1 : Nat) : Int) + off = (tgt : Int)) (ha : inL a) (hb1 : inL b) (k1 : a ≤ b → J l R nb own cc nL ret D cl tys A X Qx ad N kc ks tgt lv st F) (k2 : b < a → J l R nb own cc nL ret D cl tys A X Qx ad N kc ks (pc + 4) lv st F) : J l R nb own cc nL ret D cl tys A X Qx ad N kc ks pc lv (.long (lI b) :: .long (lI a) :: st) F := by
  intro p e s m args below meth c H locs ls hI hP hD hS hl
  refine W.lcmp hI.1 hI.2.1 d ?_
  have e1 : lg_cmp (lI a) (lI b) = iI (if b < a then 1 else if a = b then 0 else -1) := by
    unfold lg_cmp
    simp only [gt_iff_lt, lI_lt hb1 ha, lI_eq ha hb1]
    split
    · rfl
    · split <;> rfl
  rw [e1]
  have hb2 : inI 0 := ⟨by decide, by decide⟩
  have ha2 : inI (if b < a then 1 else if a = b then 0 else -1) := by
    split
    · exact ⟨by decide, by decide⟩
    · split <;> exact ⟨by decide, by decide⟩
  refine lv_if_le hI.1 hI.2.1 d2 ht (fun h => k1 ?_ p e s m args below meth c H locs ls hI hP hD hS hl) (fun h => k2 ?_ p e s m args below meth c H locs ls hI hP hD hS hl)
  all_goals
    rw [← iI_0] at h
    simp only [ge_iff_le, gt_iff_lt, ne_eq, iI_eq ha2 hb2, iI_lt ha2 hb2, iI_le ha2 hb2, iI_lt hb2 ha2, iI_le hb2 ha2] at h
    split at h
    · omega
    · split at h <;> omega
theorem J_rifeq {x : Int32} {off : Int} {tgt : Nat} (d : decode cc pc = .ok (.ifCond .eq off, 3)) (ht : (pc : Int) + off = (tgt : Int)) (k1 : x = 0 → J l R nb own cc nL ret D cl tys A X Qx ad N kc ks tgt lv st F) (k2 : ¬ x = 0 → J l R nb own cc nL ret D cl tys A X Qx ad N kc ks (pc + 3) lv st F) : J l R nb own cc nL ret D cl tys A X Qx ad N kc ks pc lv (.int x :: st) F := by
  intro p e s m args below meth c H locs ls hI hP hD hS hl
  exact lv_if_eq hI.1 hI.2.1 d ht (fun h => k1 h p e s m args below meth c H locs ls hI hP hD hS hl) (fun h => k2 h p e s m args below meth c H locs ls hI hP hD hS hl)
theorem J_rifne {x : Int32} {off : Int} {tgt : Nat} (d : decode cc pc = .ok (.ifCond .ne off, 3)) (ht : (pc : Int) + off = (tgt : Int)) (k1 : x ≠ 0 → J l R nb own cc nL ret D cl tys A X Qx ad N kc ks tgt lv st F) (k2 : x = 0 → J l R nb own cc nL ret D cl tys A X Qx ad N kc ks (pc + 3) lv st F) : J l R nb own cc nL ret D cl tys A X Qx ad N kc ks pc lv (.int x :: st) F := by
  intro p e s m args below meth c H locs ls hI hP hD hS hl
  exact lv_if_ne hI.1 hI.2.1 d ht (fun h => k1 h p e s m args below meth c H locs ls hI hP hD hS hl) (fun h => k2 h p e s m args below meth c H locs ls hI hP hD hS hl)
theorem J_riflt {x : Int32} {off : Int} {tgt : Nat} (d : decode cc pc = .ok (.ifCond .lt off, 3)) (ht : (pc : Int) + off = (tgt : Int)) (k1 : x < 0 → J l R nb own cc nL ret D cl tys A X Qx ad N kc ks tgt lv st F) (k2 : ¬ x < 0 → J l R nb own cc nL ret D cl tys A X Qx ad N kc ks (pc + 3) lv st F) : J l R nb own cc nL ret D cl tys A X Qx ad N kc ks pc lv (.int x :: st) F := by
  intro p e s m args below meth c H locs ls hI hP hD hS hl
  exact lv_if_lt hI.1 hI.2.1 d ht (fun h => k1 h p e s m args below meth c H locs ls hI hP hD hS hl) (fun h => k2 h p e s m args below meth c H locs ls hI hP hD hS hl)
theorem J_rifge {x : Int32} {off : Int} {tgt : Nat} (d : decode cc pc = .ok (.ifCond .ge off, 3)) (ht : (pc : Int) + off = (tgt : Int)) (k1 : 0 ≤ x → J l R nb own cc nL ret D cl tys A X Qx ad N kc ks tgt lv st F) (k2 : ¬ 0 ≤ x → J l R nb own cc nL ret D cl tys A X Qx ad N kc ks (pc + 3) lv st F) : J l R nb own cc nL ret D cl tys A X Qx ad N kc ks pc lv (.int x :: st) F := by
  intro p e s m args below meth c H locs ls hI hP hD hS hl
  exact lv_if_ge hI.1 hI.2.1 d ht (fun h => k1 h p e s m args below meth c H locs ls hI hP hD hS hl) (fun h => k2 h p e s m args below meth c H locs ls hI hP hD hS hl)
theorem J_rifgt {x : Int32} {off : Int} {tgt : Nat} (d : decode cc pc = .ok (.ifCond .gt off, 3)) (ht : (pc : Int) + off = (tgt : Int)) (k1 : 0 < x → J l R nb own cc nL ret D cl tys A X Qx ad N kc ks tgt lv st F) (k2 : ¬ 0 < x → J l R nb own cc nL ret D cl tys A X Qx ad N kc ks (pc + 3) lv st F) : J l R nb own cc nL ret D cl tys A X Qx ad N kc ks pc lv (.int x :: st) F := by
  intro p e s m args below meth c H locs ls hI hP hD hS hl
  exact lv_if_gt hI.1 hI.2.1 d ht (fun h => k1 h p e s m args below meth c H locs ls hI hP hD hS hl) (fun h => k2 h p e s m args below meth c H locs ls hI hP hD hS hl)
theorem J_rifle {x : Int32} {off : Int} {tgt : Nat} (d : decode cc pc = .ok (.ifCond .le off, 3)) (ht : (pc : Int) + off = (tgt : Int)) (k1 : x ≤ 0 → J l R nb own cc nL ret D cl tys A X Qx ad N kc ks tgt lv st F) (k2 : ¬ x ≤ 0 → J l R nb own cc nL ret D cl tys A X Qx ad N kc ks (pc + 3) lv st F) : J l R nb own cc nL ret D cl tys A X Qx ad N kc ks pc lv (.int x :: st) F := by
  intro p e s m args below meth c H locs ls hI hP hD hS hl
  exact lv_if_le hI.1 hI.2.1 d ht (fun h => k1 h p e s m args below meth c H locs ls hI hP hD hS hl) (fun h => k2 h p e s m args below meth c H locs ls hI hP hD hS hl)
theorem J_goto {off : Int} {tgt : Nat} (d : decode cc pc = .ok (.goto off, 3)) (ht : (pc : Int) + off = (tgt : Int)) (k : J l R nb own cc nL ret D cl tys A X Qx ad N kc ks tgt lv st F) : J l R nb own cc nL ret D cl tys A X Qx ad N kc ks pc lv st F := by
  intro p e s m args below meth c H locs ls hI hP hD hS hl
  exact lv_goto hI.1 hI.2.1 d ht (k p e s m args below meth c H locs ls hI hP hD hS hl)
theorem J_lookup {dflt : Int} {ps : Array (Int × Int)} {len : Nat} {a off : Int} {tgt : Nat} (d : decode cc pc = .ok (.lookupswitch dflt ps, len)) (hp : (ps.toList.zip (ps.toList.drop 1)).all (fun (a, next) => a.1 < next.1) = true) (ha : inI a) (ho : Op.lookupswitch.offset ps.toList dflt a = off) (ht : (pc : Int) + off = (tgt : Int)) (k : J l R nb own cc nL ret D cl tys A X Qx ad N kc ks tgt lv st F) : J l R nb own cc nL ret D cl tys A X Qx ad N kc ks pc lv (.int (iI a) :: st) F := by
  intro p e s m args below meth c H locs ls hI hP hD hS hl
  exact lv_lookup hI.1 hI.2.1 d hp (by rw [iI_toInt ha]; exact ho) ht (k p e s m args below meth c H locs ls hI hP hD hS hl)
theorem J_tableOut {dflt lo hi : Int} {offs : Array Int} {len : Nat} {a : Int} {tgt : Nat} (d : decode cc pc = .ok (.tableswitch dflt lo hi offs, len)) (ha : inI a) (h : a < lo ∨ hi < a) (ht : (pc : Int) + dflt = (tgt : Int)) (k : J l R nb own cc nL ret D cl tys A X Qx ad N kc ks tgt lv st F) : J l R nb own cc nL ret D cl tys A X Qx ad N kc ks pc lv (.int (iI a) :: st) F := by
  intro p e s m args below meth c H locs ls hI hP hD hS hl
  exact lv_tableOut hI.1 hI.2.1 d (by rw [iI_toInt ha]; exact h) ht (k p e s m args below meth c H locs ls hI hP hD hS hl)
theorem J_tableIn {dflt lo hi : Int} {offs : Array Int} {len : Nat} {a off : Int} {tgt : Nat} (d : decode cc pc = .ok (.tableswitch dflt lo hi offs, len)) (ha : inI a) (h1 : lo ≤ a) (h2 : a ≤ hi) (ho : offs[(a - lo).toNat]? = some off) (ht : (pc : Int) + off = (tgt : Int)) (k : J l R nb own cc nL ret D cl tys A X Qx ad N kc ks tgt lv st F) : J l R nb own cc nL ret D cl tys A X Qx ad N kc ks pc lv (.int (iI a) :: st) F := by
  intro p e s m args below meth c H locs ls hI hP hD hS hl
  exact lv_tableIn hI.1 hI.2.1 d (by rw [iI_toInt ha]; omega) (by rw [iI_toInt ha]; omega) (by rw [iI_toInt ha]; exact ho) ht (k p e s m args below meth c H locs ls hI hP hD hS hl)
theorem J_get {C : String} {T : u_T} {n ci idx : Nat} {ref : String} {fs : List Value} {v : Value} {k : Nat} (hin : ∀ w ∈ u_ws C T n, w ∈ jALL) (hc : cl[ci]? = some (C, T, n)) (j : Nat) (hj : j < n) (hw : Cond.fieldLink own idx ref (T j).2.1 (T j).2.2.1 ∈ jALL) (hr : ref = (T j).1) (hk : k < N) (hF : F k = .inr (ci, fs)) (hv : fs[j]? = some v) (d : decode cc pc = .ok (.getfield idx, 3)) (kk : J l R nb own cc nL ret D cl tys A X Qx ad N kc ks (pc + 3) lv (v :: st) F) : J l R nb own cc nL ret D cl tys A X Qx ad N kc ks pc lv (.ref (ad k) :: st) F := by
  intro p e s m args below meth c H locs ls hI hP hD hS hl
  subst hr
  obtain ⟨hx, hb, -, -, hown, hts, -, -, -, hK, -⟩ := id hI
  exact va_get (D := D) (ci := ci) (v := v) (C := C) (T := T) (N := n) hx hb hts hin hown hK hP k (by rw [jwl_get hk, hF]) hc j hj (hts _ hw) (fun _ h9 => h9) hv d (kk p e s m args below meth c H locs ls hI hP hD hS hl)
theorem J_put {C : String} {T : u_T} {n ci idx : Nat} {ref : String} {fs : List Value} {v : Value} {ty : FieldType} {k : Nat} (hin : ∀ w ∈ u_ws C T n, w ∈ jALL) (ty0 : Nat → FieldType) (hty : ∀ k, k < n → parseFieldDescriptor (T k).2.2.1 = some (ty0 k)) (hnm : ∀ a, a < n → ∀ b, b < n → a ≠ b → (T a).2.1 ≠ (T b).2.1) (hc : cl[ci]? = some (C, T, n)) (j : Nat) (hj : j < n) (hw : Cond.fieldLink own idx ref (T j).2.1 (T j).2.2.1 ∈ jALL) (hr : ref = (T j).1) (hfin : (T j).2.2.2 = false) (htj : parseFieldDescriptor (T j).2.2.1 = some ty) (hk : k < N) (hF : F k = .inr (ci, fs)) (hl0 : j < fs.length) (hn : narrow ty v = v) (hfit : fits ty v = true) (d : decode cc pc = .ok (.putfield idx, 3)) (kk : J l R nb own cc nL ret D cl tys A X Qx ad N kc ks (pc + 3) lv st (va_up F k (.inr (ci, fs.set j v)))) : J l R nb own cc nL ret D cl tys A X Qx ad N kc ks pc lv (v :: .ref (ad k) :: st) F := by
  intro p e s m args below meth c H locs ls hI hP hD hS hl
  subst hr
  obtain ⟨hx, hb, -, -, hown, hts, -, -, -, hK, -⟩ := id hI
  refine va_put (D := D) (ci := ci) (v := v) (ty := ty) (C := C) (T := T) (N := n) hx hb hts hin ty0 hty hnm hown hK hP hD hS k (by rw [jwl_get hk, hF]) hc j hj (hts _ hw) (fun _ h9 => h9) hfin htj hn hfit hl0 d (fun H1 locs1 hP1 hD1 hS1 => ?_)
  rw [jwl_set hk] at hP1 hD1
  exact kk p e s m args below meth c H1 locs1 ls hI hP1 hD1 hS1 hl
theorem J_putF {C : String} {T : u_T} {n ci idx : Nat} {ref : String} {fs : List Value} {v : Value} {ty : FieldType} {k : Nat} (hin : ∀ w ∈ u_ws C T n, w ∈ jALL) (ty0 : Nat → FieldType) (hty : ∀ k, k < n → parseFieldDescriptor (T k).2.2.1 = some (ty0 k)) (hnm : ∀ a, a < n → ∀ b, b < n → a ≠ b → (T a).2.1 ≠ (T b).2.1) (hc : cl[ci]? = some (C, T, n)) (j : Nat) (hj : j < n) (hw : Cond.fieldLink own idx ref (T j).2.1 (T j).2.2.1 ∈ jALL) (hr : ref = (T j).1) (hfin : (T j).2.2.2 = true) (hown : own = (T j).1) (hini : ∀ s me, X s me → me.name = "<init>") (htj : parseFieldDescriptor (T j).2.2.1 = some ty) (hk : k < N) (hF : F k = .inr (ci, fs)) (hl0 : j < fs.length) (hn : narrow ty v = v) (hfit : fits ty v = true) (d : decode cc pc = .ok (.putfield idx, 3)) (kk : J l R nb own cc nL ret D cl tys A X Qx ad N kc ks (pc + 3) lv st (va_up F k (.inr (ci, fs.set j v)))) : J l R nb own cc nL ret D cl tys A X Qx ad N kc ks pc lv (v :: .ref (ad k) :: st) F := by
  intro p e s m args below meth c H locs ls hI hP hD hS hl
  subst hr
  obtain ⟨hx, hb, -, -, hown0, hts, -, -, -, hK, -, -, hX, -⟩ := id hI
  refine va_putF (D := D) (ci := ci) (v := v) (ty := ty) (C := C) (T := T) (N := n) hx hb hts hin ty0 hty hnm hown0 hK hP hD hS k (by rw [jwl_get hk, hF]) hc j hj (hts _ hw) (fun _ h9 => h9) hfin (hini _ _ hX) hown.symm htj hn hfit hl0 d (fun H1 locs1 hP1 hD1 hS1 => ?_)
  rw [jwl_set hk] at hP1 hD1
  exact kk p e s m args below meth c H1 locs1 ls hI hP1 hD1 hS1 hl
theorem J_new {C : String} {T : u_T} {n ci idx : Nat} {fs : List Value} (hin : ∀ w ∈ u_ws C T n, w ∈ jALL) (ty0 : Nat → FieldType) (hty : ∀ k, k < n → parseFieldDescriptor (T k).2.2.1 = some (ty0 k)) (hc : cl[ci]? = some (C, T, n)) (w0 : Cond.classLink own idx C ∈ jALL) (w1 : Cond.instantiable C n ∈ jALL) (w2 : Cond.initialized C ∈ jALL) (hfs : ∀ j, j < n → defaultValue (ty0 j) = vp_V fs j) (hroom : kc + 1 ≤ R.cells ∧ ks + n ≤ R.slots) (d : decode cc pc = .ok (.new idx, 3)) (kk : ∀ ad2 : Nat → Nat, (∀ k, k < N → ad2 k = ad k) → J l R nb own cc nL ret D cl tys A X Qx ad2 (N + 1) (kc + 1) (ks + n) (pc + 3) lv (.ref (ad2 N) :: st) (va_up F N (.inr (ci, fs)))) : J l R nb own cc nL ret D cl tys A X Qx ad N kc ks pc lv st F := by
  intro p e s m args below meth c H locs ls hI hP hD hS hl
  obtain ⟨hx, hb, -, -, hown0, hts, -, -, -, hK, hA, -, hX, -⟩ := id hI
  refine va_new (D := D) (ci := ci) (fs := fs) (C := C) (T := T) (N := n) hx hb hts hin ty0 hty hown0 (hts _ w0) (hts _ w1) (hts _ w2) hK hP hD hS hA hc hfs hroom.1 hroom.2 d (fun q H1 hP1 hD1 hS1 => ?_)
  rw [jwl_push] at hP1 hD1
  have e : (va_up ad N q) N = q := va_up_self _ _ _
  have h2 := kk (va_up ad N q) (fun k h => va_up_ne _ _ (Nat.ne_of_lt h)) p _ s m args below meth c H1 locs ls hI hP1 hD1 hS1 hl
  rw [e] at h2
  exact h2
theorem J_iaload {k n : Nat} {i : Int} {cA : ClassId} {h : Nat → Int} (t0 : Nat) (ht : tys[t0]? = some (cA, .int)) (hk : k < N) (hF : F k = .inl (cA, n, .inl (aI h))) (hi : 0 ≤ i ∧ i < n ∧ i ≤ 2147483647) (d : decode cc pc = .ok (.iaload, 1)) (kk : J l R nb own cc nL ret D cl tys A X Qx ad N kc ks (pc + 1) lv (.int (iI (h i.toNat)) :: st) F) : J l R nb own cc nL ret D cl tys A X Qx ad N kc ks pc lv (.int (iI i) :: .ref (ad k) :: st) F := by
  intro p e s m args below meth c H locs ls hI hP hD hS hl
  obtain ⟨hx, hb, -, -, -, -, -, -, -, hK, -⟩ := id hI
  have hin : vp_in (iI i) n := (iI_in ⟨by omega, hi.2.2⟩).mpr ⟨hi.1, hi.2.1⟩
  refine va_iald hx hb hK hP k t0 (by rw [jwl_get hk, hF]) ht hin d ?_
  rw [iI_clamp ⟨by omega, hi.2.2⟩ hi.1]
  exact kk p e s m args below meth c H locs ls hI hP hD hS hl
theorem J_caload {k n : Nat} {i : Int} {cA : ClassId} {h : Nat → Int} (t0 : Nat) (ht : tys[t0]? = some (cA, .char)) (hk : k < N) (hF : F k = .inl (cA, n, .inl (aI h))) (hi : 0 ≤ i ∧ i < n ∧ i ≤ 2147483647) (d : decode cc pc = .ok (.caload, 1)) (kk : J l R nb own cc nL ret D cl tys A X Qx ad N kc ks (pc + 1) lv (.int (iI (h i.toNat)) :: st) F) : J l R nb own cc nL ret D cl tys A X Qx ad N kc ks pc lv (.int (iI i) :: .ref (ad k) :: st) F := by
  intro p e s m args below meth c H locs ls hI hP hD hS hl
  obtain ⟨hx, hb, -, -, -, -, -, -, -, hK, -⟩ := id hI
  have hin : vp_in (iI i) n := (iI_in ⟨by omega, hi.2.2⟩).mpr ⟨hi.1, hi.2.1⟩
  refine va_cald hx hb hK hP k t0 (by rw [jwl_get hk, hF]) ht hin d ?_
  rw [iI_clamp ⟨by omega, hi.2.2⟩ hi.1]
  exact kk p e s m args below meth c H locs ls hI hP hD hS hl
theorem J_zaload {k n : Nat} {i : Int} {cA : ClassId} {h : Nat → Int} (t0 : Nat) (ht : tys[t0]? = some (cA, .boolean)) (hk : k < N) (hF : F k = .inl (cA, n, .inl (aI h))) (hi : 0 ≤ i ∧ i < n ∧ i ≤ 2147483647) (d : decode cc pc = .ok (.baload, 1)) (kk : J l R nb own cc nL ret D cl tys A X Qx ad N kc ks (pc + 1) lv (.int (iI (h i.toNat)) :: st) F) : J l R nb own cc nL ret D cl tys A X Qx ad N kc ks pc lv (.int (iI i) :: .ref (ad k) :: st) F := by
  intro p e s m args below meth c H locs ls hI hP hD hS hl
  obtain ⟨hx, hb, -, -, -, -, -, -, -, hK, -⟩ := id hI
  have hin : vp_in (iI i) n := (iI_in ⟨by omega, hi.2.2⟩).mpr ⟨hi.1, hi.2.1⟩
  refine va_zald hx hb hK hP k t0 (by rw [jwl_get hk, hF]) ht hin d ?_
  rw [iI_clamp ⟨by omega, hi.2.2⟩ hi.1]
  exact kk p e s m args below meth c H locs ls hI hP hD hS hl
theorem J_laload {k n : Nat} {i : Int} {cA : ClassId} {h : Nat → Int64} (t0 : Nat) (ht : tys[t0]? = some (cA, .long)) (hk : k < N) (hF : F k = .inl (cA, n, .inr (.inl h))) (hi : 0 ≤ i ∧ i < n ∧ i ≤ 2147483647) (d : decode cc pc = .ok (.laload, 1)) (kk : J l R nb own cc nL ret D cl tys A X Qx ad N kc ks (pc + 1) lv (.long (h i.toNat) :: st) F) : J l R nb own cc nL ret D cl tys A X Qx ad N kc ks pc lv (.int (iI i) :: .ref (ad k) :: st) F := by
  intro p e s m args below meth c H locs ls hI hP hD hS hl
  obtain ⟨hx, hb, -, -, -, -, -, -, -, hK, -⟩ := id hI
  have hin : vp_in (iI i) n := (iI_in ⟨by omega, hi.2.2⟩).mpr ⟨hi.1, hi.2.1⟩
  refine va_lald hx hb hK hP k t0 (by rw [jwl_get hk, hF]) ht hin d ?_
  rw [iI_clamp ⟨by omega, hi.2.2⟩ hi.1]
  exact kk p e s m args below meth c H locs ls hI hP hD hS hl
theorem J_daload {k n : Nat} {i : Int} {cA : ClassId} {h : Nat → UInt64} (t0 : Nat) (ht : tys[t0]? = some (cA, .double)) (hk : k < N) (hF : F k = .inl (cA, n, .inr (.inr (.inr (.inl h))))) (hi : 0 ≤ i ∧ i < n ∧ i ≤ 2147483647) (d : decode cc pc = .ok (.daload, 1)) (kk : J l R nb own cc nL ret D cl tys A X Qx ad N kc ks (pc + 1) lv (.double (h i.toNat) :: st) F) : J l R nb own cc nL ret D cl tys A X Qx ad N kc ks pc lv (.int (iI i) :: .ref (ad k) :: st) F := by
  intro p e s m args below meth c H locs ls hI hP hD hS hl
  obtain ⟨hx, hb, -, -, -, -, -, -, -, hK, -⟩ := id hI
  have hin : vp_in (iI i) n := (iI_in ⟨by omega, hi.2.2⟩).mpr ⟨hi.1, hi.2.1⟩
  refine va_dald hx hb hK hP k t0 (by rw [jwl_get hk, hF]) ht hin d ?_
  rw [iI_clamp ⟨by omega, hi.2.2⟩ hi.1]
  exact kk p e s m args below meth c H locs ls hI hP hD hS hl
theorem J_iastore {k n : Nat} {i : Int} {x : Int} {cA : ClassId} {h : Nat → Int} (t0 : Nat) (ht : tys[t0]? = some (cA, .int)) (hk : k < N) (hF : F k = .inl (cA, n, .inl (aI h))) (hi : 0 ≤ i ∧ i < n ∧ i ≤ 2147483647) (d : decode cc pc = .ok (.iastore, 1)) (kk : J l R nb own cc nL ret D cl tys A X Qx ad N kc ks (pc + 1) lv st (va_up F k (.inl (cA, n, .inl (aI (va_up h i.toNat x)))))) : J l R nb own cc nL ret D cl tys A X Qx ad N kc ks pc lv (.int (iI x) :: .int (iI i) :: .ref (ad k) :: st) F := by
  intro p e s m args below meth c H locs ls hI hP hD hS hl
  obtain ⟨hx, hb, -, -, -, -, -, -, -, hK, -⟩ := id hI
  have hin : vp_in (iI i) n := (iI_in ⟨by omega, hi.2.2⟩).mpr ⟨hi.1, hi.2.1⟩
  refine va_iast hx hb hK hP hD hS k t0 (by rw [jwl_get hk, hF]) ht hin d (fun H1 locs1 hP1 hD1 hS1 => ?_)
  rw [iI_clamp ⟨by omega, hi.2.2⟩ hi.1] at hP1 hD1
  rw [aI_upd] at hP1 hD1
  rw [jwl_set hk] at hP1 hD1
  exact kk p e s m args below meth c H1 locs1 ls hI hP1 hD1 hS1 hl
theorem J_castore {k n : Nat} {i : Int} {x : Int} {cA : ClassId} {h : Nat → Int} (t0 : Nat) (ht : tys[t0]? = some (cA, .char)) (hk : k < N) (hF : F k = .inl (cA, n, .inl (aI h))) (hi : 0 ≤ i ∧ i < n ∧ i ≤ 2147483647) (hx0 : vp_nar .char (iI x) = iI x) (d : decode cc pc = .ok (.castore, 1)) (kk : J l R nb own cc nL ret D cl tys A X Qx ad N kc ks (pc + 1) lv st (va_up F k (.inl (cA, n, .inl (aI (va_up h i.toNat x)))))) : J l R nb own cc nL ret D cl tys A X Qx ad N kc ks pc lv (.int (iI x) :: .int (iI i) :: .ref (ad k) :: st) F := by
  intro p e s m args below meth c H locs ls hI hP hD hS hl
  obtain ⟨hx, hb, -, -, -, -, -, -, -, hK, -⟩ := id hI
  have hin : vp_in (iI i) n := (iI_in ⟨by omega, hi.2.2⟩).mpr ⟨hi.1, hi.2.1⟩
  refine va_cast hx hb hK hP hD hS k t0 (by rw [jwl_get hk, hF]) ht hin d (fun H1 locs1 hP1 hD1 hS1 => ?_)
  rw [iI_clamp ⟨by omega, hi.2.2⟩ hi.1] at hP1 hD1
  rw [hx0, aI_upd] at hP1 hD1
  rw [jwl_set hk] at hP1 hD1
  exact kk p e s m args below meth c H1 locs1 ls hI hP1 hD1 hS1 hl
theorem J_zastore {k n : Nat} {i : Int} {x : Int} {cA : ClassId} {h : Nat → Int} (t0 : Nat) (ht : tys[t0]? = some (cA, .boolean)) (hk : k < N) (hF : F k = .inl (cA, n, .inl (aI h))) (hi : 0 ≤ i ∧ i < n ∧ i ≤ 2147483647) (hx0 : vp_nar .boolean (iI x) = iI x) (d : decode cc pc = .ok (.bastore, 1)) (kk : J l R nb own cc nL ret D cl tys A X Qx ad N kc ks (pc + 1) lv st (va_up F k (.inl (cA, n, .inl (aI (va_up h i.toNat x)))))) : J l R nb own cc nL ret D cl tys A X Qx ad N kc ks pc lv (.int (iI x) :: .int (iI i) :: .ref (ad k) :: st) F := by
  intro p e s m args below meth c H locs ls hI hP hD hS hl
  obtain ⟨hx, hb, -, -, -, -, -, -, -, hK, -⟩ := id hI
  have hin : vp_in (iI i) n := (iI_in ⟨by omega, hi.2.2⟩).mpr ⟨hi.1, hi.2.1⟩
  refine va_zast hx hb hK hP hD hS k t0 (by rw [jwl_get hk, hF]) ht hin d (fun H1 locs1 hP1 hD1 hS1 => ?_)
  rw [iI_clamp ⟨by omega, hi.2.2⟩ hi.1] at hP1 hD1
  rw [hx0, aI_upd] at hP1 hD1
  rw [jwl_set hk] at hP1 hD1
  exact kk p e s m args below meth c H1 locs1 ls hI hP1 hD1 hS1 hl
theorem J_lastore {k n : Nat} {i : Int} {x : Int64} {cA : ClassId} {h : Nat → Int64} (t0 : Nat) (ht : tys[t0]? = some (cA, .long)) (hk : k < N) (hF : F k = .inl (cA, n, .inr (.inl h))) (hi : 0 ≤ i ∧ i < n ∧ i ≤ 2147483647) (d : decode cc pc = .ok (.lastore, 1)) (kk : J l R nb own cc nL ret D cl tys A X Qx ad N kc ks (pc + 1) lv st (va_up F k (.inl (cA, n, .inr (.inl (va_up h i.toNat x)))))) : J l R nb own cc nL ret D cl tys A X Qx ad N kc ks pc lv (.long x :: .int (iI i) :: .ref (ad k) :: st) F := by
  intro p e s m args below meth c H locs ls hI hP hD hS hl
  obtain ⟨hx, hb, -, -, -, -, -, -, -, hK, -⟩ := id hI
  have hin : vp_in (iI i) n := (iI_in ⟨by omega, hi.2.2⟩).mpr ⟨hi.1, hi.2.1⟩
  refine va_last hx hb hK hP hD hS k t0 (by rw [jwl_get hk, hF]) ht hin d (fun H1 locs1 hP1 hD1 hS1 => ?_)
  rw [iI_clamp ⟨by omega, hi.2.2⟩ hi.1] at hP1 hD1
  rw [upL_eq] at hP1 hD1
  rw [jwl_set hk] at hP1 hD1
  exact kk p e s m args below meth c H1 locs1 ls hI hP1 hD1 hS1 hl
theorem J_dastore {k n : Nat} {i : Int} {x : UInt64} {cA : ClassId} {h : Nat → UInt64} (t0 : Nat) (ht : tys[t0]? = some (cA, .double)) (hk : k < N) (hF : F k = .inl (cA, n, .inr (.inr (.inr (.inl h))))) (hi : 0 ≤ i ∧ i < n ∧ i ≤ 2147483647) (d : decode cc pc = .ok (.dastore, 1)) (kk : J l R nb own cc nL ret D cl tys A X Qx ad N kc ks (pc + 1) lv st (va_up F k (.inl (cA, n, .inr (.inr (.inr (.inl (va_up h i.toNat x)))))))) : J l R nb own cc nL ret D cl tys A X Qx ad N kc ks pc lv (.double x :: .int (iI i) :: .ref (ad k) :: st) F := by
  intro p e s m args below meth c H locs ls hI hP hD hS hl
  obtain ⟨hx, hb, -, -, -, -, -, -, -, hK, -⟩ := id hI
  have hin : vp_in (iI i) n := (iI_in ⟨by omega, hi.2.2⟩).mpr ⟨hi.1, hi.2.1⟩
  refine va_dast hx hb hK hP hD hS k t0 (by rw [jwl_get hk, hF]) ht hin d (fun H1 locs1 hP1 hD1 hS1 => ?_)
  rw [iI_clamp ⟨by omega, hi.2.2⟩ hi.1] at hP1 hD1
  rw [show vf_upd h i.toNat x = va_up h i.toNat x from rfl] at hP1 hD1
  rw [jwl_set hk] at hP1 hD1
  exact kk p e s m args below meth c H1 locs1 ls hI hP1 hD1 hS1 hl
theorem J_aaload {k n a : Nat} {i : Int} {cA : ClassId} {C : String} {h : Nat → Option Nat} (t0 : Nat) (ht : tys[t0]? = some (cA, .object C)) (hk : k < N) (hF : F k = .inl (cA, n, .inr (.inr (.inr (.inr h))))) (hi : 0 ≤ i ∧ i < n ∧ i ≤ 2147483647) (ha : h i.toNat = some a) (d : decode cc pc = .ok (.aaload, 1)) (kk : J l R nb own cc nL ret D cl tys A X Qx ad N kc ks (pc + 1) lv (.ref a :: st) F) : J l R nb own cc nL ret D cl tys A X Qx ad N kc ks pc lv (.int (iI i) :: .ref (ad k) :: st) F := by
  intro p e s m args below meth c H locs ls hI hP hD hS hl
  obtain ⟨hx, hb, -, -, -, -, -, -, -, hK, -⟩ := id hI
  have hin : vp_in (iI i) n := (iI_in ⟨by omega, hi.2.2⟩).mpr ⟨hi.1, hi.2.1⟩
  refine va_aldq hx hb hK hP k t0 (by rw [jwl_get hk, hF]) ht hin d ?_
  rw [iI_clamp ⟨by omega, hi.2.2⟩ hi.1, ha]
  exact kk p e s m args below meth c H locs ls hI hP hD hS hl
theorem J_alen {k n : Nat} {cA : ClassId} {x : _} {ty : FieldType} (t0 : Nat) (ht : tys[t0]? = some (cA, ty)) (hk : k < N) (hF : F k = .inl (cA, n, x)) (d : decode cc pc = .ok (.arraylength, 1)) (kk : J l R nb own cc nL ret D cl tys A X Qx ad N kc ks (pc + 1) lv (.int (iI n) :: st) F) : J l R nb own cc nL ret D cl tys A X Qx ad N kc ks pc lv (.ref (ad k) :: st) F := by
  intro p e s m args below meth c H locs ls hI hP hD hS hl
  obtain ⟨hx, hb, -, -, -, -, -, -, -, hK, -⟩ := id hI
  exact va_alen (x := (n, x)) (v := iI n) hx hb hK hP k t0 (by rw [jwl_get hk, hF]) ht (nI_iI n) d (kk p e s m args below meth c H locs ls hI hP hD hS hl)
theorem J_iret {x : Int32} {ty : FieldType} (hr0 : ret = some ty) (hn0 : narrow ty (.int x) = .int x) (d : decode cc pc = .ok (.ireturn, 1)) (hk : kc ≤ nb.1 ∧ ks ≤ nb.2) (hq : Qx (.inl (some (.int x))) ad N F) : J l R nb own cc nL ret D cl tys A X Qx ad N kc ks pc lv [.int x] F := by
  intro p e s m args below meth c H locs ls hI hP hD hS hl
  obtain ⟨hx, hb, hr, -, -, -, hlocks, -⟩ := id hI
  rw [hr0] at hr
  intro T hT X0
  obtain ⟨fs, hret, hrun, hended, hW, hframe⟩ := X0.leave (v := (some (.int x))) (fun h => by first | rfl | (rw [hr] at h; cases h)) hlocks
  have hmeth' : T.vm.method? m = some meth := X0.method'
  subst hT
  refine ⟨T.setFrames fs, ?_, .returned (some (.int x)), hrun, hended, ⟨.inl (some (.int x)), ad, N, F, hq, hP, hD, rfl⟩, ⟨hS.1, hS.2.1⟩, hW, locs, hframe.mono hk.1 hk.2, hS.2.2⟩
  jvm_step X0.here [X0.here.top, hx, hb, d, hmeth', hr, hn0]
  (try refine ⟨rfl, ?_⟩); (try refine ⟨rfl, ?_⟩)
  first | (intro acts; rw [hret _ acts rfl rfl rfl]) | rw [hret _ _ rfl rfl rfl]
  exact Steps.refl _
theorem J_lret {x : Int64} (hr0 : ret = some .long) (d : decode cc pc = .ok (.lreturn, 1)) (hk : kc ≤ nb.1 ∧ ks ≤ nb.2) (hq : Qx (.inl (some (.long x))) ad N F) : J l R nb own cc nL ret D cl tys A X Qx ad N kc ks pc lv [.long x] F := by
  intro p e s m args below meth c H locs ls hI hP hD hS hl
  obtain ⟨hx, hb, hr, -, -, -, hlocks, -⟩ := id hI
  rw [hr0] at hr
  intro T hT X0
  obtain ⟨fs, hret, hrun, hended, hW, hframe⟩ := X0.leave (v := (some (.long x))) (fun h => by first | rfl | (rw [hr] at h; cases h)) hlocks
  have hmeth' : T.vm.method? m = some meth := X0.method'
  subst hT
  refine ⟨T.setFrames fs, ?_, .returned (some (.long x)), hrun, hended, ⟨.inl (some (.long x)), ad, N, F, hq, hP, hD, rfl⟩, ⟨hS.1, hS.2.1⟩, hW, locs, hframe.mono hk.1 hk.2, hS.2.2⟩
  jvm_step X0.here [X0.here.top, hx, hb, d, hmeth', hr, narrow]
  (try refine ⟨rfl, ?_⟩); (try refine ⟨rfl, ?_⟩)
  first | (intro acts; rw [hret _ acts rfl rfl rfl]) | rw [hret _ _ rfl rfl rfl]
  exact Steps.refl _
theorem J_dret {x : UInt64} (hr0 : ret = some .double) (d : decode cc pc = .ok (.dreturn, 1)) (hk : kc ≤ nb.1 ∧ ks ≤ nb.2) (hq : Qx (.inl (some (.double x))) ad N F) : J l R nb own cc nL ret D cl tys A X Qx ad N kc ks pc lv [.double x] F := by
  intro p e s m args below meth c H locs ls hI hP hD hS hl
  obtain ⟨hx, hb, hr, -, -, -, hlocks, -⟩ := id hI
  rw [hr0] at hr
  intro T hT X0
  obtain ⟨fs, hret, hrun, hended, hW, hframe⟩ := X0.leave (v := (some (.double x))) (fun h => by first | rfl | (rw [hr] at h; cases h)) hlocks
  have hmeth' : T.vm.method? m = some meth := X0.method'
  subst hT
  refine ⟨T.setFrames fs, ?_, .returned (some (.double x)), hrun, hended, ⟨.inl (some (.double x)), ad, N, F, hq, hP, hD, rfl⟩, ⟨hS.1, hS.2.1⟩, hW, locs, hframe.mono hk.1 hk.2, hS.2.2⟩
  jvm_step X0.here [X0.here.top, hx, hb, d, hmeth', hr, narrow]
  (try refine ⟨rfl, ?_⟩); (try refine ⟨rfl, ?_⟩)
  first | (intro acts; rw [hret _ acts rfl rfl rfl]) | rw [hret _ _ rfl rfl rfl]
  exact Steps.refl _
theorem J_aret {x : Nat} {C : String} (hr0 : ret = some (.object C)) (d : decode cc pc = .ok (.areturn, 1)) (hk : kc ≤ nb.1 ∧ ks ≤ nb.2) (hq : Qx (.inl (some (.ref x))) ad N F) : J l R nb own cc nL ret D cl tys A X Qx ad N kc ks pc lv [.ref x] F := by
  intro p e s m args below meth c H locs ls hI hP hD hS hl
  obtain ⟨hx, hb, hr, -, -, -, hlocks, -⟩ := id hI
  rw [hr0] at hr
  intro T hT X0
  obtain ⟨fs, hret, hrun, hended, hW, hframe⟩ := X0.leave (v := (some (.ref x))) (fun h => by first | rfl | (rw [hr] at h; cases h)) hlocks
  have hmeth' : T.vm.method? m = some meth := X0.method'
  subst hT
  refine ⟨T.setFrames fs, ?_, .returned (some (.ref x)), hrun, hended, ⟨.inl (some (.ref x)), ad, N, F, hq, hP, hD, rfl⟩, ⟨hS.1, hS.2.1⟩, hW, locs, hframe.mono hk.1 hk.2, hS.2.2⟩
  jvm_step X0.here [X0.here.top, hx, hb, d, hmeth', hr, narrow, Value.isRef]
  (try refine ⟨rfl, ?_⟩); (try refine ⟨rfl, ?_⟩)
  first | (intro acts; rw [hret _ acts rfl rfl rfl]) | rw [hret _ _ rfl rfl rfl]
  exact Steps.refl _
theorem J_vret (hr0 : ret = none) (d : decode cc pc = .ok (.return_, 1)) (hk : kc ≤ nb.1 ∧ ks ≤ nb.2) (hq : Qx (.inl none) ad N F) : J l R nb own cc nL ret D cl tys A X Qx ad N kc ks pc lv [] F := by
  intro p e s m args below meth c H locs ls hI hP hD hS hl
  obtain ⟨hx, hb, hr, -, -, -, hlocks, -⟩ := id hI
  rw [hr0] at hr
  intro T hT X0
  obtain ⟨fs, hret, hrun, hended, hW, hframe⟩ := X0.leave (v := none) (fun h => by first | rfl | (rw [hr] at h; cases h)) hlocks
  have hmeth' : T.vm.method? m = some meth := X0.method'
  subst hT
  refine ⟨T.setFrames fs, ?_, .returned none, hrun, hended, ⟨.inl none, ad, N, F, hq, hP, hD, rfl⟩, ⟨hS.1, hS.2.1⟩, hW, locs, hframe.mono hk.1 hk.2, hS.2.2⟩
  jvm_step X0.here [X0.here.top, hx, hb, d, hmeth', hr]
  (try refine ⟨rfl, ?_⟩); (try refine ⟨rfl, ?_⟩)
  first | (intro acts; rw [hret _ acts rfl rfl rfl]) | rw [hret _ _ rfl rfl rfl]
  exact Steps.refl _
end JROWS
