/-! THE CLAIM OUT OF ONE WALK OF THE LAW'S BODY. Your part is whole_start (and what it stands on); all else here is the same for every law, but numbers. -/
def R_law : String := "NumberTowerLaw"
def lw_P (b : Addr) (xs : List Int32) (args : Array Value) (s : State) : Prop := args = #[.ref b] ∧ s.IntsAt b xs ∧ xs.length ≤ 2560 ∧ (Jvm.Cond.and given_1 narrow_1).before args s = true
def lw_Q (_ : Array Value) (s : State) (o : Outcome) (t : State) : Prop := o = .returned (some (.int 1)) ∧ Framed s o t [] 601024 7293034
def lw_Z (below : List Frame) (a : Array Value) (s : State) : State → Prop := fun t => ∃ o, t.status = .running ∧ Ended t below o ∧ lw_Q a s o t
/-- what holds at the law's entry: the machine, the code, the tables' words (any of lw_tbl by 'hts w (by decide +kernel)'), the script of L ints xs at the cell b, what the Statement gives of the start (any of its parts by flat_of_before) -/
def lw_At (p : Program) (s : State) (m : MethodId) (meth : Method) (c : Code) (b L : Nat) (xs : Nat → Int32) : Prop :=
  p.tables.exec = Jvm.exec ∧ c.code = code ∧ meth.sig.returnType = ret ∧ c.maxLocals = 9 ∧ s.vm.findClass R_law = some m.cls ∧ (∀ w ∈ lw_tbl, w.before #[Value.ref b] s = true) ∧ va_X b L xs s s.heap ∧ b < s.heap.size ∧ meth.locks = false ∧ (Jvm.Cond.and given_1 narrow_1).before #[Value.ref b] s = true ∧ c.exceptionTable.isEmpty = true
-- ===== MY PART BEGINS =====
theorem vkOf {own tx : String} {k : Nat} {A : Array Value} {U : State} (h1 : (Cond.stringRef own k tx).before A U = true) (h2 : (Cond.exactly (.string own k) "java/lang/String").before A U = true) : ∃ a, vk_R own k tx a U := by
  obtain ⟨a, c, cell, k', ht, -⟩ := Cond.exactly_spec h2
  exact ⟨a, vk_R.of h1 ht⟩
/-- an array class that the tables know -/
def arrKn (s : State) (ty : FieldType) : Prop := ∃ c : ClassId, ArrOfT s c ty ∧ va_RA s c ty
theorem arrP {s : State} {args : Array Value} {ty : FieldType} (h : (Cond.arrayClass ty).before args s = true) (hra : ∀ c1, s.vm.findClass ("[" ++ ty.toString) = some c1 → va_RA s c1 ty) : arrKn s ty := by
  obtain ⟨cA, kA, comp, h1, h2, h3⟩ := Cond.arrayClass_spec h
  exact ⟨cA, fun n z => ⟨fun k h => (by cases h), kA, h2, comp, h3⟩, hra _ h1⟩
theorem arrQ {s : State} {args : Array Value} {C : String} (h : (Cond.arrayOver (.object C)).before args s = true) : arrKn s (.object C) := by
  obtain ⟨comp, c, k, h1, h2, h3, h4, h5⟩ := Cond.arrayOver_spec h
  exact ⟨c, fun n z => ⟨fun k h => (by cases h), k, h3, comp, h4⟩, k, comp, h3, h4, h1, h5⟩
abbrev lwTy : List FieldType := [.int, .char, .boolean, .double, .object "NumberTower$Num", .long]
set_option maxRecDepth 100000 in
set_option maxHeartbeats 4000000 in
/-- the law from its entry -/
theorem whole_start {p : Program} {e : Env} {s : State} {m : MethodId} {below : List Frame} {meth : Method} {c : Code} (l : Launch) (hfl : l.flags = flags0) {b L : Nat} {xs : Nat → Int32} (hL : L ≤ 2560) (C0 : lw_At p s m meth c b L xs) : W p l e room_1 s m #[Value.ref b] below meth c s.heap [] 0 0 (lw_Z below #[Value.ref b] s) (entryFrame m ([Value.ref b] : List Value).toArray 9) := by
  obtain ⟨hx, hb, hr, hml, hown, hts, hX, hbl, hlocks, hgv, hexc⟩ := C0
  intro T hT X0
  have htsJ : ∀ w ∈ jALL, w.before #[Value.ref b] s = true := fun w hw => hts w (List.mem_filter.mp hw).1
  have hg := flat_of_before _ hgv
  have hA : ∀ a : Nat, a < s.heap.size → ¬ s.heap.size ≤ a := fun a h => Nat.not_le.mpr h
  have hZ : jZ (fun q => s.heap.size ≤ q) s := by
    refine ⟨jZ1.of (args := #[Value.ref b]) (hts _ (jT_of wt_552)) (hg _ (by decide +kernel)) hA, jZ1.of (args := #[Value.ref b]) (hts _ (jT_of wt_554)) (hg _ (by decide +kernel)) hA, ?_, ?_, ?_, ?_⟩
    · exact List.forall_mem_cons.mpr ⟨vkOf (hts _ (jT_of wt_566)) (hg _ (by decide +kernel)), List.forall_mem_cons.mpr ⟨vkOf (hts _ (jT_of wt_603)) (hg _ (by decide +kernel)), List.forall_mem_cons.mpr ⟨vkOf (hts _ (jT_of wt_623)) (hg _ (by decide +kernel)), List.forall_mem_cons.mpr ⟨vkOf (hts _ (jT_of wt_674)) (hg _ (by decide +kernel)), List.forall_mem_cons.mpr ⟨vkOf (hts _ (jT_of wt_675)) (hg _ (by decide +kernel)), List.forall_mem_cons.mpr ⟨vkOf (hts _ (jT_of wt_739)) (hg _ (by decide +kernel)), List.forall_mem_cons.mpr ⟨vkOf (hts _ (jT_of wt_751)) (hg _ (by decide +kernel)), List.forall_mem_cons.mpr ⟨vkOf (hts _ (jT_of wt_759)) (hg _ (by decide +kernel)), List.forall_mem_cons.mpr ⟨vkOf (hts _ (jT_of wt_771)) (hg _ (by decide +kernel)), List.forall_mem_cons.mpr ⟨vkOf (hts _ (jT_of wt_797)) (hg _ (by decide +kernel)), List.forall_mem_cons.mpr ⟨vkOf (hts _ (jT_of wt_817)) (hg _ (by decide +kernel)), List.forall_mem_cons.mpr ⟨vkOf (hts _ (jT_of wt_940)) (hg _ (by decide +kernel)), fun _ h => absurd h List.not_mem_nil⟩⟩⟩⟩⟩⟩⟩⟩⟩⟩⟩⟩
    · exact List.forall_mem_cons.mpr ⟨jCast_move (Vm.Alike.refl _) (hts _ (jT_of wt_527)), List.forall_mem_cons.mpr ⟨jCast_move (Vm.Alike.refl _) (hts _ (jT_of wt_596)), List.forall_mem_cons.mpr ⟨jCast_move (Vm.Alike.refl _) (hts _ (jT_of wt_616)), fun _ h => absurd h List.not_mem_nil⟩⟩⟩
    · exact List.forall_mem_cons.mpr ⟨jNo.of (args := #[Value.ref b]) (hg _ (by decide +kernel)), List.forall_mem_cons.mpr ⟨jNo.of (args := #[Value.ref b]) (hg _ (by decide +kernel)), List.forall_mem_cons.mpr ⟨jNo.of (args := #[Value.ref b]) (hg _ (by decide +kernel)), fun _ h => absurd h List.not_mem_nil⟩⟩⟩
    · exact List.forall_mem_cons.mpr ⟨jDecl_move (args := #[Value.ref b]) (Vm.Alike.refl _) (hts _ (jT_of wt_529)), List.forall_mem_cons.mpr ⟨jDecl_move (args := #[Value.ref b]) (Vm.Alike.refl _) (hts _ (jT_of wt_531)), List.forall_mem_cons.mpr ⟨jDecl_move (args := #[Value.ref b]) (Vm.Alike.refl _) (hts _ (jT_of wt_533)), fun _ h => absurd h List.not_mem_nil⟩⟩⟩
  have hcl : ∀ q ∈ jCl, ∃ (cC : ClassId) (iS : Nat → Nat), u_Kn s q.1 q.2.1 q.2.2 cC iS := List.forall_mem_cons.mpr ⟨u_known (n := 7) htsJ in_X (htsJ _ wd_21), List.forall_mem_cons.mpr ⟨u_known (n := 11) htsJ in_D (htsJ _ wd_101), List.forall_mem_cons.mpr ⟨u_known (n := 2) htsJ in_N (htsJ _ wd_36), List.forall_mem_cons.mpr ⟨u_known (n := 4) htsJ in_U (htsJ _ wd_30), List.forall_mem_cons.mpr ⟨u_known (n := 8) htsJ in_P (htsJ _ wd_212), List.forall_mem_cons.mpr ⟨u_known (n := 3) htsJ in_R (htsJ _ wd_146), List.forall_mem_cons.mpr ⟨u_known (n := 11) htsJ in_S (htsJ _ wd_163), List.forall_mem_cons.mpr ⟨u_known (n := 2) htsJ in_T (htsJ _ wd_83), List.forall_mem_cons.mpr ⟨u_known (n := 30) htsJ in_M (htsJ _ wd_980), fun _ h => absurd h List.not_mem_nil⟩⟩⟩⟩⟩⟩⟩⟩⟩
  obtain ⟨dC, dI, hKc⟩ : ∃ (dC : Nat → ClassId) (dI : Nat → Nat → Nat), ∀ (k : Nat) (q : vw_C), jCl[k]? = some q → u_Kn s q.1 q.2.1 q.2.2 (dC k) (dI k) := by
    have h : ∀ k : Nat, ∃ (cC : ClassId) (iS : Nat → Nat), ∀ q : vw_C, jCl[k]? = some q → u_Kn s q.1 q.2.1 q.2.2 cC iS := by
      intro k
      cases hq : jCl[k]? with
      | none => exact ⟨(0 : Nat), fun _ => 0, fun q h => by cases h⟩
      | some q =>
        obtain ⟨cC, iS, h⟩ := hcl q (List.mem_of_getElem? hq)
        exact ⟨cC, iS, fun q' h' => by cases h'; exact h⟩
    exact ⟨fun k => (h k).choose, fun k => (h k).choose_spec.choose, fun k q hq => (h k).choose_spec.choose_spec q hq⟩
  have har : ∀ ty ∈ lwTy, arrKn s ty := List.forall_mem_cons.mpr ⟨arrP (htsJ _ wd_52) (fun _ h => h), List.forall_mem_cons.mpr ⟨arrP (htsJ _ wd_99) (fun _ h => h), List.forall_mem_cons.mpr ⟨arrP (htsJ _ wd_1076) (fun _ h => h), List.forall_mem_cons.mpr ⟨arrP (htsJ _ wd_1077) (fun _ h => h), List.forall_mem_cons.mpr ⟨arrQ (hts _ (jT_of wt_29)), List.forall_mem_cons.mpr ⟨arrP (htsJ _ wd_1468) (fun _ h => h), fun _ h => absurd h List.not_mem_nil⟩⟩⟩⟩⟩⟩
  obtain ⟨g, hKa⟩ : ∃ g : Nat → ClassId, ∀ (k : Nat) (ty : FieldType), lwTy[k]? = some ty → ArrOfT s (g k) ty ∧ va_RA s (g k) ty := by
    have h : ∀ k : Nat, ∃ cC : ClassId, ∀ ty : FieldType, lwTy[k]? = some ty → ArrOfT s cC ty ∧ va_RA s cC ty := by
      intro k
      cases hq : lwTy[k]? with
      | none => exact ⟨(0 : Nat), fun q h => by cases h⟩
      | some q =>
        obtain ⟨cC, h⟩ := har q (List.mem_of_getElem? hq)
        exact ⟨cC, fun q' h' => by cases h'; exact h⟩
    exact ⟨fun k => (h k).choose, fun k q hq => (h k).choose_spec q hq⟩
  have hK : va_K (dC, dI) jCl (jTys g) s := by
    refine ⟨hKc, fun k q hq => ?_⟩
    match k, hq with
    | 0, hq => cases hq; exact hKa 0 _ rfl
    | 1, hq => cases hq; exact hKa 1 _ rfl
    | 2, hq => cases hq; exact hKa 2 _ rfl
    | 3, hq => cases hq; exact hKa 3 _ rfl
    | 4, hq => cases hq; exact hKa 4 _ rfl
    | 5, hq => cases hq; exact hKa 5 _ rfl
    | k + 6, hq => simp [jTys] at hq
  have hao : va_AO "NumberTower$Num" s := va_AO.of (hts _ (jT_of wt_29))
  have hl := lv_entry ([.ref b]) (n := 9) (Nat.le_of_ble_eq_true rfl)
  have K := lw_go hfl (D := (dC, dI)) (g := g) (A := fun q => s.heap.size ≤ q) (X := fun s' _ => va_X b L xs s' s'.heap ∧ b < s'.heap.size ∧ ¬ s.heap.size ≤ b ∧ va_AO "NumberTower$Num" s') (Q := fun o _ _ _ => o = .inl (some (.int (iI 1)))) (ad := fun _ => 0) (b := b) (L := L) (xs := xs) (zs := fun j => (xs j).toInt) (F := fun _ => .inr (0, [])) ⟨fun s' me h => ⟨h.1, h.2.1, h.2.2.1⟩, fun j => (iI_of (xs j)).symm, fun j => iI_rng (xs j)⟩ (fun s' me h => h.2.2.2) hL (fun _ _ _ => rfl)
    p e s m #[Value.ref b] below meth c s.heap [] _ ⟨hx, hb, hr, hml, hown, htsJ, hlocks, Launch.traces_off hfl X0.admits, hexc, hK, fun q h => h, hZ, ⟨hX, hbl, hA b hbl, hao⟩, hfl, fun q cell h1 h2 => by rw [Array.getElem?_eq_none h1] at h2; cases h2⟩
    (fun k q h => by simp [jwl] at h) ⟨fun i j p q h => by simp [jwl] at h, fun k q h => by simp [jwl] at h⟩ va_S.rf hl
  rw [← lg_entry_eq] at K
  obtain ⟨t, st, o, hrun, hend, ⟨oc, ad', N', F', hoc, hP', hD', hout⟩, hF, hW, Ls, hsame, hLs⟩ := K T hT X0
  subst hoc
  have ho : o = .returned (some (.int (iI 1))) := hout
  subst ho
  refine ⟨t, st, .returned (some (.int (iI 1))), hrun, hend, rfl, ⟨_, rfl⟩, hW, ?_⟩
  exact hsame.weaken (fun y hy hlt => absurd hlt (Nat.not_lt.mpr (hLs y hy))) (Nat.le_refl _) (Nat.le_refl _)
-- ===== MY PART ENDS =====
set_option maxHeartbeats 4000000 in
theorem lw_walk (l : Launch) (hfl : l.flags = flags0) (b : Addr) (xs : List Int32) : MetFree l x (headSpec (Jvm.Cond.code x code maxLocals ret :: tables_1) room_1) (lw_P b xs) (fun _ _ _ _ _ => True) lw_Q := by
  refine MetFree.of_bodyS (code := code) (maxLocals := maxLocals) (ret := ret) (by decide) ?_ ?_
  · intro args s m h hn
    obtain ⟨meth, c, h1, h2, h3, h4, h5, h6, -, -⟩ := Cond.code_spec hn (atoms_spec (ws := Jvm.Cond.code x code maxLocals ret :: tables_1) h _ List.mem_cons_self)
    exact ⟨meth, c, h1, h2, h3, h4, h5, h6⟩
  · intro p e s m args below meth c s₁ B hml0 hP _
    obtain ⟨rfl, hx, hbd, hgv⟩ := hP
    obtain ⟨scr, harrAt, hlist, hof, hsmall⟩ := hx
    obtain ⟨hcb, hkn, -, -⟩ := State.arrayAt?_spec harrAt
    have hown : s.vm.findClass R_law = some m.cls := findClass_of_methodNamed B.named
    have hts0 : ∀ c ∈ (Jvm.Cond.code x code maxLocals ret :: tables_1), c.before #[Value.ref b] s = true := atoms_spec (ws := Jvm.Cond.code x code maxLocals ret :: tables_1) B.pre
    have hts : ∀ w ∈ lw_tbl, w.before #[Value.ref b] s = true := k2_hts_sels lw_privs (fun w hw => hts0 w (List.mem_cons_of_mem _ hw)) lw_privs_ok
    have hml : c.maxLocals = 9 := B.maxLocals_eq (hts0 _ List.mem_cons_self)
    have X₀ : Stand p l e room_1 s m #[Value.ref b] below meth c s₁ [] 0 0 := Stand.of_body B
    have hh0 : s₁.heap = s.heap := by rw [B.state]; rfl
    have hsz : scr.slots.size = xs.length := by rw [← Array.length_toList, hlist, List.length_map]
    have hval : ∀ j : Nat, j < xs.length → scr.slots[j]? = some (.int (xs.getD j 0)) := fun j hj => by
      rw [← Array.getElem?_toList, hlist]
      simp [hj]
    have hbl : b < s.heap.size := (Array.getElem?_eq_some_iff.mp hcb).1
    have hX : va_X b xs.length (fun j => xs.getD j 0) s s.heap := ⟨scr, hcb, hof, hkn, hsz, hval⟩
    have K : W p l e room_1 s m #[Value.ref b] below meth c s₁.heap [] 0 0 (lw_Z below #[Value.ref b] s) (entryFrame m ([Value.ref b] : List Value).toArray 9) := by
      rw [hh0]
      exact whole_start l hfl hbd ⟨B.exec, B.bytes, B.returns, hml, hown, hts, hX, hbl, B.notSynchronized, hgv, B.noHandlers (hts0 _ List.mem_cons_self)⟩
    obtain ⟨t, a1, o, b1, b2, b3⟩ := K s₁ rfl X₀
    exact ⟨t, o, a1, b1, b2, b3⟩
theorem lw_pre_spec {args : Array Value} {s : State} (h : (Jvm.Cond.and given_1 narrow_1).before args s = true) (hr : rest_1_c.before args s = true) : ∃ (b : Addr) (xs : List Int32), lw_P b xs args s := by
  have hs := flat_of_before _ h
  have hq := flat_of_before _ hr
  have hc : (Cond.count 1).before args s = true := hs _ (by decide +kernel)
  have harr : (Cond.arrayOf (.arg 0) .int).before args s = true := hs _ (by decide +kernel)
  have hle : (Cond.le (.length (.arg 0)) (.int 2560)).before args s = true := hs _ (by decide +kernel)
  have hlen : (Cond.isInt (.length (.arg 0))).before args s = true := hq _ (by decide +kernel)
  have hall : (Cond.all (.arg 0) (.isInt (.elem (.arg 0) (.index 0)))).before args s = true := hq _ (by decide +kernel)
  obtain ⟨b, xs, hb, hx⟩ := State.ints_of_pre rfl harr hlen hall
  have hsm : xs.length < 2 ^ 31 := hx.choose_spec.2.2.2
  have hev : (Term.length (.arg 0)).eval args s none [] s = some (.int xs.length.toInt32) := hx.length_eval hb
  have hv := Cond.le_ints hev (show (Term.int 2560).eval args s none [] s = some (.int 2560) from rfl)
  have hd : xs.length.toInt32 ≤ 2560 := by
    simpa [Cond.before, Cond.holds, hv] using hle
  have hN : xs.length ≤ 2560 := (Int32.ofNat_le_ofNat hsm (by decide)).mp (show Int32.ofNat xs.length ≤ Int32.ofNat 2560 from hd)
  exact ⟨b, xs, Cond.one_arg hc (show args[0]? = some (.ref b) from hb), hx, hN, h⟩
theorem lw_comes (l : Launch) (hfl : l.flags = flags0) : Comes l x (Jvm.Cond.code x code maxLocals ret :: tables_1) room_1 (fun tb e args s => Calls_1 tb e args s ∧ rest_1 tb e args s ∧ Pre_1 tb e args s)
    (fun _ _ args s o t => lw_Q args s o t) := by
  intro p e ha hc hk s m args below hf hfit hheap happ hpre
  obtain ⟨b, xs, hP⟩ := lw_pre_spec hpre.2.2 hpre.2.1
  obtain ⟨k, o, h1, h2, h3, hQ⟩ := lw_walk l hfl b xs p e ha hc hk s m args below hf ((Spec.applies_iff_loose hf).mp happ).1 hP trivial
  exact ⟨k, o, h1, h2, h3, hQ⟩
theorem lw_frame {s t : State} {o : Outcome} {args : Array Value} (h : Framed s o t [] 601024 7293034) :
    Framed s o t (fieldLocs frame_1_writes args s ++ arrayLocs frame_1_arrays args s ++ staticLocs frame_1_statics s) 601024 7293034 := h
theorem lw_limb (L : Cond) (hL : ∀ (args : Array Value) (s t : State), L.after args s (.returned (some (.int 1))) t = true) :
    ArmFor flags0 classFile x code maxLocals ret World_1 tables_1 room_1 Calls_1 rest_1 Pre_1
      (fun tb e a s o t => postC L tb e a s o t ∧ Framed s o t (fieldLocs frame_1_writes a s ++ arrayLocs frame_1_arrays a s ++ staticLocs frame_1_statics s) 601024 7293034) := by
  intro l hfl _ _ p e ha hc hk s m args below hf hfit hheap happ hpre
  obtain ⟨k, o, h1, h2, h3, rfl, hF⟩ := lw_comes l hfl p e ha hc hk s m args below hf hfit hheap happ hpre
  exact ⟨k, _, h1, h2, h3, hL args s _, lw_frame hF⟩
theorem i_vc : Claimed_1_1 ∧ Claimed_1_2 := ⟨lw_limb limb_1_1 (fun args s t => by simp [limb_1_1, Cond.after, Cond.holds, Cond.value]), lw_limb limb_1_2 (fun args s t => Cond.after_iff.mpr (by
  first | (rw [show limb_1_2 = Cond.eq .result (.int 1) from rfl, Cond.eq_ints (x := 1) (y := 1) rfl rfl]; simp; done) | (simp [limb_1_2, Cond.value, Term.eval]; done)))⟩
