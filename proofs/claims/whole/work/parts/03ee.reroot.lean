section JROOT
variable {p : Program} {l : Launch} {e : Env} {R : Room} {s : State} {m : MethodId} {args : Array Value} {below : List Frame} {meth : Method} {c : Code}
/-- the same walk, counted from where it stands now -/
theorem j_reroot {T : State} {locs : List Loc} {kc ks : Nat} (X : Stand p l e R s m args below meth c T locs kc ks) {k n : Nat} (hk : kc + k ≤ R.cells) (hn : ks + n ≤ R.slots) :
    ∃ s' : State, s'.heap = T.heap ∧ s'.vm = T.vm ∧ Stand p l e { R with cells := k, slots := n } s' m args below meth c T [] 0 0 ∧
      ∀ (U : State) (L : List Loc) (k' n' : Nat), s'.sameButNew ({ U with vm := s'.vm } : State) L k' n' → s.sameButNew ({ U with vm := s.vm } : State) (locs ++ L) (kc + k') (ks + n') := by
  obtain ⟨g₀, hfr⟩ := X.frames_eq
  obtain ⟨th, hth, -⟩ := State.frames_cons hfr
  have e1 := X.same.1
  have e2 : T = ((({ s with heap := T.heap, slotsUsed := T.slotsUsed } : State).setVm T.vm).setFrames T.frames) := by
    have h1 : T = (T.setVm s.vm).setVm T.vm := rfl
    rw [e1] at h1
    exact h1
  have hcells := X.cellsAbove hk
  have hd : T.heap.toList.drop T.heap.size = [] := List.drop_eq_nil_of_le (by simp)
  have hslots := X.slotsAbove hn
  refine ⟨({ s with heap := T.heap, slotsUsed := T.slotsUsed } : State).setVm T.vm, rfl, rfl, ⟨X.admits, X.cas, X.clock, X.frames, ?_, ?_, X.method', X.code, X.here, X.tail, State.WarmedH.refl _, X.limits, X.bytes, ?_⟩, fun U L k' n' h => ?_⟩
  · have hr := X.room
    have hb := X.book
    have h1 : (({ s with heap := T.heap, slotsUsed := T.slotsUsed } : State).setVm T.vm).localsInUse = s.localsInUse := by
      rw [State.localsInUse_invoking (s := ({ s with heap := T.heap, slotsUsed := T.slotsUsed } : State).setVm T.vm) X.frames X.method' X.code, State.localsInUse_invoking X.frames X.method X.code]
    simp only [State.hasRoom, Bool.and_eq_true, decide_eq_true_eq] at hr ⊢
    refine ⟨⟨⟨⟨?_, ?_⟩, ?_⟩, ?_⟩, ?_⟩
    · rw [h1]; exact hr.1.1.1.1
    · rw [h1]; exact hr.1.1.1.2
    · exact hcells
    · exact hslots
    · exact hb
  · have h := X.hears
    unfold State.hears at h ⊢
    have hm : ∀ q : MethodId, (({ s with heap := T.heap, slotsUsed := T.slotsUsed } : State).setVm T.vm).code? q = s.code? q := fun q => by
      rw [State.code?_eq, State.code?_eq]
      show (T.vm.method? q).bind _ = _
      rw [X.warmed.alike.method?]
    have hm2 : (({ s with heap := T.heap, slotsUsed := T.slotsUsed } : State).setVm T.vm).vm.method? m = s.vm.method? m := by
      show T.vm.method? m = _
      rw [X.warmed.alike.method?]
    split at h
    · rw [hm]; exact h
    · rfl
    · rfl
    · rw [hm2]; exact h
  · refine ⟨e2, Nat.le_refl _, Nat.le_refl _, ?_, ?_, fun a cl hc => ⟨cl, hc, rfl, rfl, fun i _ => rfl⟩⟩
    · show T.slotsUsed = T.slotsUsed + ((T.heap.toList.drop T.heap.size).map (·.slots.size)).sum
      rw [hd]; rfl
    · show ((T.heap.toList.drop T.heap.size).map (·.slots.size)).sum ≤ 0
      rw [hd]; exact Nat.le_refl _
  · have h2 : T.sameButNew ({ U with vm := T.vm } : State) L k' n' := by
      obtain ⟨q1, q2⟩ := h
      refine ⟨?_, q2⟩
      rw [e2, State.setFrames_setFrames]
      exact q1
    exact X.same.trans (h2.setVm s.vm)
end JROOT
