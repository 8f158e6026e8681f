theorem lw_ls1 : Cond.laysStatic Bundle.tN "UNASSIGNED_STACK" Bundle.steD ∈ lw_tbl := by decide +kernel
theorem lw_ls2 : Cond.laysStatic Bundle.tN "SUPPRESSED_SENTINEL" Bundle.listD ∈ lw_tbl := by decide +kernel
theorem lw_rf1 : Cond.isRef (.static Bundle.tN "UNASSIGNED_STACK" Bundle.steD) ∈ flatC (Jvm.Cond.and given_1 narrow_1) := by decide +kernel
theorem lw_rf2 : Cond.isRef (.static Bundle.tN "SUPPRESSED_SENTINEL" Bundle.listD) ∈ flatC (Jvm.Cond.and given_1 narrow_1) := by decide +kernel
theorem lw_nc : ∀ q ∈ ncP, Cond.not (.castable q.1 q.2) ∈ flatC (Jvm.Cond.and given_1 narrow_1) := by decide +kernel
theorem ary_int {args : Array Value} {s : State} (h : (Cond.arrayClass .int).before args s = true) : ∃ cA : ClassId, ArrOfT s cA .int ∧ va_RA s cA .int := by
  obtain ⟨cA, kA, comp, h1, h2, h3⟩ := Cond.arrayClass_spec h
  exact ⟨cA, fun n z => ⟨fun k h => (by cases h), kA, h2, comp, h3⟩, h1⟩
theorem ary_char {args : Array Value} {s : State} (h : (Cond.arrayClass .char).before args s = true) : ∃ cA : ClassId, ArrOfT s cA .char ∧ va_RA s cA .char := by
  obtain ⟨cA, kA, comp, h1, h2, h3⟩ := Cond.arrayClass_spec h
  exact ⟨cA, fun n z => ⟨fun k h => (by cases h), kA, h2, comp, h3⟩, h1⟩
theorem ary_long {args : Array Value} {s : State} (h : (Cond.arrayClass .long).before args s = true) : ∃ cA : ClassId, ArrOfT s cA .long ∧ va_RA s cA .long := by
  obtain ⟨cA, kA, comp, h1, h2, h3⟩ := Cond.arrayClass_spec h
  exact ⟨cA, fun n z => ⟨fun k h => (by cases h), kA, h2, comp, h3⟩, h1⟩
theorem NC_of {b : Nat} {s : State} (h : ∀ q ∈ ncP, (Cond.not (.castable q.1 q.2)).before #[Value.ref b] s = true) : NC s := by
  intro q hq
  have h1 := Cond.holds_not_iff.mp (h q hq)
  refine Cond.holds_not_iff.mpr ?_
  simp only [Cond.value] at h1 ⊢
  exact h1
theorem TH_of {b : Nat} {s : State} (h : ∀ w ∈ thW, w.before #[Value.ref b] s = true) : TH s := by
  have k1 := ls_keep (a := #[Value.ref b]) (a' := #[]) (U := s) (h (.laysStatic Bundle.tN "UNASSIGNED_STACK" Bundle.steD) (by simp [thW])) (Vm.Alike.refl s.vm) (fun _ _ h _ => h)
  have k2 := ls_keep (a := #[Value.ref b]) (a' := #[]) (U := s) (h (.laysStatic Bundle.tN "SUPPRESSED_SENTINEL" Bundle.listD) (by simp [thW])) (Vm.Alike.refl s.vm) (fun _ _ h _ => h)
  intro w hw
  simp only [thW, List.mem_cons, List.not_mem_nil, or_false] at hw
  rcases hw with rfl | rfl | rfl | rfl
  · exact k1.1
  · exact k2.1
  · exact k1.2 (h _ (by simp [thW]))
  · exact k2.2 (h _ (by simp [thW]))
