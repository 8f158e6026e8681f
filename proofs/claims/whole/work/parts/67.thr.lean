/-! THROWS: a new exception with a text, thrown out of the method that makes it -/
section THROW
def thW : List Cond := [.laysStatic Bundle.tN "UNASSIGNED_STACK" Bundle.steD, .laysStatic Bundle.tN "SUPPRESSED_SENTINEL" Bundle.listD, .isRef (.static Bundle.tN "UNASSIGNED_STACK" Bundle.steD), .isRef (.static Bundle.tN "SUPPRESSED_SENTINEL" Bundle.listD)]
/-- Throwable's two statics lie there -/
def TH (s : State) : Prop := ∀ w ∈ thW, w.before #[] s = true
theorem ls_keep {s U : State} {O f d : String} {a a' : Array Value} (h : (Cond.laysStatic O f d).before a s = true) (hv : s.vm.Alike U.vm) (hh : ∀ (q : Nat) (cell : Cell), s.heap[q]? = some cell → cell.vm.isStatics = true → U.heap[q]? = some cell) :
    (Cond.laysStatic O f d).before a' U = true ∧ ((Cond.isRef (.static O f d)).before a s = true → (Cond.isRef (.static O f d)).before a' U = true) := by
  obtain ⟨c, k, i, fd, q, cell, hc, hi, hst, ha, hcell, hs, hcls, hlt, hty⟩ := Cond.laysStatic_spec h
  obtain ⟨k', hi', hek⟩ := State.fieldFound?_setVm hv hi
  have hi2 : U.fieldFound? O f d = some (c, k', i, fd) := hi'
  have hU := hh q cell hcell hs
  have ha' : k'.statics = some q := by rw [hek]; exact ha
  refine ⟨Cond.laysStatic_of (s := U) (by rw [hv.findClass]; exact hc) hi2 hst ha' hU hs hcls hlt (by rw [hek]; exact hty), fun h2 => ?_⟩
  have e1 : (Term.static O f d).eval a s none [] s = cell.slots[fd.slot]? := by simp [Term.eval, State.fieldNamed?, hi, hst, ha, hcell, hs]
  have e2 : (Term.static O f d).eval a' U none [] U = cell.slots[fd.slot]? := by simp [Term.eval, State.fieldNamed?, hi2, hst, ha', hU, hs]
  simp only [Cond.before, Cond.holds, Cond.value, e1] at h2
  simp only [Cond.before, Cond.holds, Cond.value, e2]
  exact h2
theorem TH.keepA {s U : State} (h : TH s) (hv : s.vm.Alike U.vm) (hh : ∀ (q : Nat) (cell : Cell), s.heap[q]? = some cell → cell.vm.isStatics = true → U.heap[q]? = some cell) (a' : Array Value) : ∀ w ∈ thW, w.before a' U = true := by
  have k1 := ls_keep (a := #[]) (a' := a') (h (.laysStatic Bundle.tN "UNASSIGNED_STACK" Bundle.steD) (by simp [thW])) hv hh
  have k2 := ls_keep (a := #[]) (a' := a') (h (.laysStatic Bundle.tN "SUPPRESSED_SENTINEL" Bundle.listD) (by simp [thW])) hv hh
  intro w hw
  simp only [thW, List.mem_cons, List.not_mem_nil, or_false] at hw
  rcases hw with rfl | rfl | rfl | rfl
  · exact k1.1
  · exact k2.1
  · exact k1.2 (h _ (by simp [thW]))
  · exact k2.2 (h _ (by simp [thW]))
theorem TH.keep {s U : State} (h : TH s) (hv : s.vm.Alike U.vm) (hh : ∀ (q : Nat) (cell : Cell), s.heap[q]? = some cell → cell.vm.isStatics = true → U.heap[q]? = some cell) : TH U := h.keepA hv hh #[]
/-- what is no class's statics -/
def nSt (A : Nat → Prop) (H : Heap) : Prop := ∀ (q : Nat) (cell : Cell), A q → H[q]? = some cell → cell.vm.isStatics = false
theorem va_S.stat {A : Nat → Prop} {H0 H : Heap} {locs : List Loc} (hS : va_S A H0 H locs) (hn : nSt A H0) {q : Nat} {cell : Cell} (h : H0[q]? = some cell) (hs : cell.vm.isStatics = true) : H[q]? = some cell := by
  rw [hS.2.1 q (Array.getElem?_eq_some_iff.mp h).1 (fun ha => by rw [hn q cell ha h] at hs; cases hs)]
  exact h
variable {p : Program} {l : Launch} {e : Env} {R : Room} {s : State} {m : MethodId} {args : Array Value} {below : List Frame} {meth : Method} {c : Code} {T : State} {H : Heap} {locs : List Loc} {cells slots : Nat} {Q : State → Prop}
/-- the walk, based anew where it stands -/
theorem st_anew (X : Stand p l e R s m args below meth c T locs cells slots) (R' : Room) (h1 : R'.frames ≤ R.frames) (h2 : R'.locals ≤ R.locals) (h3 : cells + R'.cells ≤ R.cells) (h4 : slots + R'.slots ≤ R.slots) :
    Stand p l e R' (T.setFrames (.invoking m args :: below)) m args below meth c T [] 0 0 := by
  obtain ⟨g0, hfr⟩ := X.frames_eq
  have hcur := State.cur_lt_of_frames hfr
  obtain ⟨t0, ht0, -⟩ := State.frames_cons hfr
  have hf : (T.setFrames (.invoking m args :: below)).frames = .invoking m args :: below := State.frames_setFrames _ hcur
  obtain ⟨t1, ht1, -⟩ := State.frames_cons hf
  have hme : (T.setFrames (.invoking m args :: below)).me.stackBytes = T.me.stackBytes := State.stackBytes_setFrames _ _
  have hvm : (T.setFrames (.invoking m args :: below)).vm = T.vm := rfl
  have hroom := X.room
  have hbook := X.book
  have hz := X.heapSize
  have hu := X.used
  have hmeth' : T.vm.method? m = some meth := X.method'
  have hli : (T.setFrames (.invoking m args :: below)).localsInUse = s.localsInUse := by
    unfold State.localsInUse
    rw [hf, X.frames, hvm]
    dsimp only
    rw [hmeth', X.method]
  have hlim : e.platform.stackLimits (T.setFrames (.invoking m args :: below)).me = e.platform.stackLimits s.me := by
    rw [State.stackLimits_setFrames]; exact X.limits
  have hby : (T.setFrames (.invoking m args :: below)).me.stackBytes = s.me.stackBytes := by rw [hme]; exact X.bytes
  refine ⟨X.admits, X.cas, X.clock, hf, ?_, ?_, hmeth', X.code, X.here, X.tail, ?_, by rw [hlim]; exact X.limits, hme.symm, ?_⟩
  · simp only [State.hasRoom, Bool.and_eq_true, decide_eq_true_eq] at hroom ⊢
    rw [hli, hlim, hby, hf]
    rw [X.frames] at hroom
    obtain ⟨⟨⟨⟨a1, a2, a3, a4, a5, a6⟩, b1⟩, b2⟩, b3⟩ := hroom
    refine ⟨⟨⟨⟨by omega, by omega, by omega, by omega, by omega, a6⟩, ?_⟩, ?_⟩, hbook⟩
    · show T.heap.size + R'.cells ≤ _; omega
    · show T.slotsUsed + R'.slots ≤ _; omega
  · have hh := X.hears
    have hc : ∀ q, (T.setFrames (.invoking m args :: below)).code? q = s.code? q := fun q => by
      rw [State.code?_eq, State.code?_eq, hvm, X.warmed.alike.method?]
    unfold State.hears at hh ⊢
    rw [hvm, hmeth']
    rw [X.method] at hh
    simp only [hc]
    exact hh
  · exact State.WarmedH.refl _
  · have h := (State.sameButNew.refl _ ht1).setFrames T.frames (State.cur_lt_of_frames hf)
    rw [State.setFrames_setFrames, State.setFrames_self ht0] at h
    exact h
/-- 'throw new E(text)' in a method without handlers -/
theorem th_row {own E text : String} {cc : ByteArray} {maxL pc ic is im : Nat} {ret : Option FieldType} {names : List String} {ls : Array Slot} {A : Nat → Prop} {free : Addr → Prop} {Qc : Array Value → State → Outcome → State → Prop}
    (K : WK p s m args meth c own cc maxL ret) (hth : TH s) (htr : l.stackTraces = false) (hS : va_S A s.heap H locs) (hn : nSt A s.heap) (hls : ls.size = maxL)
    (hE : Bundle.fit E = true) (hnames : ∀ n ∈ names, Bundle.fit n = true) (hw : ∀ w ∈ Bundle.ownAtoms own im E names, w ∈ big ∨ w ∈ thW) (hcl : Cond.classLink own ic E ∈ big) (hini : Cond.initialized E ∈ big) (hins : Cond.instantiable E 6 ∈ big) (hst : Cond.stringRef own is text ∈ big)
    (hd0 : decode cc pc = .ok (.new ic, 3)) (hd3 : decode cc (pc + 3) = .ok (.dup, 1)) (hd4 : decode cc (pc + 4) = .ok (.ldc is, 2)) (hd6 : decode cc (pc + 6) = .ok (.invokespecial im, 3)) (hd9 : decode cc (pc + 9) = .ok (.athrow, 1))
    (hRc : cells + 1 ≤ R.cells) (hRs : slots + 6 ≤ R.slots) (hRf : names.length + 3 < R.frames) (hRl : 13 * (names.length + 1) + 50 ≤ R.locals)
    (hq : ∀ t : State, H.size ≤ t.heap.size → (∀ q : Nat, q < H.size → t.heap[q]? = H[q]?) → s.vm.Alike t.vm → exA E H.size t → Qc args s (.threw H.size) t) (hf : ∀ q ∈ locs, free q.base) :
    W p l e R s m args below meth c H locs cells slots (MQX below Qc args s (cells + 1) (slots + 6) free) (F0 m pc ls []) := by
  intro T hT X
  obtain ⟨hx, hb, hml, hrt, hlk, hts, hown, hno⟩ := K
  have htr' : e.platform.stackTraces = false := by rw [X.admits.platform]; exact htr
  have X0 := st_anew X { frames := R.frames, cells := 1, slots := 6, locals := R.locals } (Nat.le_refl _) (Nat.le_refl _) hRc hRs
  generalize hs1 : T.setFrames (.invoking m args :: below) = s1 at X0
  have hvm1 : s1.vm = T.vm := by rw [← hs1]; rfl
  have hh1 : s1.heap = H := by rw [← hs1]; exact hT
  have hW1 : s.WarmedH s1.vm := by rw [hvm1]; exact X.warmed
  have hB : ∀ w ∈ big, w.before args s1 = true := fun w h => big_warm hts w h args s1 hW1
  have hTH : ∀ w ∈ thW, w.before args s1 = true := hth.keepA hW1.alike (fun q cell h1 h2 => by rw [hh1]; exact hS.stat hn h1 h2) args
  have hown1 : s1.vm.findClass own = some m.cls := by rw [hW1.alike.findClass]; exact hown
  obtain ⟨vm₁, cX, kX, hfX, hkX, -, -, X₁, st1⟩ := X0.newCold hx (own := own) (C := E) (index := ic) (n := 6) hown1 (hB _ hcl) (hB _ hins) (hB _ hini)
    (g := F0 m pc ls []) rfl (by rw [hb]; exact hd0) (Nat.le_refl _) (Nat.le_refl _)
  generalize hT2 : (T.setVm vm₁).pushCell { cls := cX, slots := kX.instanceTypes.map defaultValue, vm := .none } = T2 at X₁ st1
  have hcellA : T2.heap[T.heap.size]? = some (freshCell cX kX) := by rw [← hT2]; exact State.heap_pushCell_size _ _
  obtain ⟨-, -, -, sa, -, -, -, -, -, hev⟩ := Cond.stringRef_spec hown1 (hB _ hst)
  obtain ⟨U, hsteps, hrun, hend, hW, hsame, ce, hce, KK⟩ := X₁.ctorThrowS hx htr' (own := own) (cls := E) (names := names) (ic := im) hown1 hE hnames
    (fun y hy => by rcases hw y hy with h | h; exact hB y h; exact hTH y h) (fun y hy => by cases hy) hfX hkX hcellA (by rw [hh1, hT]; exact Nat.le_refl _) (msg := .ref sa) rfl
    (g := F0 m (pc + 6) ls [.ref sa, .ref T.heap.size, .ref T.heap.size]) rfl (by rw [hml]; exact hls) rfl rfl (rest := []) rfl
    (by rw [hb]; exact hd6) (by rw [hb]; exact hd9) (covers_of_empty hno _) hRf (by simp [F0, Value.category]; omega) hlk
  refine ⟨U, ?_, .threw T.heap.size, hrun, hend, ?_, locs, ⟨State.WarmedH.trans hW1 hW, ?_⟩, hf⟩
  · refine st1 _ ?_
    show Steps p.tables e below (T2.setTop (F0 m (pc + 3) ls [.ref T.heap.size])) _
    unfold F0
    jvm_step X₁.here [X₁.here.top, hx, hb, hd3, Value.category]
    exact X₁.ldcString hx (own := own) (text := text) (index := is) (a := sa) hown1 (hB _ hst) hev (g := F0 m (pc + 4) ls [.ref T.heap.size, .ref T.heap.size]) rfl (by rw [hb]; exact hd4) _ hsteps
  · have hheap : ∀ q : Nat, q < H.size → U.heap[q]? = H[q]? := fun q hq => by
      have h0 : s1.heap[q]? = some H[q] := by rw [hh1]; exact Array.getElem?_eq_getElem hq
      have h2 := State.sameButNew.old_cell hsame h0
      rw [Array.getElem?_eq_getElem hq]
      exact h2
    have hsz : H.size ≤ U.heap.size := by have := hsame.2.1; rw [hh1] at this; exact this
    rw [hT]
    refine hq U hsz hheap (State.WarmedH.trans hW1 hW).alike ⟨ce, by rw [← hT]; exact hce, ?_, KK.vm⟩
    rw [hW.alike.findClass]; exact KK.cls
  · have h1 := (X.same.setFrames (.invoking m args :: below) X.cur).trans (u := ({ U with vm := s.vm } : State)) (by
      have h2 := hsame.setVm s.vm
      rw [← hs1] at h2
      exact h2)
    exact h1.weaken (fun x hx _ => by simpa using hx) (by omega) (by omega)
end THROW
