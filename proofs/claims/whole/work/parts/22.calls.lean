/-! ENTRY, RETURN, CALL: one row each, over worlds (lists of cells). Every contract's words are its own code and 'big' -/
abbrev wsB (y : MethodName) (cc : ByteArray) (maxL : Nat) (ret : Option FieldType) : List Cond := Cond.code y cc maxL ret :: big
abbrev wPre (D : va_G) (tys : List (ClassId × FieldType)) (ws : va_W) (sz : Nat) (U : State) : Prop := U.heap.size = sz ∧ va_P D cls0 ws U.heap ∧ va_K D cls0 tys U ∧ va_D (fun _ => True) ws
abbrev wPost (D : va_G) (tys : List (ClassId × FieldType)) (w0 w : va_W) (sz : Nat) (t : State) : Prop := va_P D cls0 w t.heap ∧ va_K D cls0 tys t ∧ va_D (va_A w0 sz) w
/-- the end: returned v, 'post v u', the world B u -/
def va_QV {S : Type} (post : Option Value → S → Prop) (B : S → State → Prop) (A : Nat → Prop) : Array Value → State → Outcome → State → Prop := fun _ st oc t => (∃ (v : Option Value) (u : S), oc = .returned v ∧ post v u ∧ B u t) ∧ va_F A st t
theorem wPre_blind {D : va_G} {tys : List (ClassId × FieldType)} {ws : va_W} {sz : Nat} {av : List Value} : FrameBlind (va_Pc av (wPre D tys ws sz)) := fun a U g mk q => by
  obtain ⟨q0, q1, qP, qK, qD⟩ := q
  exact ⟨q0, q1, qP, va_K.moved (u := U) (U := U.calling g mk a) (Vm.Alike.refl U.vm) qK, qD⟩
/-- what a walk has at hand, all of it steady -/
abbrev WK (p : Program) (s : State) (m : MethodId) (args : Array Value) (meth : Method) (c : Code) (own : String) (cc : ByteArray) (maxL : Nat) (ret : Option FieldType) : Prop :=
  p.tables.exec = Jvm.exec ∧ c.code = cc ∧ c.maxLocals = maxL ∧ meth.sig.returnType = ret ∧ meth.locks = false ∧ (∀ w ∈ big, w.before args s = true) ∧ s.vm.findClass own = some m.cls ∧ c.exceptionTable.isEmpty = true
theorem Met.ofWF {l : Launch} {y : MethodName} {ws ws' : List Cond} {rm : Room} {Pc : Array Value → State → Prop} {Qc : Array Value → State → Outcome → State → Prop} {mc ms : Nat} {free : Addr → Prop} {cc : ByteArray} {maxL : Nat} {ret : Option FieldType}
    (hy : plainFor y = true) (hw : ws = Cond.code y cc maxL ret :: ws')
    (body : ∀ p e s m args below meth c s₁, BodyLoose p l y (headSpec ws rm) cc maxL ret e s m args below meth c s₁ → c.maxLocals = maxL → Pc args s →
      W p l e (headSpec ws rm).room s m args below meth c s.heap [] 0 0 (MQ below Qc args s mc ms free) (entryFrame m args maxL)) : Met l y ws rm Pc Qc mc ms free := by
  refine MetFree.of_bodySF (code := cc) (maxLocals := maxL) (ret := ret) hy ?_ ?_
  · intro args s m h hn
    obtain ⟨meth, c, h1, h2, h3, h4, h5, h6, -, -⟩ := Cond.code_spec hn (atoms_spec (ws := ws) h _ (by rw [hw]; exact List.mem_cons_self))
    exact ⟨meth, c, h1, h2, h3, h4, h5, h6⟩
  · intro p e s m args below meth c s₁ B hml hP _
    have hh0 : s₁.heap = s.heap := by rw [B.state]; rfl
    obtain ⟨t, a1, o, b1, b2, b3⟩ := body p e s m args below meth c s₁ B hml hP s₁ hh0 (Stand.of_body B)
    exact ⟨t, o, a1, b1, b2, ⟨b3.1, b3.2⟩⟩
theorem met_enter {l : Launch} {y : MethodName} {rm : Room} {cc : ByteArray} {maxL : Nat} {ret : Option FieldType} {av : List Value} {D : va_G} {tys : List (ClassId × FieldType)} {ws : va_W} {sz : Nat} {Qc : Array Value → State → Outcome → State → Prop} {mc ms : Nat}
    (hy : plainFor y = true) (hlen : (lg_sl av).length ≤ maxL)
    (body : ∀ (p : Program) (e : Env) (s : State) (m : MethodId) (args : Array Value) (below : List Frame) (meth : Method) (c : Code) (ls : Array Slot) (A : Nat → Prop) (R : Room) (Q : State → Prop) (H : Heap) (locs : List Loc), WK p s m args meth c y.cls cc maxL ret → meth.name = y.name → A = va_A ws sz → (∀ q : Nat, s.heap.size ≤ q → A q) → R = rm → Q = MQ below Qc args s mc ms A → va_P D cls0 ws H → va_K D cls0 tys s → va_D A ws → va_S A s.heap H locs → lv_has ls maxL (lv_args 0 av) →
      W p l e R s m args below meth c H locs 0 0 Q (F0 m 0 ls [])) : Met l y (wsB y cc maxL ret) rm (va_Pc av (wPre D tys ws sz)) Qc mc ms (va_A ws sz) := by
  refine Met.ofWF (cc := cc) (maxL := maxL) (ret := ret) hy rfl ?_
  intro p e s m args below meth c s₁ B hml hv
  obtain ⟨rfl, hsz, hP, hK, hD0⟩ := hv
  have hts := atoms_spec (ws := wsB y cc maxL ret) B.pre
  subst hsz
  have hD := hD0.self (sz := s.heap.size)
  have hl := lv_entry av (n := maxL) hlen
  rw [lg_entry_eq]
  exact body p e s m _ below meth c _ _ _ _ _ _ ⟨B.exec, B.bytes, hml, B.returns, B.notSynchronized, fun w h => hts w (List.mem_cons_of_mem _ h), findClass_of_methodNamed B.named, B.noHandlers (hts _ List.mem_cons_self)⟩ (name_of_methodNamed B.named B.method).1 rfl (fun q h => Or.inr h) rfl rfl hP hK hD va_S.rf hl
section RC
variable {p : Program} {l : Launch} {e : Env} {R : Room} {s : State} {m : MethodId} {args : Array Value} {below : List Frame} {meth : Method} {c : Code} {H : Heap} {locs : List Loc} {cells slots : Nat} {Q : State → Prop}
variable {own : String} {cc : ByteArray} {maxL : Nat} {ret : Option FieldType} {pc : Nat} {ls : Array Slot} {rest : List Value} {A : Nat → Prop}
theorem r_w {S : Type} {post : Option Value → S → Prop} {B : S → State → Prop} {v : Option Value} (u : S) (hS : va_S A s.heap H locs) (hp : post v u) (hB : ∀ t : State, t.heap = H → s.vm.Alike t.vm → B u t) : ∀ t : State, t.heap = H → s.WarmedH t.vm → va_QV post B A args s (.returned v) t :=
  fun t ht hW => ⟨⟨v, u, rfl, hp, hB t ht hW.alike⟩, hS.F ht⟩
theorem r_i {S : Type} {post : Option Value → S → Prop} {B : S → State → Prop} {v : Int32} (K : WK p s m args meth c own cc maxL (some .int)) (u : S) (hS : va_S A s.heap H locs) (hdg : decode cc pc = .ok (.ireturn, 1)) (hp : post (some (.int v)) u) (hB : ∀ t : State, t.heap = H → s.vm.Alike t.vm → B u t) : W p l e R s m args below meth c H locs cells slots (MQ below (va_QV post B A) args s cells slots A) (F0 m pc ls [.int v]) := by
  have hl := K.2.2.2.2.1
  exact W.iret K.1 K.2.1 K.2.2.2.1 (r_w u hS hp hB) hS.2.2 hdg
theorem r_z {S : Type} {post : Option Value → S → Prop} {B : S → State → Prop} {v : Int32} {ty : FieldType} (K : WK p s m args meth c own cc maxL (some ty)) (u : S) (hS : va_S A s.heap H locs) (hn : narrow ty (.int v) = .int v) (hdg : decode cc pc = .ok (.ireturn, 1)) (hp : post (some (.int v)) u) (hB : ∀ t : State, t.heap = H → s.vm.Alike t.vm → B u t) : W p l e R s m args below meth c H locs cells slots (MQ below (va_QV post B A) args s cells slots A) (F0 m pc ls [.int v]) := by
  have hl := K.2.2.2.2.1
  exact W.zret K.1 K.2.1 K.2.2.2.1 hn (r_w u hS hp hB) hS.2.2 hdg
theorem r_l {S : Type} {post : Option Value → S → Prop} {B : S → State → Prop} {v : Int64} (K : WK p s m args meth c own cc maxL (some .long)) (u : S) (hS : va_S A s.heap H locs) (hdg : decode cc pc = .ok (.lreturn, 1)) (hp : post (some (.long v)) u) (hB : ∀ t : State, t.heap = H → s.vm.Alike t.vm → B u t) : W p l e R s m args below meth c H locs cells slots (MQ below (va_QV post B A) args s cells slots A) (F0 m pc ls [.long v]) := by
  have hl := K.2.2.2.2.1
  exact W.lret K.1 K.2.1 K.2.2.2.1 (r_w u hS hp hB) hS.2.2 hdg
theorem r_v {S : Type} {post : Option Value → S → Prop} {B : S → State → Prop} (K : WK p s m args meth c own cc maxL none) (u : S) (hS : va_S A s.heap H locs) (hdg : decode cc pc = .ok (.return_, 1)) (hp : post none u) (hB : ∀ t : State, t.heap = H → s.vm.Alike t.vm → B u t) : W p l e R s m args below meth c H locs cells slots (MQ below (va_QV post B A) args s cells slots A) (F0 m pc ls []) := by
  have hl := K.2.2.2.2.1
  exact W.vret K.1 K.2.1 K.2.2.2.1 (r_w u hS hp hB) hS.2.2 hdg
theorem r_a {S : Type} {post : Option Value → S → Prop} {B : S → State → Prop} {a : Nat} {nm : String} (K : WK p s m args meth c own cc maxL (some (.object nm))) (u : S) (hS : va_S A s.heap H locs) (hdg : decode cc pc = .ok (.areturn, 1)) (hp : post (some (.ref a)) u) (hB : ∀ t : State, t.heap = H → s.vm.Alike t.vm → B u t) : W p l e R s m args below meth c H locs cells slots (MQ below (va_QV post B A) args s cells slots A) (F0 m pc ls [.ref a]) := by
  have hl := K.2.2.2.2.1
  exact W.aret K.1 K.2.1 K.2.2.2.1 (Or.inl ⟨nm, rfl⟩) (Or.inr ⟨a, rfl⟩) (r_w u hS hp hB) hS.2.2 hdg
/-- behind a call that returned -/
theorem qv_call {S : Type} {post : Option Value → S → Prop} {B : S → State → Prop} {A0 A1 : Nat → Prop} {H0 : Heap} {st0 : List Value} {a : Array Value} {mc ms : Nat} {free : Addr → Prop}
    (hr : va_Run p l e R s m args below meth c H locs cells slots mc ms (F0 m pc ls st0) rest (va_QV post B A1 a) free) (hS : va_S A0 H0 H locs) (hA : ∀ q, q < H.size → A1 q → A0 q) (hf : ∀ q, free q → A0 q)
    (kk : ∀ (v : Option Value) (u : S) (t : State) (H1 : Heap) (locs1 : List Loc), t.heap = H1 → s.vm.Alike t.vm → post v u → B u t → H.size ≤ H1.size → (∀ q : Nat, q < H.size → ¬ A1 q → H1[q]? = H[q]?) → va_S A0 H0 H1 locs1 → W p l e R s m args below meth c H1 locs1 (cells + mc) (slots + ms) Q (F0 m (pc + 3) ls (v.toList ++ rest))) : W p l e R s m args below meth c H locs cells slots Q (F0 m pc ls st0) := by
  intro T hT X
  obtain ⟨v, st₀, t, T', L, h0, X', hL, e1, e2, ⟨⟨v', u, hv, hp, hb⟩, hz, hk⟩, st⟩ := hr T hT X
  cases hv
  rw [h0] at hz hk
  obtain ⟨t2, a1, b1⟩ := kk v u t T'.heap (locs ++ L) e1.symm (by rw [← e2]; exact X'.warmed.alike) hp hb (by rw [e1]; exact hz) (fun q h1 h2 => by rw [e1]; exact hk q h1 h2)
    ⟨Nat.le_trans hS.1 (by rw [e1]; exact hz), fun q h1 h2 => by rw [e1, hk q (Nat.lt_of_lt_of_le h1 hS.1) (fun z => h2 (hA q (Nat.lt_of_lt_of_le h1 hS.1) z))]; exact hS.2.1 q h1 h2, fun q hq => by
      rcases List.mem_append.mp hq with h | h
      · exact hS.2.2 q h
      · exact hf _ (hL q h)⟩ T' rfl X'
  exact ⟨t2, st t2 a1, b1⟩
theorem filterMap_of {ws wc : va_W} {is : List Nat} (h : is.map (fun i => ws[i]?) = wc.map some) : is.filterMap (fun i => ws[i]?) = wc := by
  have h2 := congrArg (List.filterMap id) h
  rw [List.filterMap_map, List.filterMap_map] at h2
  simpa using h2
/-- the callee's side of a call, paid out of 'big' -/
theorem cb_big {own : String} {index maxL mc ms n : Nat} {y : MethodName} {bytes : ByteArray} {ret : Option FieldType} {rm : Room} (hts : ∀ w ∈ big, w.before args s = true) (hcode : Cond.code y bytes maxL ret ∈ big) (hini : Cond.initialized y.cls ∈ big) (hl : Cond.methodLink own index y ∈ big) (hrc : rm.cells = mc) (hrs : rm.slots = ms)
    (hd : y.cls ≠ "java/lang/invoke/MethodHandle" ∧ y.cls ≠ "java/lang/invoke/VarHandle" ∧ (parseMethodDescriptor y.desc).map (fun d => d.parameters.length) = some n) (hR : rm.frames + 1 ≤ R.frames ∧ 8 + (maxL + 11) + rm.locals ≤ R.locals) :
    CallB R s args own index y bytes maxL ret (wsB y bytes maxL ret) rm mc ms n := by
  refine ⟨hrc, hrs, hR.1, hR.2, fun w hw => ?_, List.mem_cons_self, hts _ hcode, hts _ hini, ⟨hd.1, hd.2.1⟩, fun sig h => ?_, hts _ hl⟩
  · rcases List.mem_cons.mp hw with h | h
    · rw [h]; exact big_warm hts _ hcode
    · exact big_warm hts w h
  · have h2 := hd.2.2
    rw [h] at h2
    exact (Option.some.inj h2).symm
/-- invokevirtual -/
theorem cv {S : Type} {post : Option Value → S → Prop} {D : va_G} {tys tysC : List (ClassId × FieldType)} {ws wc wr : va_W} {w1 : S → va_W} {C : String} {index mlC mc ms n b : Nat} {y : MethodName} {bytes : ByteArray} {rtC : Option FieldType} {rm : Room} {As : List Value}
    (K : WK p s m args meth c own cc maxL ret) (hP : va_P D cls0 ws H) (hD : va_D A ws) (hK : va_K D cls0 tys s) (hS : va_S A s.heap H locs) (hA : ∀ q : Nat, s.heap.size ≤ q → A q) (hl : ls.size = maxL)
    (hM : Met l y (wsB y bytes mlC rtC) rm (va_Pc (.ref b :: As) (wPre D tysC wc H.size)) (va_QV post (fun u => wPost D tysC wc (w1 u) H.size) (va_A wc H.size)) mc ms (va_A wc H.size))
    (isC isR it : List Nat) (hC : isC.map (fun i => ws[i]?) = wc.map some) (hR : isR.map (fun i => ws[i]?) = wr.map some) (ht : it.filterMap (fun i => tys[i]?) = tysC) (hnC : va_nd isC = true) (hnR : va_nd isR = true) (hdis : ∀ i ∈ isR, i ∉ isC)
    (q0 : Nat) {ci : Nat} {fs : List Value} {T : u_T} {N : Nat} (hq : wc[q0]? = some (b, .inr (ci, fs))) (hci : cls0[ci]? = some (C, T, N))
    (hcode : Cond.code y bytes mlC rtC ∈ big) (hini : Cond.initialized y.cls ∈ big) (hlk : Cond.methodLink own index y ∈ big) (hin : Cond.instanceMethod y ∈ big) (hse : Cond.selects C y y ∈ big) (hrc : rm.cells = mc) (hrs : rm.slots = ms)
    (hd : y.cls ≠ "java/lang/invoke/MethodHandle" ∧ y.cls ≠ "java/lang/invoke/VarHandle" ∧ (parseMethodDescriptor y.desc).map (fun d => d.parameters.length) = some n) (hRo : rm.frames + 1 ≤ R.frames ∧ 8 + (mlC + 11) + rm.locals ≤ R.locals)
    (hn : As.length = n) (hW : (rest.map fun v => v.category).sum ≤ 8) (hdg : decode cc pc = .ok (.invokevirtual index, 3)) (hf : cells + mc ≤ R.cells ∧ slots + ms ≤ R.slots)
    {st : List Value} (hst : st = As.reverse ++ .ref b :: rest)
    (kk : ∀ (v : Option Value) (u : S) (H1 : Heap) (locs1 : List Loc), post v u → va_P D cls0 (wr ++ w1 u) H1 → va_D A (wr ++ w1 u) → va_S A s.heap H1 locs1 → va_K D cls0 (tys ++ tysC) s → W p l e R s m args below meth c H1 locs1 (cells + mc) (slots + ms) Q (F0 m (pc + 3) ls (v.toList ++ rest))) :
    W p l e R s m args below meth c H locs cells slots Q (F0 m pc ls st) := by
  have hPc := hP.sub (ws' := wc) isC (filterMap_of hC)
  have hDc := hD.sub (ws' := wc) isC hnC hC
  have hKc := hK.sub (tys' := tysC) it ht
  have hFc := va_free (wc := wc) hD hS hA isC hC
  refine qv_call (va_runV (As := As) (rest := rest) (Ts := big) ⟨K.1, K.2.1, K.2.2.1, K.2.2.2.2.2.2.1, K.2.2.2.2.2.1⟩ hM ⟨cb_big K.2.2.2.2.2.1 hcode hini hlk hrc hrs hd hRo, K.2.2.2.2.2.1 _ hin, K.2.2.2.2.2.1 _ hse⟩ ⟨wPre_blind, va_recv hKc hPc hci hq, fun U hU hWm => ⟨rfl, by rw [hU], by rw [hU]; exact hPc, va_K.moved hWm.alike hKc, hDc.weaken (fun _ _ _ _ => trivial)⟩⟩ rfl hn hl hst (lv_room hW) hdg hf) hS (fun q _ h => hFc q h) hFc (fun v u t H1 locs1 ht1 hvm hw hB hz1 hk1 hS1 => ?_)
  obtain ⟨hP1, hK1, hD1⟩ := hB
  rw [ht1] at hP1
  obtain ⟨hP2, hD2⟩ := va_join (wr := wr) (w1 := w1 u) hP hD isC isR hC hR hnR hdis hk1 hFc hP1 hD1
  exact kk v u H1 locs1 hw hP2 hD2 hS1 (hK.app hKc)
/-- invokestatic -/
theorem cs {S : Type} {post : Option Value → S → Prop} {D : va_G} {tys tysC : List (ClassId × FieldType)} {ws wc wr : va_W} {w1 : S → va_W} {index mlC mc ms n : Nat} {y : MethodName} {bytes : ByteArray} {rtC : Option FieldType} {rm : Room} {As : List Value}
    (K : WK p s m args meth c own cc maxL ret) (hP : va_P D cls0 ws H) (hD : va_D A ws) (hK : va_K D cls0 tys s) (hS : va_S A s.heap H locs) (hA : ∀ q : Nat, s.heap.size ≤ q → A q) (hl : ls.size = maxL)
    (hM : Met l y (wsB y bytes mlC rtC) rm (va_Pc As (wPre D tysC wc H.size)) (va_QV post (fun u => wPost D tysC wc (w1 u) H.size) (va_A wc H.size)) mc ms (va_A wc H.size))
    (isC isR it : List Nat) (hC : isC.map (fun i => ws[i]?) = wc.map some) (hR : isR.map (fun i => ws[i]?) = wr.map some) (ht : it.filterMap (fun i => tys[i]?) = tysC) (hnC : va_nd isC = true) (hnR : va_nd isR = true) (hdis : ∀ i ∈ isR, i ∉ isC)
    (hcode : Cond.code y bytes mlC rtC ∈ big) (hini : Cond.initialized y.cls ∈ big) (hlk : Cond.methodLink own index y ∈ big) (hstt : Cond.static y ∈ big) (hrc : rm.cells = mc) (hrs : rm.slots = ms)
    (hd : y.cls ≠ "java/lang/invoke/MethodHandle" ∧ y.cls ≠ "java/lang/invoke/VarHandle" ∧ (parseMethodDescriptor y.desc).map (fun d => d.parameters.length) = some n) (hRo : rm.frames + 1 ≤ R.frames ∧ 8 + (mlC + 11) + rm.locals ≤ R.locals)
    (hn : As.length = n) (hW : (rest.map fun v => v.category).sum ≤ 8) (hdg : decode cc pc = .ok (.invokestatic index, 3)) (hf : cells + mc ≤ R.cells ∧ slots + ms ≤ R.slots)
    {st : List Value} (hst : st = As.reverse ++ rest)
    (kk : ∀ (v : Option Value) (u : S) (H1 : Heap) (locs1 : List Loc), post v u → va_P D cls0 (wr ++ w1 u) H1 → va_D A (wr ++ w1 u) → va_S A s.heap H1 locs1 → va_K D cls0 (tys ++ tysC) s → W p l e R s m args below meth c H1 locs1 (cells + mc) (slots + ms) Q (F0 m (pc + 3) ls (v.toList ++ rest))) :
    W p l e R s m args below meth c H locs cells slots Q (F0 m pc ls st) := by
  have hPc := hP.sub (ws' := wc) isC (filterMap_of hC)
  have hDc := hD.sub (ws' := wc) isC hnC hC
  have hKc := hK.sub (tys' := tysC) it ht
  have hFc := va_free (wc := wc) hD hS hA isC hC
  refine qv_call (va_runS (As := As) (rest := rest) (Ts := big) ⟨K.1, K.2.1, K.2.2.1, K.2.2.2.2.2.2.1, K.2.2.2.2.2.1⟩ hM ⟨cb_big K.2.2.2.2.2.1 hcode hini hlk hrc hrs hd hRo, K.2.2.2.2.2.1 _ hstt⟩ ⟨wPre_blind, fun U hU hWm => ⟨rfl, by rw [hU], by rw [hU]; exact hPc, va_K.moved hWm.alike hKc, hDc.weaken (fun _ _ _ _ => trivial)⟩⟩ rfl hn hl hst (lv_room hW) hdg hf) hS (fun q _ h => hFc q h) hFc (fun v u t H1 locs1 ht1 hvm hw hB hz1 hk1 hS1 => ?_)
  obtain ⟨hP1, hK1, hD1⟩ := hB
  rw [ht1] at hP1
  obtain ⟨hP2, hD2⟩ := va_join (wr := wr) (w1 := w1 u) hP hD isC isR hC hR hnR hdis hk1 hFc hP1 hD1
  exact kk v u H1 locs1 hw hP2 hD2 hS1 (hK.app hKc)
end RC
