/-! THE LAW'S HELPERS: a call that throws is caught -/
/-- the four exceptions are no kinds of each other -/
def ncP : List (String × String) := [("java/lang/IndexOutOfBoundsException", "java/lang/ArithmeticException"), ("java/lang/IndexOutOfBoundsException", "java/lang/UnsupportedOperationException"), ("java/lang/IndexOutOfBoundsException", "java/lang/IllegalArgumentException"), ("java/lang/ArithmeticException", "java/lang/IndexOutOfBoundsException"), ("java/lang/ArithmeticException", "java/lang/UnsupportedOperationException"), ("java/lang/ArithmeticException", "java/lang/IllegalArgumentException"), ("java/lang/UnsupportedOperationException", "java/lang/IndexOutOfBoundsException"), ("java/lang/UnsupportedOperationException", "java/lang/ArithmeticException"), ("java/lang/UnsupportedOperationException", "java/lang/IllegalArgumentException"), ("java/lang/IllegalArgumentException", "java/lang/IndexOutOfBoundsException"), ("java/lang/IllegalArgumentException", "java/lang/ArithmeticException"), ("java/lang/IllegalArgumentException", "java/lang/UnsupportedOperationException")]
def NC (s : State) : Prop := ∀ q ∈ ncP, (Cond.not (.castable q.1 q.2)).before #[] s = true
theorem NC.keepA {s U : State} (h : NC s) (hv : s.vm.Alike U.vm) (a' : Array Value) : ∀ q ∈ ncP, (Cond.not (.castable q.1 q.2)).before a' U = true := by
  intro q hq
  have h1 := Cond.holds_not_iff.mp (h q hq)
  refine Cond.holds_not_iff.mpr ?_
  simp only [Cond.value] at h1 ⊢
  simp only [hv.findClass, hv.assignable]
  exact h1
theorem NC.keep {s U : State} (h : NC s) (hv : s.vm.Alike U.vm) : NC U := h.keepA hv #[]
abbrev wsW (y : MethodName) (cc : ByteArray) (maxL : Nat) (ret : Option FieldType) (hh : List (Nat × Nat × Nat × Nat)) : List Cond := Cond.codeWith y cc maxL ret hh :: big
abbrev wPreH (D : va_G) (tys : List (ClassId × FieldType)) (ws : va_W) (sz : Nat) (U : State) : Prop := wPre D tys ws sz U ∧ TH U ∧ NC U
theorem wPreH_blind {D : va_G} {tys : List (ClassId × FieldType)} {ws : va_W} {sz : Nat} {av : List Value} : FrameBlind (va_Pc av (wPreH D tys ws sz)) := fun a U g mk q => by
  obtain ⟨q0, ⟨q1, qP, qK, qD⟩, qT, qN⟩ := q
  exact ⟨q0, ⟨q1, qP, va_K.moved (u := U) (U := U.calling g mk a) (Vm.Alike.refl U.vm) qK, qD⟩, qT.keep (U := U.calling g mk a) (Vm.Alike.refl U.vm) (fun _ _ h _ => h), qN.keep (U := U.calling g mk a) (Vm.Alike.refl U.vm)⟩
abbrev WKH (p : Program) (s : State) (m : MethodId) (args : Array Value) (meth : Method) (c : Code) (own : String) (cc : ByteArray) (maxL : Nat) (ret : Option FieldType) : Prop :=
  p.tables.exec = Jvm.exec ∧ c.code = cc ∧ c.maxLocals = maxL ∧ meth.sig.returnType = ret ∧ meth.locks = false ∧ (∀ w ∈ big, w.before args s = true) ∧ s.vm.findClass own = some m.cls
theorem mh_enter {l : Launch} {y : MethodName} {rm : Room} {cc : ByteArray} {maxL : Nat} {ret : Option FieldType} {hh : List (Nat × Nat × Nat × Nat)} {av : List Value} {D : va_G} {tys : List (ClassId × FieldType)} {ws : va_W} {sz : Nat} {Qc : Array Value → State → Outcome → State → Prop} {mc ms : Nat}
    (hy : plainName y.cls = true) (hlen : (lg_sl av).length ≤ maxL)
    (body : ∀ (p : Program) (e : Env) (s : State) (m : MethodId) (args : Array Value) (below : List Frame) (meth : Method) (c : Code) (ls : Array Slot) (A : Nat → Prop) (R : Room) (Q : State → Prop) (H : Heap) (locs : List Loc), WKH p s m args meth c y.cls cc maxL ret → TH s → NC s → nSt A s.heap → c.exceptionTable.toList = tableOf hh → A = va_A ws sz → (∀ q : Nat, s.heap.size ≤ q → A q) → R = rm → Q = MQ below Qc args s mc ms A → va_P D cls0 ws H → va_K D cls0 tys s → va_D A ws → va_S A s.heap H locs → lv_has ls maxL (lv_args 0 av) →
      W p l e R s m args below meth c H locs 0 0 Q (F0 m 0 ls [])) : Met l y (wsW y cc maxL ret hh) rm (va_Pc av (wPreH D tys ws sz)) Qc mc ms (va_A ws sz) := by
  refine va_MetW (cc := cc) (maxL := maxL) (ret := ret) (hh := hh) hy rfl ?_
  intro p e s m args below meth c s₁ B hml hv
  obtain ⟨rfl, ⟨hsz, hP, hK, hD0⟩, hT, hN⟩ := hv
  have hts := atoms_spec (ws := wsW y cc maxL ret hh) B.pre
  subst hsz
  have hD := hD0.self (sz := s.heap.size)
  have hl := lv_entry av (n := maxL) hlen
  obtain ⟨m9, meth9, c9, hn9, hm9, hc9, -, -, ht9, -⟩ := Cond.codeWith_spec (hts _ List.mem_cons_self)
  cases B.named.symm.trans hn9
  cases B.method.symm.trans hm9
  have hcc : c = c9 := by
    have h := (Stand.of_body B).code
    exact Option.some.inj (h.symm.trans hc9)
  subst hcc
  rw [lg_entry_eq]
  exact body p e s m _ below meth c _ _ _ _ _ _ ⟨B.exec, B.bytes, hml, B.returns, B.notSynchronized, fun w h => hts w (List.mem_cons_of_mem _ h), findClass_of_methodNamed B.named⟩ hT hN hP.nSt (by rw [← ht9, table_eq]) rfl (fun q h => Or.inr h) rfl rfl hP hK hD va_S.rf hl
section RH
variable {p : Program} {l : Launch} {e : Env} {R : Room} {s : State} {m : MethodId} {args : Array Value} {below : List Frame} {meth : Method} {c : Code} {H : Heap} {locs : List Loc} {cells slots : Nat} {Q : State → Prop}
variable {own : String} {cc : ByteArray} {maxL : Nat} {ret : Option FieldType} {pc : Nat} {ls : Array Slot} {rest : List Value} {A : Nat → Prop}
theorem r_iH {S : Type} {post : Option Value → S → Prop} {B : S → State → Prop} {v : Int32} (K : WKH p s m args meth c own cc maxL (some .int)) (u : S) (hS : va_S A s.heap H locs) (hdg : decode cc pc = .ok (.ireturn, 1)) (hp : post (some (.int v)) u) (hB : ∀ t : State, t.heap = H → s.vm.Alike t.vm → B u t) : W p l e R s m args below meth c H locs cells slots (MQ below (va_QV post B A) args s cells slots A) (F0 m pc ls [.int v]) := by
  have hl := K.2.2.2.2.1
  exact W.iret K.1 K.2.1 K.2.2.2.1 (r_w u hS hp hB) hS.2.2 hdg
/-- invokevirtual, in a method with handlers -/
theorem cvH {S : Type} {post : Option Value → S → Prop} {D : va_G} {tys tysC : List (ClassId × FieldType)} {ws wc wr : va_W} {w1 : S → va_W} {C : String} {index mlC mc ms n b : Nat} {y : MethodName} {bytes : ByteArray} {rtC : Option FieldType} {rm : Room} {As : List Value}
    (K : WKH p s m args meth c own cc maxL ret) (hP : va_P D cls0 ws H) (hD : va_D A ws) (hK : va_K D cls0 tys s) (hS : va_S A s.heap H locs) (hA : ∀ q : Nat, s.heap.size ≤ q → A q) (hl : ls.size = maxL)
    (hM : Met l y (wsB y bytes mlC rtC) rm (va_Pc (.ref b :: As) (wPre D tysC wc H.size)) (va_QV post (fun u => wPost D tysC wc (w1 u) H.size) (va_A wc H.size)) mc ms (va_A wc H.size))
    (isC isR it : List Nat) (hC : isC.map (fun i => ws[i]?) = wc.map some) (hR : isR.map (fun i => ws[i]?) = wr.map some) (ht : it.filterMap (fun i => tys[i]?) = tysC) (hnC : va_nd isC = true) (hnR : va_nd isR = true) (hdis : ∀ i ∈ isR, i ∉ isC)
    (q0 : Nat) {ci : Nat} {fs : List Value} {T : u_T} {N : Nat} (hq : wc[q0]? = some (b, .inr (ci, fs))) (hci : cls0[ci]? = some (C, T, N))
    (hcode : Cond.code y bytes mlC rtC ∈ big) (hini : Cond.initialized y.cls ∈ big) (hlk : Cond.methodLink own index y ∈ big) (hin : Cond.instanceMethod y ∈ big) (hse : Cond.selects C y y ∈ big) (hrc : rm.cells = mc) (hrs : rm.slots = ms)
    (hd : y.cls ≠ "java/lang/invoke/MethodHandle" ∧ y.cls ≠ "java/lang/invoke/VarHandle" ∧ (parseMethodDescriptor y.desc).map (fun d => d.parameters.length) = some n) (hRo : rm.frames + 1 ≤ R.frames ∧ 8 + (mlC + 11) + rm.locals ≤ R.locals)
    (hn : As.length = n) (hW : (rest.map fun v => v.category).sum ≤ 8) (hdg : decode cc pc = .ok (.invokevirtual index, 3)) (hf : cells + mc ≤ R.cells ∧ slots + ms ≤ R.slots)
    {st : List Value} (hst : st = As.reverse ++ .ref b :: rest)
    (kk : ∀ (v : Option Value) (u : S) (H1 : Heap) (locs1 : List Loc), post v u → va_P D cls0 (wr ++ w1 u) H1 → va_D A (wr ++ w1 u) → va_S A s.heap H1 locs1 → va_K D cls0 (tys ++ tysC) s → W p l e R s m args below meth c H1 locs1 (cells + mc) (slots + ms) Q (F0 m (pc + 3) ls (v.toList ++ rest))) :
    W p l e R s m args below meth c H locs cells slots Q (F0 m pc ls st) := by
  have hPc := hP.sub (ws' := wc) isC (filterMap_of hC)
  have hDc := hD.sub (ws' := wc) isC hnC hC
  have hKc := hK.sub (tys' := tysC) it ht
  have hFc := va_free (wc := wc) hD hS hA isC hC
  refine qv_call (va_runV (As := As) (rest := rest) (Ts := big) ⟨K.1, K.2.1, K.2.2.1, K.2.2.2.2.2.2, K.2.2.2.2.2.1⟩ hM ⟨cb_big K.2.2.2.2.2.1 hcode hini hlk hrc hrs hd hRo, K.2.2.2.2.2.1 _ hin, K.2.2.2.2.2.1 _ hse⟩ ⟨wPre_blind, va_recv hKc hPc hci hq, fun U hU hWm => ⟨rfl, by rw [hU], by rw [hU]; exact hPc, va_K.moved hWm.alike hKc, hDc.weaken (fun _ _ _ _ => trivial)⟩⟩ rfl hn hl hst (lv_room hW) hdg hf) hS (fun q _ h => hFc q h) hFc (fun v u t H1 locs1 ht1 hvm hw hB hz1 hk1 hS1 => ?_)
  obtain ⟨hP1, hK1, hD1⟩ := hB
  rw [ht1] at hP1
  obtain ⟨hP2, hD2⟩ := va_join (wr := wr) (w1 := w1 u) hP hD isC isR hC hR hnR hdis hk1 hFc hP1 hD1
  exact kk v u H1 locs1 hw hP2 hD2 hS1 (hK.app hKc)

/-- invokevirtual of what throws, and the catch -/
theorem cvC {S : Type} {E : String} {post : S → Prop} {D : va_G} {tys tysC : List (ClassId × FieldType)} {ws wc wr : va_W} {w1 : S → va_W} {C : String} {index mlC n b : Nat} {y : MethodName} {bytes : ByteArray} {rtC : Option FieldType} {rm : Room} {As : List Value}
    (K : WKH p s m args meth c own cc maxL ret) (hth : TH s) (hNC : NC s) (hnS : nSt A s.heap) (hP : va_P D cls0 ws H) (hD : va_D A ws) (hK : va_K D cls0 tys s) (hS : va_S A s.heap H locs) (hA : ∀ q : Nat, s.heap.size ≤ q → A q) (hl : ls.size = maxL)
    (hM : MetX l y (wsB y bytes mlC rtC) rm (va_Pc (.ref b :: As) (wPreT D tysC wc H.size)) (va_QT E post (fun u => wPost D tysC wc (w1 u) H.size) (va_A wc H.size)) 1 6 (va_A wc H.size))
    (isC isR it : List Nat) (hC : isC.map (fun i => ws[i]?) = wc.map some) (hR : isR.map (fun i => ws[i]?) = wr.map some) (ht : it.filterMap (fun i => tys[i]?) = tysC) (hnC : va_nd isC = true) (hnR : va_nd isR = true) (hdis : ∀ i ∈ isR, i ∉ isC)
    (q0 : Nat) {ci : Nat} {fs : List Value} {T : u_T} {N : Nat} (hq : wc[q0]? = some (b, .inr (ci, fs))) (hci : cls0[ci]? = some (C, T, N))
    (hcode : Cond.code y bytes mlC rtC ∈ big) (hini : Cond.initialized y.cls ∈ big) (hlk : Cond.methodLink own index y ∈ big) (hin : Cond.instanceMethod y ∈ big) (hse : Cond.selects C y y ∈ big) (hrc : rm.cells = 1) (hrs : rm.slots = 6)
    (hd : y.cls ≠ "java/lang/invoke/MethodHandle" ∧ y.cls ≠ "java/lang/invoke/VarHandle" ∧ (parseMethodDescriptor y.desc).map (fun d => d.parameters.length) = some n) (hRo : rm.frames + 1 ≤ R.frames ∧ 8 + (mlC + 11) + rm.locals ≤ R.locals)
    (hn : As.length = n) (hW : (rest.map fun v => v.category).sum ≤ 8) (hdg : decode cc pc = .ok (.invokevirtual index, 3)) (hf : cells + 1 ≤ R.cells ∧ slots + 6 ≤ R.slots)
    {st : List Value} (hst : st = As.reverse ++ .ref b :: rest)
    {hh : List (Nat × Nat × Nat × Nat)} (hTb : c.exceptionTable.toList = tableOf hh) (pre rest_ : List ExceptionTableEntry) (x : ExceptionTableEntry) (hsp : tableOf hh = pre ++ x :: rest_) (hpre : ∀ y ∈ pre, y.catchType ≠ 0 ∧ ∃ name, Cond.classLink own y.catchType name ∈ big ∧ (E, name) ∈ ncP) (hx : covers x pc = true) (hx0 : x.catchType ≠ 0) (hlx : Cond.classLink own x.catchType E ∈ big) (hcE : Cond.castable E E ∈ big)
    (kk : ∀ (xa : Addr) (u : S) (H1 : Heap) (locs1 : List Loc), post u → va_P D cls0 (wr ++ w1 u) H1 → va_D A (wr ++ w1 u) → va_S A s.heap H1 locs1 → W p l e R s m args below meth c H1 locs1 (cells + 1) (slots + 6) Q (F0 m x.handlerPc ls [.ref xa])) :
    W p l e R s m args below meth c H locs cells slots Q (F0 m pc ls st) := by
  have hPc := hP.sub (ws' := wc) isC (filterMap_of hC)
  have hDc := hD.sub (ws' := wc) isC hnC hC
  have hKc := hK.sub (tys' := tysC) it ht
  have hFc := va_free (wc := wc) hD hS hA isC hC
  refine va_callX (va_runXV (As := As) (rest := rest) (Ts := big) ⟨K.1, K.2.1, K.2.2.1, K.2.2.2.2.2.2, K.2.2.2.2.2.1⟩ hM ⟨cb_big K.2.2.2.2.2.1 hcode hini hlk hrc hrs hd hRo, K.2.2.2.2.2.1 _ hin, K.2.2.2.2.2.1 _ hse⟩ ⟨wPreT_blind, va_recv hKc hPc hci hq, fun U hU hWm => ⟨rfl, ⟨by rw [hU], by rw [hU]; exact hPc, va_K.moved hWm.alike hKc, hDc.weaken (fun _ _ _ _ => trivial)⟩, hth.keep hWm.alike (fun q cell h1 h2 => by rw [hU]; exact hS.stat hnS h1 h2)⟩⟩ rfl hn hl hst (lv_room hW) hdg hf) hS (fun q _ h => hFc q h) hFc (fun v u t H1 locs1 h1 h2 h3 => h3.elim) (fun xa X2 u t H1 locs1 h1 h2 h3 h4 h5 h6 h7 h8 T hT hvm X => ?_)
  obtain ⟨rfl, h3⟩ := h3
  obtain ⟨hP1, hK1, hD1⟩ := h4
  rw [h1] at hP1
  obtain ⟨hP2, hD2⟩ := va_join (wr := wr) (w1 := w1 u) hP hD isC isR hC hR hnR hdis h7 hFc hP1 hD1
  obtain ⟨cell, k1, k2, k3⟩ := h5
  have hts := K.2.2.2.2.2.1
  have hfs : s.vm.findClass X2 = some cell.cls := by rw [← h2.findClass]; exact k2
  obtain ⟨c3, c4, hc3, hc4, hasg⟩ := Cond.castable_spec (hts _ hcE)
  cases hfs.symm.trans hc3
  cases hfs.symm.trans hc4
  obtain ⟨hend, hk0⟩ := X.catches_of_link K.2.2.2.2.2.2 hx0 (hts _ hlx) hfs hasg
  have hpl : e.platform.magicAccessors = ({} : Platform).magicAccessors := by rw [X.admits.platform]
  obtain ⟨vm', XV, stV⟩ := X.thenCaughtThrough xa (g := F0 m pc ls rest) rfl (Steps.refl _) (cell := cell) (by rw [hT, ← h1]; exact k1) (by rw [k3]; rfl) hk0 pre x rest_ (hTb.trans hsp) (fun y hy => by
    obtain ⟨q1, nm, q2, q3⟩ := hpre y hy
    exact RowPassed.of_words hpl K.2.2.2.2.2.2 q1 (hts _ q2) hfs (hNC.keepA (Vm.Alike.refl s.vm) args _ q3)) hx hend
  obtain ⟨t2, a1, b1⟩ := kk xa u H1 locs1 h3 hP2 hD2 h8 (T.setVm vm') hT XV
  exact ⟨t2, stV.trans a1, b1⟩

theorem zz_last {D : va_G} {tys : List (ClassId × FieldType)} {ws : va_W} {H0 : Heap} {ad : Nat} (hexec : p.tables.exec = Jvm.exec) (hb : c.code = cc) (hK : va_K D cls0 tys s) (hP : va_P D cls0 ws H) (hD : va_D A ws) (hS : va_S A H0 H locs) (q0 t0 : Nat) {cA : ClassId} {n : Nat} {f : Nat → Int64} (ha : ws[q0]? = some (ad, .inl (cA, n, .inr (.inl f)))) (ht : tys[t0]? = some (cA, .long)) {z : Int} {x : Int64} (i : Nat) (hz : z = i) (hi : i < n) (hn : n < 2147483648) (hdg : decode cc pc = .ok (.lastore, 1))
    (kk : ∀ (H1 : Heap) (locs1 : List Loc), va_P D cls0 (ws.set q0 (ad, .inl (cA, n, .inr (.inl (vp_updL f i x))))) H1 → va_D A (ws.set q0 (ad, .inl (cA, n, .inr (.inl (vp_updL f i x))))) → va_S A H0 H1 locs1 → W p l e R s m args below meth c H1 locs1 cells slots Q (F0 m (pc + 1) ls (rest))) : W p l e R s m args below meth c H locs cells slots Q (F0 m pc ls (.long x :: .int (iZ z) :: .ref ad :: rest)) := by
  have e : (iZ z).toNatClampNeg = i := iZ_cl hz (by omega)
  exact va_last hexec hb hK hP hD hS q0 t0 ha ht (iZ_in (by omega) (by omega) hn) hdg (by rw [e]; exact kk)
theorem zz_lald {D : va_G} {tys : List (ClassId × FieldType)} {ws : va_W} {ad : Nat} (hexec : p.tables.exec = Jvm.exec) (hb : c.code = cc) (hK : va_K D cls0 tys s) (hP : va_P D cls0 ws H) (q0 t0 : Nat) {cA : ClassId} {n : Nat} {f : Nat → Int64} (ha : ws[q0]? = some (ad, .inl (cA, n, .inr (.inl f)))) (ht : tys[t0]? = some (cA, .long)) {z : Int} (i : Nat) (hz : z = i) (hi : i < n) (hn : n < 2147483648) (hdg : decode cc pc = .ok (.laload, 1))
    (kk : W p l e R s m args below meth c H locs cells slots Q (F0 m (pc + 1) ls (.long (f i) :: rest))) : W p l e R s m args below meth c H locs cells slots Q (F0 m pc ls (.int (iZ z) :: .ref ad :: rest)) := by
  have e : (iZ z).toNatClampNeg = i := iZ_cl hz (by omega)
  exact va_lald hexec hb hK hP q0 t0 ha ht (iZ_in (by omega) (by omega) hn) hdg (by rw [e]; exact kk)
end RH
