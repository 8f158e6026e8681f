/-! CONTRACTS THAT THROW: entry, the throw, a call that throws -/
abbrev wPreT (D : va_G) (tys : List (ClassId × FieldType)) (ws : va_W) (sz : Nat) (U : State) : Prop := wPre D tys ws sz U ∧ TH U
/-- the end: an E was thrown, 'post u', the world B u -/
def va_QT {S : Type} (E : String) (post : S → Prop) (B : S → State → Prop) (A : Nat → Prop) : Array Value → State → Outcome → State → Prop := va_QX (fun _ _ => False) (fun X u => X = E ∧ post u) B A
theorem wPreT_blind {D : va_G} {tys : List (ClassId × FieldType)} {ws : va_W} {sz : Nat} {av : List Value} : FrameBlind (va_Pc av (wPreT D tys ws sz)) := fun a U g mk q => by
  obtain ⟨q0, ⟨q1, qP, qK, qD⟩, qT⟩ := q
  exact ⟨q0, ⟨q1, qP, va_K.moved (u := U) (U := U.calling g mk a) (Vm.Alike.refl U.vm) qK, qD⟩, qT.keep (U := U.calling g mk a) (Vm.Alike.refl U.vm) (fun _ _ h _ => h)⟩
theorem vp_cell_vm (cA : ClassId) (a : vp_A) : (vp_cell cA a).vm = .none := by
  obtain ⟨n, f | f | f | f | f⟩ := a <;> rfl
theorem va_P.nSt {D : va_G} {cl : List vw_C} {ws : va_W} {H : Heap} (h : va_P D cl ws H) : nSt (va_A ws H.size) H := by
  intro q cell hA hc
  rcases hA with ⟨k, x, hk⟩ | hA
  · have h1 := h k _ hk
    obtain ⟨⟨cA, a⟩⟩ | ⟨⟨ci, fs⟩⟩ := x
    · have h2 : H[q]? = some (vp_cell cA a) := h1
      cases hc.symm.trans h2
      rw [vp_cell_vm]; rfl
    · obtain ⟨r, -, cell', h2, -, h3, -⟩ := h1
      cases hc.symm.trans h2
      rw [h3]; rfl
  · exact absurd (Array.getElem?_eq_some_iff.mp hc).1 (Nat.not_lt.mpr hA)
theorem mx_enter {l : Launch} {y : MethodName} {rm : Room} {cc : ByteArray} {maxL : Nat} {ret : Option FieldType} {av : List Value} {D : va_G} {tys : List (ClassId × FieldType)} {ws : va_W} {sz : Nat} {Qc : Array Value → State → Outcome → State → Prop} {mc ms : Nat}
    (hy : plainName y.cls = true) (hlen : (lg_sl av).length ≤ maxL)
    (body : ∀ (p : Program) (e : Env) (s : State) (m : MethodId) (args : Array Value) (below : List Frame) (meth : Method) (c : Code) (ls : Array Slot) (A : Nat → Prop) (R : Room) (Q : State → Prop) (H : Heap) (locs : List Loc), WK p s m args meth c y.cls cc maxL ret → TH s → nSt A s.heap → meth.name = y.name → A = va_A ws sz → (∀ q : Nat, s.heap.size ≤ q → A q) → R = rm → Q = MQX below Qc args s mc ms A → va_P D cls0 ws H → va_K D cls0 tys s → va_D A ws → va_S A s.heap H locs → lv_has ls maxL (lv_args 0 av) →
      W p l e R s m args below meth c H locs 0 0 Q (F0 m 0 ls [])) : MetX l y (wsB y cc maxL ret) rm (va_Pc av (wPreT D tys ws sz)) Qc mc ms (va_A ws sz) := by
  refine MetX.ofW (cc := cc) (maxL := maxL) (ret := ret) hy rfl ?_
  intro p e s m args below meth c s₁ B hml hv
  obtain ⟨rfl, ⟨hsz, hP, hK, hD0⟩, hT⟩ := hv
  have hts := atoms_spec (ws := wsB y cc maxL ret) B.pre
  subst hsz
  have hD := hD0.self (sz := s.heap.size)
  have hl := lv_entry av (n := maxL) hlen
  rw [lg_entry_eq]
  exact body p e s m _ below meth c _ _ _ _ _ _ ⟨B.exec, B.bytes, hml, B.returns, B.notSynchronized, fun w h => hts w (List.mem_cons_of_mem _ h), findClass_of_methodNamed B.named, B.noHandlers (hts _ List.mem_cons_self)⟩ hT hP.nSt (name_of_methodNamed B.named B.method).1 rfl (fun q h => Or.inr h) rfl rfl hP hK hD va_S.rf hl
section RX
variable {p : Program} {l : Launch} {e : Env} {R : Room} {s : State} {m : MethodId} {args : Array Value} {below : List Frame} {meth : Method} {c : Code} {H : Heap} {locs : List Loc} {Q : State → Prop}
variable {own : String} {cc : ByteArray} {maxL : Nat} {ret : Option FieldType} {pc : Nat} {ls : Array Slot} {rest : List Value} {A : Nat → Prop}
theorem va_P.grown {D : va_G} {cl : List vw_C} {ws : va_W} {H H1 : Heap} (h : va_P D cl ws H) (hk : ∀ q : Nat, q < H.size → H1[q]? = H[q]?) : va_P D cl ws H1 := h.kept (fun k x hx => hk x.1 ((h k x hx).lt))
/-- the method itself throws -/
theorem x_new {S : Type} {E text : String} {post : S → Prop} {D : va_G} {tys : List (ClassId × FieldType)} {w0 : va_W} {wp : S → va_W} {sz ic is im : Nat} {names : List String} (u : S)
    (K : WK p s m args meth c own cc maxL ret) (hth : TH s) (hn : nSt A s.heap) (htr : l.stackTraces = false) (hS : va_S A s.heap H locs) (hK : va_K D cls0 tys s) (hls : ls.size = maxL)
    (hE : Bundle.fit E = true ∧ (∀ n ∈ names, Bundle.fit n = true) ∧ (∀ w ∈ Bundle.ownAtoms own im E names, w ∈ big ∨ w ∈ thW)) (hcl : Cond.classLink own ic E ∈ big) (hini : Cond.initialized E ∈ big) (hins : Cond.instantiable E 6 ∈ big) (hst : Cond.stringRef own is text ∈ big)
    (hd0 : decode cc pc = .ok (.new ic, 3)) (hd3 : decode cc (pc + 3) = .ok (.dup, 1)) (hd4 : decode cc (pc + 4) = .ok (.ldc is, 2)) (hd6 : decode cc (pc + 6) = .ok (.invokespecial im, 3)) (hd9 : decode cc (pc + 9) = .ok (.athrow, 1))
    (hRc : 1 ≤ R.cells ∧ 6 ≤ R.slots ∧ names.length + 3 < R.frames ∧ 13 * (names.length + 1) + 50 ≤ R.locals)
    (hpost : post u) (hP : va_P D cls0 (wp u) H) (hD : va_D (va_A w0 sz) (wp u)) :
    W p l e R s m args below meth c H locs 0 0 (MQX below (va_QT E post (fun u => wPost D tys w0 (wp u) sz) A) args s 1 6 A) (F0 m pc ls []) := by
  refine th_row K hth htr hS hn hls hE.1 hE.2.1 hE.2.2 hcl hini hins hst hd0 hd3 hd4 hd6 hd9 (by omega) (by omega) hRc.2.2.1 hRc.2.2.2 (fun t h1 h2 h3 h4 => ?_) hS.2.2
  exact ⟨Or.inr ⟨_, E, u, rfl, ⟨rfl, hpost⟩, ⟨hP.grown h2, va_K.moved h3 hK, hD⟩, h4⟩, Nat.le_trans hS.1 h1, fun q k1 k2 => by rw [h2 q (Nat.lt_of_lt_of_le k1 hS.1)]; exact hS.2.1 q k1 k2⟩
/-- behind a call that threw: the exception goes out -/
theorem qt_out {S S' : Type} {E : String} {post : S → Prop} {post' : S' → Prop} {B : S → State → Prop} {D : va_G} {tys : List (ClassId × FieldType)} {w0 : va_W} {wp : S' → va_W} {sz : Nat} {A1 : Nat → Prop} {st0 : List Value} {a : Array Value} {free : Addr → Prop}
    (K : WK p s m args meth c own cc maxL ret) (hr : va_RunX p l e R s m args below meth c H locs 0 0 1 6 (F0 m pc ls st0) rest (va_QT E post B A1 a) free) (hS : va_S A s.heap H locs) (hK : va_K D cls0 tys s) (hA : ∀ q, q < H.size → A1 q → A q) (hf : ∀ q, free q → A q)
    (kk : ∀ (u : S) (t : State) (H1 : Heap), t.heap = H1 → s.vm.Alike t.vm → post u → B u t → (∀ q : Nat, q < H.size → ¬ A1 q → H1[q]? = H[q]?) → ∃ u' : S', post' u' ∧ va_P D cls0 (wp u') H1 ∧ va_D (va_A w0 sz) (wp u')) :
    W p l e R s m args below meth c H locs 0 0 (MQX below (va_QT E post' (fun u => wPost D tys w0 (wp u) sz) A) args s 1 6 A) (F0 m pc ls st0) := by
  refine va_callX hr hS hA hf (fun v u t H1 locs1 h1 h2 h3 => h3.elim) (fun x X2 u t H1 locs1 h1 h2 h3 h4 h5 h6 h7 h8 T hT hvm X => ?_)
  obtain ⟨rfl, h3⟩ := h3
  obtain ⟨u', p1, p2, p3⟩ := kk u t H1 h1 h2 h3 h4 h7
  refine va_out X K.2.2.2.2.2.2.2 K.2.2.2.2.1 (fun t2 ht2 hv2 => ⟨Or.inr ⟨x, X2, u', rfl, ⟨rfl, p1⟩, ⟨by rw [ht2, hT]; exact p2, va_K.moved (by rw [hv2, hvm]; exact h2) hK, p3⟩, ?_⟩, h8.F (ht2.trans hT)⟩) h8.2.2
  obtain ⟨cell, k1, k2, k3⟩ := h5
  exact ⟨cell, by rw [ht2, hT, ← h1]; exact k1, by rw [hv2, hvm]; exact k2, k3⟩
/-- invokestatic of what throws -/
theorem csT {S S' : Type} {E : String} {post : S → Prop} {post' : S' → Prop} {D : va_G} {tys tysC tys0 : List (ClassId × FieldType)} {ws wc wr w0 : va_W} {w1 : S → va_W} {wp : S' → va_W} {sz index mlC n : Nat} {y : MethodName} {bytes : ByteArray} {rtC : Option FieldType} {rm : Room} {As : List Value}
    (K : WK p s m args meth c own cc maxL ret) (hth : TH s) (hnS : nSt A s.heap) (hP : va_P D cls0 ws H) (hD : va_D A ws) (hK : va_K D cls0 tys s) (hK0 : va_K D cls0 tys0 s) (hS : va_S A s.heap H locs) (hA : ∀ q : Nat, s.heap.size ≤ q → A q) (hAe : A = va_A w0 sz) (hl : ls.size = maxL)
    (hM : MetX l y (wsB y bytes mlC rtC) rm (va_Pc As (wPreT D tysC wc H.size)) (va_QT E post (fun u => wPost D tysC wc (w1 u) H.size) (va_A wc H.size)) 1 6 (va_A wc H.size))
    (isC isR it : List Nat) (hC : isC.map (fun i => ws[i]?) = wc.map some) (hR : isR.map (fun i => ws[i]?) = wr.map some) (ht : it.filterMap (fun i => tys[i]?) = tysC) (hnC : va_nd isC = true) (hnR : va_nd isR = true) (hdis : ∀ i ∈ isR, i ∉ isC)
    (hcode : Cond.code y bytes mlC rtC ∈ big) (hini : Cond.initialized y.cls ∈ big) (hlk : Cond.methodLink own index y ∈ big) (hstt : Cond.static y ∈ big) (hrc : rm.cells = 1) (hrs : rm.slots = 6)
    (hd : y.cls ≠ "java/lang/invoke/MethodHandle" ∧ y.cls ≠ "java/lang/invoke/VarHandle" ∧ (parseMethodDescriptor y.desc).map (fun d => d.parameters.length) = some n) (hRo : rm.frames + 1 ≤ R.frames ∧ 8 + (mlC + 11) + rm.locals ≤ R.locals)
    (hn : As.length = n) (hW : (rest.map fun v => v.category).sum ≤ 8) (hdg : decode cc pc = .ok (.invokestatic index, 3)) (hf : 1 ≤ R.cells ∧ 6 ≤ R.slots)
    {st : List Value} (hst : st = As.reverse ++ rest)
    (kk : ∀ (u : S) (H1 : Heap), post u → va_P D cls0 (wr ++ w1 u) H1 → va_D A (wr ++ w1 u) → ∃ u' : S', post' u' ∧ va_P D cls0 (wp u') H1 ∧ va_D A (wp u')) :
    W p l e R s m args below meth c H locs 0 0 (MQX below (va_QT E post' (fun u => wPost D tys0 w0 (wp u) sz) A) args s 1 6 A) (F0 m pc ls st) := by
  have hPc := hP.sub (ws' := wc) isC (filterMap_of hC)
  have hDc := hD.sub (ws' := wc) isC hnC hC
  have hKc := hK.sub (tys' := tysC) it ht
  have hFc := va_free (wc := wc) hD hS hA isC hC
  refine qt_out K (va_runXS (As := As) (rest := rest) (Ts := big) ⟨K.1, K.2.1, K.2.2.1, K.2.2.2.2.2.2.1, K.2.2.2.2.2.1⟩ hM ⟨cb_big K.2.2.2.2.2.1 hcode hini hlk hrc hrs hd hRo, K.2.2.2.2.2.1 _ hstt⟩ ⟨wPreT_blind, fun U hU hWm => ⟨rfl, ⟨by rw [hU], by rw [hU]; exact hPc, va_K.moved hWm.alike hKc, hDc.weaken (fun _ _ _ _ => trivial)⟩, hth.keep hWm.alike (fun q cell h1 h2 => by rw [hU]; exact hS.stat hnS h1 h2)⟩⟩ rfl hn hl hst (lv_room hW) hdg ⟨by omega, by omega⟩) hS hK0 (fun q _ h => hFc q h) hFc (fun u t H1 ht1 hvm hw hB hk1 => ?_)
  obtain ⟨hP1, hK1, hD1⟩ := hB
  rw [ht1] at hP1
  obtain ⟨hP2, hD2⟩ := va_join (wr := wr) (w1 := w1 u) hP hD isC isR hC hR hnR hdis hk1 hFc hP1 hD1
  obtain ⟨u', q1, q2, q3⟩ := kk u H1 hw hP2 hD2
  exact ⟨u', q1, q2, by rw [← hAe]; exact q3⟩
/-- invokevirtual of what throws -/
theorem cvT {S S' : Type} {E : String} {post : S → Prop} {post' : S' → Prop} {D : va_G} {tys tysC tys0 : List (ClassId × FieldType)} {ws wc wr w0 : va_W} {w1 : S → va_W} {wp : S' → va_W} {C : String} {sz index mlC n b : Nat} {y : MethodName} {bytes : ByteArray} {rtC : Option FieldType} {rm : Room} {As : List Value}
    (K : WK p s m args meth c own cc maxL ret) (hth : TH s) (hnS : nSt A s.heap) (hP : va_P D cls0 ws H) (hD : va_D A ws) (hK : va_K D cls0 tys s) (hK0 : va_K D cls0 tys0 s) (hS : va_S A s.heap H locs) (hA : ∀ q : Nat, s.heap.size ≤ q → A q) (hAe : A = va_A w0 sz) (hl : ls.size = maxL)
    (hM : MetX l y (wsB y bytes mlC rtC) rm (va_Pc (.ref b :: As) (wPreT D tysC wc H.size)) (va_QT E post (fun u => wPost D tysC wc (w1 u) H.size) (va_A wc H.size)) 1 6 (va_A wc H.size))
    (isC isR it : List Nat) (hC : isC.map (fun i => ws[i]?) = wc.map some) (hR : isR.map (fun i => ws[i]?) = wr.map some) (ht : it.filterMap (fun i => tys[i]?) = tysC) (hnC : va_nd isC = true) (hnR : va_nd isR = true) (hdis : ∀ i ∈ isR, i ∉ isC)
    (q0 : Nat) {ci : Nat} {fs : List Value} {T : u_T} {N : Nat} (hq : wc[q0]? = some (b, .inr (ci, fs))) (hci : cls0[ci]? = some (C, T, N))
    (hcode : Cond.code y bytes mlC rtC ∈ big) (hini : Cond.initialized y.cls ∈ big) (hlk : Cond.methodLink own index y ∈ big) (hin : Cond.instanceMethod y ∈ big) (hse : Cond.selects C y y ∈ big) (hrc : rm.cells = 1) (hrs : rm.slots = 6)
    (hd : y.cls ≠ "java/lang/invoke/MethodHandle" ∧ y.cls ≠ "java/lang/invoke/VarHandle" ∧ (parseMethodDescriptor y.desc).map (fun d => d.parameters.length) = some n) (hRo : rm.frames + 1 ≤ R.frames ∧ 8 + (mlC + 11) + rm.locals ≤ R.locals)
    (hn : As.length = n) (hW : (rest.map fun v => v.category).sum ≤ 8) (hdg : decode cc pc = .ok (.invokevirtual index, 3)) (hf : 1 ≤ R.cells ∧ 6 ≤ R.slots)
    {st : List Value} (hst : st = As.reverse ++ .ref b :: rest)
    (kk : ∀ (u : S) (H1 : Heap), post u → va_P D cls0 (wr ++ w1 u) H1 → va_D A (wr ++ w1 u) → ∃ u' : S', post' u' ∧ va_P D cls0 (wp u') H1 ∧ va_D A (wp u')) :
    W p l e R s m args below meth c H locs 0 0 (MQX below (va_QT E post' (fun u => wPost D tys0 w0 (wp u) sz) A) args s 1 6 A) (F0 m pc ls st) := by
  have hPc := hP.sub (ws' := wc) isC (filterMap_of hC)
  have hDc := hD.sub (ws' := wc) isC hnC hC
  have hKc := hK.sub (tys' := tysC) it ht
  have hFc := va_free (wc := wc) hD hS hA isC hC
  refine qt_out K (va_runXV (As := As) (rest := rest) (Ts := big) ⟨K.1, K.2.1, K.2.2.1, K.2.2.2.2.2.2.1, K.2.2.2.2.2.1⟩ hM ⟨cb_big K.2.2.2.2.2.1 hcode hini hlk hrc hrs hd hRo, K.2.2.2.2.2.1 _ hin, K.2.2.2.2.2.1 _ hse⟩ ⟨wPreT_blind, va_recv hKc hPc hci hq, fun U hU hWm => ⟨rfl, ⟨by rw [hU], by rw [hU]; exact hPc, va_K.moved hWm.alike hKc, hDc.weaken (fun _ _ _ _ => trivial)⟩, hth.keep hWm.alike (fun q cell h1 h2 => by rw [hU]; exact hS.stat hnS h1 h2)⟩⟩ rfl hn hl hst (lv_room hW) hdg ⟨by omega, by omega⟩) hS hK0 (fun q _ h => hFc q h) hFc (fun u t H1 ht1 hvm hw hB hk1 => ?_)
  obtain ⟨hP1, hK1, hD1⟩ := hB
  rw [ht1] at hP1
  obtain ⟨hP2, hD2⟩ := va_join (wr := wr) (w1 := w1 u) hP hD isC isR hC hR hnR hdis hk1 hFc hP1 hD1
  obtain ⟨u', q1, q2, q3⟩ := kk u H1 hw hP2 hD2
  exact ⟨u', q1, q2, by rw [← hAe]; exact q3⟩
end RX
