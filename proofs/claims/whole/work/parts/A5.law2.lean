/-! THE LAW'S OWN CALLS: of the helpers (methods with handlers), of cell, of the constructors; the script -/
section RL
variable {p : Program} {l : Launch} {e : Env} {R : Room} {s : State} {m : MethodId} {args : Array Value} {below : List Frame} {meth : Method} {c : Code} {H : Heap} {locs : List Loc} {cells slots : Nat} {Q : State → Prop}
variable {own : String} {cc : ByteArray} {maxL : Nat} {ret : Option FieldType} {pc : Nat} {ls : Array Slot} {rest : List Value} {A : Nat → Prop}
/-- invokespecial of a constructor, in the law -/
theorem ciH {S : Type} {post : Option Value → S → Prop} {D : va_G} {tys tysC : List (ClassId × FieldType)} {ws wc wr : va_W} {w1 : S → va_W} {index mlC mc ms n b : Nat} {y : MethodName} {bytes : ByteArray} {rm : Room} {As : List Value}
    (K : WKH p s m args meth c own cc maxL ret) (hP : va_P D cls0 ws H) (hD : va_D A ws) (hK : va_K D cls0 tys s) (hS : va_S A s.heap H locs) (hA : ∀ q : Nat, s.heap.size ≤ q → A q) (hl : ls.size = maxL)
    (hM : Met l y (wsB y bytes mlC none) rm (va_Pc (.ref b :: As) (wPre D tysC wc H.size)) (va_QV post (fun u => wPost D tysC wc (w1 u) H.size) (va_A wc H.size)) mc ms (va_A wc H.size))
    (isC isR it : List Nat) (hC : isC.map (fun i => ws[i]?) = wc.map some) (hR : isR.map (fun i => ws[i]?) = wr.map some) (ht : it.filterMap (fun i => tys[i]?) = tysC) (hnC : va_nd isC = true) (hnR : va_nd isR = true) (hdis : ∀ i ∈ isR, i ∉ isC)
    (hcode : Cond.code y bytes mlC none ∈ big) (hini : Cond.initialized y.cls ∈ big) (hlk : Cond.methodLink own index y ∈ big) (hyn : y.name = "<init>") (hin : Cond.instanceMethod y ∈ big) (hrc : rm.cells = mc) (hrs : rm.slots = ms)
    (hd : y.cls ≠ "java/lang/invoke/MethodHandle" ∧ y.cls ≠ "java/lang/invoke/VarHandle" ∧ (parseMethodDescriptor y.desc).map (fun d => d.parameters.length) = some n) (hRo : rm.frames + 1 ≤ R.frames ∧ 8 + (mlC + 11) + rm.locals ≤ R.locals)
    (hn : As.length = n) (hW : (rest.map fun v => v.category).sum ≤ 8) (hdg : decode cc pc = .ok (.invokespecial index, 3)) (hf : cells + mc ≤ R.cells ∧ slots + ms ≤ R.slots)
    {st : List Value} (hst : st = As.reverse ++ .ref b :: rest)
    (kk : ∀ (v : Option Value) (u : S) (H1 : Heap) (locs1 : List Loc), post v u → va_P D cls0 (wr ++ w1 u) H1 → va_D A (wr ++ w1 u) → va_S A s.heap H1 locs1 → va_K D cls0 (tys ++ tysC) s → W p l e R s m args below meth c H1 locs1 (cells + mc) (slots + ms) Q (F0 m (pc + 3) ls (v.toList ++ rest))) :
    W p l e R s m args below meth c H locs cells slots Q (F0 m pc ls st) := by
  have hPc := hP.sub (ws' := wc) isC (filterMap_of hC)
  have hDc := hD.sub (ws' := wc) isC hnC hC
  have hKc := hK.sub (tys' := tysC) it ht
  have hFc := va_free (wc := wc) hD hS hA isC hC
  refine qv_call (va_runI (As := As) (rest := rest) (Ts := big) ⟨K.1, K.2.1, K.2.2.1, K.2.2.2.2.2.2, K.2.2.2.2.2.1⟩ hM ⟨cb_big K.2.2.2.2.2.1 hcode hini hlk hrc hrs hd hRo, hyn, K.2.2.2.2.2.1 _ hin⟩ ⟨wPre_blind, fun U hU hWm => ⟨rfl, by rw [hU], by rw [hU]; exact hPc, va_K.moved hWm.alike hKc, hDc.weaken (fun _ _ _ _ => trivial)⟩⟩ rfl hn hl hst (lv_room hW) hdg hf) hS (fun q _ h => hFc q h) hFc (fun v u t H1 locs1 ht1 hvm hw hB hz1 hk1 hS1 => ?_)
  obtain ⟨hP1, hK1, hD1⟩ := hB
  rw [ht1] at hP1
  obtain ⟨hP2, hD2⟩ := va_join (wr := wr) (w1 := w1 u) hP hD isC isR hC hR hnR hdis hk1 hFc hP1 hD1
  exact kk v u H1 locs1 hw hP2 hD2 hS1 (hK.app hKc)
/-- invokestatic of a method with handlers -/
theorem csW {S : Type} {post : Option Value → S → Prop} {D : va_G} {tys tysC : List (ClassId × FieldType)} {ws wc wr : va_W} {w1 : S → va_W} {index mlC mc ms n : Nat} {y : MethodName} {bytes : ByteArray} {rtC : Option FieldType} {rm : Room} {As : List Value} {hh : List (Nat × Nat × Nat × Nat)}
    (K : WKH p s m args meth c own cc maxL ret) (hth : TH s) (hNC : NC s) (hnS : nSt A s.heap) (hP : va_P D cls0 ws H) (hD : va_D A ws) (hK : va_K D cls0 tys s) (hS : va_S A s.heap H locs) (hA : ∀ q : Nat, s.heap.size ≤ q → A q) (hl : ls.size = maxL)
    (hM : Met l y (wsW y bytes mlC rtC hh) rm (va_Pc As (wPreH D tysC wc H.size)) (va_QV post (fun u => wPost D tysC wc (w1 u) H.size) (va_A wc H.size)) mc ms (va_A wc H.size))
    (isC isR it : List Nat) (hC : isC.map (fun i => ws[i]?) = wc.map some) (hR : isR.map (fun i => ws[i]?) = wr.map some) (ht : it.filterMap (fun i => tys[i]?) = tysC) (hnC : va_nd isC = true) (hnR : va_nd isR = true) (hdis : ∀ i ∈ isR, i ∉ isC)
    (hcode : Cond.codeWith y bytes mlC rtC hh ∈ big) (hini : Cond.initialized y.cls ∈ big) (hlk : Cond.methodLink own index y ∈ big) (hstt : Cond.static y ∈ big) (hrc : rm.cells = mc) (hrs : rm.slots = ms)
    (hd : y.cls ≠ "java/lang/invoke/MethodHandle" ∧ y.cls ≠ "java/lang/invoke/VarHandle" ∧ (parseMethodDescriptor y.desc).map (fun d => d.parameters.length) = some n) (hRo : rm.frames + 1 ≤ R.frames ∧ 8 + (mlC + 11) + rm.locals ≤ R.locals)
    (hn : As.length = n) (hW : (rest.map fun v => v.category).sum ≤ 8) (hdg : decode cc pc = .ok (.invokestatic index, 3)) (hf : cells + mc ≤ R.cells ∧ slots + ms ≤ R.slots)
    {st : List Value} (hst : st = As.reverse ++ rest)
    (kk : ∀ (v : Option Value) (u : S) (H1 : Heap) (locs1 : List Loc), post v u → va_P D cls0 (wr ++ w1 u) H1 → va_D A (wr ++ w1 u) → va_S A s.heap H1 locs1 → va_K D cls0 (tys ++ tysC) s → W p l e R s m args below meth c H1 locs1 (cells + mc) (slots + ms) Q (F0 m (pc + 3) ls (v.toList ++ rest))) :
    W p l e R s m args below meth c H locs cells slots Q (F0 m pc ls st) := by
  have hPc := hP.sub (ws' := wc) isC (filterMap_of hC)
  have hDc := hD.sub (ws' := wc) isC hnC hC
  have hKc := hK.sub (tys' := tysC) it ht
  have hFc := va_free (wc := wc) hD hS hA isC hC
  have hts := K.2.2.2.2.2.1
  have hB : Back l R p e below s args y 3 8 (PreOf R mc ms (va_Pc As (wPreH D tysC wc H.size))) (PostOf (va_QV post (fun u => wPost D tysC wc (w1 u) H.size) (va_A wc H.size)) mc ms (va_A wc H.size)) := va_backW (hh := hh) hM wPreH_blind hrc hrs hRo.1 hRo.2 (fun w hw a' U hW => by
    rcases List.mem_cons.mp hw with h | h
    · rw [h]; exact big_warm hts _ hcode a' U hW
    · exact big_warm hts w h a' U hW) List.mem_cons_self (fun a' U hW => big_warm hts _ hini a' U hW)
  have hrun : va_Run p l e R s m args below meth c H locs cells slots mc ms (F0 m pc ls st) rest (va_QV post (fun u => wPost D tysC wc (w1 u) H.size) (va_A wc H.size) As.toArray) (va_A wc H.size) := by
    intro T hT X
    obtain ⟨v, vm₁, ⟨U', l2, c2, s2⟩, hW₁, X', ⟨g', mk, t, L, e1, e2, hq, h1, hL, h2, h3⟩, st'⟩ := Jvm.RoadKit.callSH X K.1 (bytes := bytes) (maxL := mlC) (ret := rtC) (hs := hh) K.2.2.2.2.2.2 (hts _ hlk) (hts _ hstt) (hts _ hini) (hts _ hcode) ⟨hd.1, hd.2.1⟩ hB (g := F0 m pc ls st) rfl (hl.trans K.2.2.1.symm) (argsL := As) (rest := rest) (fun sig h => by
      have h2 := hd.2.2
      rw [h] at h2
      exact hn.trans (Option.some.inj h2).symm) hst (lv_room hW) (by rw [K.2.1]; exact hdg) (fun vm₁ hW₁ => ⟨hf.1, hf.2, rfl, ⟨by show T.heap.size = _; rw [hT], by show va_P D cls0 wc T.heap; rw [hT]; exact hPc, va_K.moved hW₁.alike hKc, hDc.weaken (fun _ _ _ _ => trivial)⟩, hth.keep hW₁.alike (fun q cell h1 h2 => by show T.heap[q]? = _; rw [hT]; exact hS.stat hnS h1 h2), hNC.keep hW₁.alike⟩)
    dsimp only [Pt.U, Pt.locs, Pt.cells, Pt.slots] at X' e1 e2 h1 h2 h3 st'
    subst h1; subst h2; subst h3
    exact ⟨v, (T.setVm vm₁).calling g' mk As.toArray, t, U', L, hT, X', hL, e1, e2, hq, st'⟩
  refine qv_call hrun hS (fun q _ h => hFc q h) hFc (fun v u t H1 locs1 ht1 hvm hw hB hz1 hk1 hS1 => ?_)
  obtain ⟨hP1, hK1, hD1⟩ := hB
  rw [ht1] at hP1
  obtain ⟨hP2, hD2⟩ := va_join (wr := wr) (w1 := w1 u) hP hD isC isR hC hR hnR hdis hk1 hFc hP1 hD1
  exact kk v u H1 locs1 hw hP2 hD2 hS1 (hK.app hKc)
theorem zz_sld (hexec : p.tables.exec = Jvm.exec) (hb : c.code = cc) {b L : Nat} {sc : Nat → Int32} (hX : va_X b L sc s s.heap) (hbl : b < s.heap.size) (hbA : ¬ A b) (hS : va_S A s.heap H locs) {z : Int} (j : Nat) (hz : z = (j : Int)) (hj : j < L) (hL : L ≤ 3073) (hdg : decode cc pc = .ok (.iaload, 1))
    (kk : W p l e R s m args below meth c H locs cells slots Q (F0 m (pc + 1) ls (.int (sc j) :: rest))) : W p l e R s m args below meth c H locs cells slots Q (F0 m pc ls (.int (iZ z) :: .ref b :: rest)) := by
  have e : (iZ z).toNatClampNeg = j := iZ_cl hz (by omega)
  exact va_sld hexec hb hX hbl hbA hS (iZ_in (by omega) (by omega) (by omega)) hdg (by rw [e]; exact kk)
theorem zz_slen (hexec : p.tables.exec = Jvm.exec) (hb : c.code = cc) {b L : Nat} {sc : Nat → Int32} (hX : va_X b L sc s s.heap) (hbl : b < s.heap.size) (hbA : ¬ A b) (hS : va_S A s.heap H locs) (hdg : decode cc pc = .ok (.arraylength, 1))
    (kk : W p l e R s m args below meth c H locs cells slots Q (F0 m (pc + 1) ls (.int (iZ (L : Int)) :: rest))) : W p l e R s m args below meth c H locs cells slots Q (F0 m pc ls (.ref b :: rest)) :=
  va_slen hexec hb hX hbl hbA hS hdg (by rw [show Int32.ofNat L = iZ (L : Int) from nI_iZ L]; exact kk)
/-- the two answers are one -/
theorem zz_lcmpS {off : Int} {tgt : Nat} {x y : Int64} (hexec : p.tables.exec = Jvm.exec) (hb : c.code = cc) (hdg : decode cc pc = .ok (.lcmp, 1)) (hdg2 : decode cc (pc + 1) = .ok (.ifCond .eq off, 3)) (ht : ((pc + 1 : Nat) : Int) + off = (tgt : Int)) (hxy : y = x)
    (kk : W p l e R s m args below meth c H locs cells slots Q (F0 m tgt ls rest)) : W p l e R s m args below meth c H locs cells slots Q (F0 m pc ls (.long x :: .long y :: rest)) := by
  subst hxy
  have e : y = lZ y.toInt := (Int64.ofInt_toInt y).symm
  have h1 := Int64.le_toInt y
  have h2 := Int64.toInt_lt y
  rw [e]
  exact zz_lcmp_eq hexec hb hdg hdg2 ht (by omega) (by omega) (fun _ => kk) (fun q => absurd rfl q)
/-- the two ints are one -/
theorem zz_icmpS {off : Int} {tgt : Nat} {x y : Int32} (hexec : p.tables.exec = Jvm.exec) (hb : c.code = cc) (hdg : decode cc pc = .ok (.if_icmp .eq off, 3)) (ht : (pc : Int) + off = (tgt : Int)) (hxy : y = x)
    (kk : W p l e R s m args below meth c H locs cells slots Q (F0 m tgt ls rest)) : W p l e R s m args below meth c H locs cells slots Q (F0 m pc ls (.int x :: .int y :: rest)) := by
  subst hxy
  exact lv_icmp_eq hexec hb hdg ht (fun _ => kk) (fun q => absurd rfl q)
end RL
/-- cell(script, 0) -/
theorem c_La_cell (l : Launch) (b L : Nat) (sc : Nat → Int32) (sz : Nat) (hL : L ≤ 3073) : Met l y_La_cell (wsB y_La_cell b_La_cell 2 (some .int)) ({ frames := 0, cells := 0, slots := 0, locals := 0 }) (va_Pc [.ref b, .int (iZ 0)] (fun U => U.heap.size = sz ∧ b < sz ∧ va_X b L sc U U.heap)) (va_QV (fun v (_ : Unit) => v = some (.int (if 0 < L then sc 0 else iZ 0))) (fun _ _ => True) (fun q => sz ≤ q)) 0 0 (fun q => sz ≤ q) := by
  refine Met.ofWF (cc := b_La_cell) (maxL := 2) (ret := some .int) (by decide +kernel) rfl ?_
  intro p e s m args below meth c s₁ B hml hv
  obtain ⟨rfl, hsz, hbl, hX⟩ := hv
  have hts := atoms_spec (ws := wsB y_La_cell b_La_cell 2 (some .int)) B.pre
  subst hsz
  have hl := lv_entry [.ref b, .int (iZ 0)] (n := 2) (Nat.le_of_ble_eq_true rfl)
  rw [lg_entry_eq]
  have K : WK p s m _ meth c y_La_cell.cls b_La_cell 2 (some .int) := ⟨B.exec, B.bytes, hml, B.returns, B.notSynchronized, fun w h => hts w (List.mem_cons_of_mem _ h), findClass_of_methodNamed B.named, B.noHandlers (hts _ List.mem_cons_self)⟩
  generalize (lg_sl [Value.ref b, Value.int (iZ 0)] ++ List.replicate (2 - (lg_sl [Value.ref b, Value.int (iZ 0)]).length) Slot.unset).toArray = ls at hl ⊢
  have hl : lv_has ls 2 [(0, .ref b), (1, .int (iZ 0))] := hl
  have hS : va_S (fun q => s.heap.size ≤ q) s.heap s.heap [] := va_S.rf
  have hbA : ¬ (fun q => s.heap.size ≤ q) b := Nat.not_le.mpr hbl
  have hx := B.exec
  have hb := B.bytes
  show W _ _ _ _ _ _ _ _ _ _ _ _ _ _ _ (F0 m 0 ls [])
  refine lv_iload_n hx hb d_La_cell_0 rfl (lv_at hl 1 rfl) ?_
  refine lv_aload_n hx hb d_La_cell_1 rfl (lv_at hl 0 rfl) ?_
  refine zz_slen hx hb hX hbl hbA hS d_La_cell_2 ?_
  refine zz_icmp_ge (tgt := 12) hx hb d_La_cell_3 (by decide) (by omega) (by omega) (fun c3 => ?_) (fun c3 => ?_)
  · refine lv_iconst (v := iZ 0) hx hb d_La_cell_12 (by decide +kernel) ?_
    exact r_i K () hS d_La_cell_13 (by rw [if_neg (by omega)]) (fun _ _ _ => trivial)
  · refine lv_aload_n hx hb d_La_cell_6 rfl (lv_at hl 0 rfl) ?_
    refine lv_iload_n hx hb d_La_cell_7 rfl (lv_at hl 1 rfl) ?_
    refine zz_sld hx hb hX hbl hbA hS 0 rfl (by omega) hL d_La_cell_8 ?_
    refine lv_goto (tgt := 13) hx hb d_La_cell_9 (by decide) ?_
    exact r_i K () hS d_La_cell_13 (by rw [if_pos (by omega)]) (fun _ _ _ => trivial)
section RL2
variable {p : Program} {l : Launch} {e : Env} {R : Room} {s : State} {m : MethodId} {args : Array Value} {below : List Frame} {meth : Method} {c : Code} {H : Heap} {locs : List Loc} {cells slots : Nat} {Q : State → Prop}
variable {own : String} {cc : ByteArray} {maxL : Nat} {ret : Option FieldType} {pc : Nat} {ls : Array Slot} {rest : List Value} {A : Nat → Prop}
/-- the call cell(script, 0) in the law -/
theorem cs_cell {D : va_G} {ws : va_W} {index b L : Nat} {sc : Nat → Int32} (K : WKH p s m args meth c own cc maxL ret) (hP : va_P D cls0 ws H) (hD : va_D A ws) (hS : va_S A s.heap H locs) (hA : ∀ q : Nat, s.heap.size ≤ q → A q) (hl : ls.size = maxL) (hX : va_X b L sc s s.heap) (hbl : b < s.heap.size) (hbA : ¬ A b) (hL : L ≤ 3073)
    (hlk : Cond.methodLink own index y_La_cell ∈ big) (hRo : 1 ≤ R.frames ∧ 21 ≤ R.locals) (hW : (rest.map fun v => v.category).sum ≤ 8) (hdg : decode cc pc = .ok (.invokestatic index, 3)) (hf : cells ≤ R.cells ∧ slots ≤ R.slots)
    (kk : ∀ (H1 : Heap) (locs1 : List Loc), va_P D cls0 ws H1 → va_D A ws → va_S A s.heap H1 locs1 → W p l e R s m args below meth c H1 locs1 cells slots Q (F0 m (pc + 3) ls (.int (if 0 < L then sc 0 else iZ 0) :: rest))) :
    W p l e R s m args below meth c H locs cells slots Q (F0 m pc ls (.int (iZ 0) :: .ref b :: rest)) := by
  have hts := K.2.2.2.2.2.1
  have hbH : H[b]? = s.heap[b]? := hS.2.1 b hbl hbA
  have hle : s.heap.size ≤ H.size := hS.1
  refine qv_call (va_runS (As := [.ref b, .int (iZ 0)]) (rest := rest) (Ts := big) ⟨K.1, K.2.1, K.2.2.1, K.2.2.2.2.2.2, hts⟩ (c_La_cell l b L sc H.size hL) ⟨cb_big hts (big_in mw_275 rfl) (big_in mw_0 rfl) hlk rfl rfl (n := 2) (by decide +kernel) ⟨hRo.1, hRo.2⟩, hts _ (big_in mw_274 rfl)⟩ ⟨fun a U g mk q => ⟨q.1, q.2.1, q.2.2.1, q.2.2.2.moved (Vm.Alike.refl U.vm)⟩, fun U hU hWm => ⟨rfl, by rw [hU], Nat.lt_of_lt_of_le hbl hle, by rw [hU]; exact (hX.kept hbH).moved hWm.alike⟩⟩ rfl rfl hl rfl (lv_room hW) hdg ⟨hf.1, hf.2⟩) hS (fun q hq h => absurd hq (Nat.not_lt.mpr h)) (fun q h => hA q (Nat.le_trans hle h)) (fun v u t H1 locs1 ht1 hvm hw hB hz1 hk1 hS1 => ?_)
  subst hw
  exact kk H1 locs1 (fun k q hq => (hP k q hq).kept (hk1 q.1 (hP k q hq).lt (Nat.not_le.mpr (hP k q hq).lt))) hD hS1
end RL2
