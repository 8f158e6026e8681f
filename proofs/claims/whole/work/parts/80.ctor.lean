/-! CONSTRUCTORS: new arrays, Object's constructor, a call of a constructor -/
section CT
variable {p : Program} {l : Launch} {e : Env} {R : Room} {s : State} {m : MethodId} {args : Array Value} {below : List Frame} {meth : Method} {c : Code} {H : Heap} {locs : List Loc} {cells slots : Nat} {Q : State → Prop}
variable {own : String} {cc : ByteArray} {maxL : Nat} {ret : Option FieldType} {pc : Nat} {ls : Array Slot} {rest : List Value} {A : Nat → Prop}
theorem iZ_00 : iZ 0 = 0 := by decide +kernel
theorem lZ_00 : lZ 0 = 0 := by decide +kernel
theorem nw_i {N : Nat} (cA : ClassId) : vp_cell cA (N, .inl (fun _ => iZ 0)) = arrV cA N (fun _ => defaultValue .int) := by
  rw [vp_cell_i, iZ_00]; exact congrArg (arrV cA N) (funext fun _ => rfl)
theorem nw_c {N : Nat} (cA : ClassId) : vp_cell cA (N, .inl (fun _ => iZ 0)) = arrV cA N (fun _ => defaultValue .char) := by
  rw [vp_cell_i, iZ_00]; exact congrArg (arrV cA N) (funext fun _ => rfl)
theorem nw_j {N : Nat} (cA : ClassId) : vp_cell cA (N, .inr (.inl (fun _ => lZ 0))) = arrV cA N (fun _ => defaultValue .long) := by
  rw [vp_cell_l, lZ_00]; exact congrArg (arrV cA N) (funext fun _ => rfl)
theorem zz_newA {D : va_G} {tys : List (ClassId × FieldType)} {ws : va_W} {H0 : Heap} {atype : ArrayType} {ty : FieldType} {cI : ClassId} {z : Int} (N : Nat) {a0 : vp_A} (hty : newarray.typeOf atype = ty) (hno : ∀ C, ty ≠ .object C) (ha : ∀ cA : ClassId, vp_cell cA a0 = arrV cA N (fun _ => defaultValue ty)) (hexec : p.tables.exec = Jvm.exec) (hb : c.code = cc) (harr : (Cond.arrayClass ty).before args s = true) (hK : va_K D cls0 tys s) (hP : va_P D cls0 ws H) (hD : va_D A ws) (hS : va_S A H0 H locs) (hA : ∀ q, H0.size ≤ q → A q)
    (i : Nat) (hi : tys[i]? = some (cI, ty)) (hz : z = (N : Int)) (hN : N ≤ 1000000) (hcb : componentBytes ty ≤ 8) (hcells : cells + 1 ≤ R.cells) (hslots : slots + N ≤ R.slots) (hdg : decode cc pc = .ok (.newarray atype, 2))
    (kk : ∀ (q : Nat) (H1 : Heap), va_P D cls0 (ws ++ [(q, .inl (cI, a0))]) H1 → va_D A (ws ++ [(q, .inl (cI, a0))]) → va_S A H0 H1 locs → W p l e R s m args below meth c H1 locs (cells + 1) (slots + N) Q (F0 m (pc + 2) ls (.ref q :: rest))) : W p l e R s m args below meth c H locs cells slots Q (F0 m pc ls (.int (iZ z) :: rest)) := by
  subst hz
  have hr : -2147483648 ≤ (N : Int) ∧ (N : Int) < 2147483648 := by omega
  have h0 : ¬ iZ (N : Int) < 0 := by
    show ¬ iZ (N : Int) < iZ 0
    rw [iZ_lt hr (by omega)]; omega
  have h1 : (iZ (N : Int)).toNatClampNeg = N := by
    rw [Int32.toNatClampNeg, iZ_toInt hr.1 hr.2]; omega
  have hcbN : N * componentBytes ty ≤ 536870912 := Nat.le_trans (Nat.mul_le_mul hN hcb) (by decide)
  refine va_newa hexec hb (by rw [hty]; exact harr) hty hK hP hD hS hA ha h0 h1 hcbN hcells hslots hdg (fun q cA H1 hK1 hP1 hD1 hS1 => ?_)
  have e1 := (hK.2 i _ hi).2
  have e2 := (hK1.2 tys.length (cA, ty) (by rw [List.getElem?_append_right (Nat.le_refl _), Nat.sub_self]; rfl)).2
  have e : cA = cI := by
    cases ty with
    | object C => exact absurd rfl (hno C)
    | _ => exact Option.some.inj (Eq.trans (Eq.symm e2) e1)
  subst e
  exact kk q H1 hP1 hD1 hS1
theorem zz_newI {D : va_G} {tys : List (ClassId × FieldType)} {ws : va_W} {H0 : Heap} {cI : ClassId} {z : Int} (N : Nat) (hexec : p.tables.exec = Jvm.exec) (hb : c.code = cc) (harr : (Cond.arrayClass .int).before args s = true) (hK : va_K D cls0 tys s) (hP : va_P D cls0 ws H) (hD : va_D A ws) (hS : va_S A H0 H locs) (hA : ∀ q, H0.size ≤ q → A q)
    (i : Nat) (hi : tys[i]? = some (cI, .int)) (hz : z = (N : Int)) (hN : N ≤ 1000000) (hcells : cells + 1 ≤ R.cells) (hslots : slots + N ≤ R.slots) (hdg : decode cc pc = .ok (.newarray .int, 2))
    (kk : ∀ (q : Nat) (H1 : Heap), va_P D cls0 (ws ++ [(q, .inl (cI, N, .inl (fun _ => iZ 0)))]) H1 → va_D A (ws ++ [(q, .inl (cI, N, .inl (fun _ => iZ 0)))]) → va_S A H0 H1 locs → W p l e R s m args below meth c H1 locs (cells + 1) (slots + N) Q (F0 m (pc + 2) ls (.ref q :: rest))) : W p l e R s m args below meth c H locs cells slots Q (F0 m pc ls (.int (iZ z) :: rest)) :=
  zz_newA N (atype := .int) (ty := .int) (a0 := (N, .inl (fun _ => iZ 0))) rfl (fun C h => by cases h) nw_i hexec hb harr hK hP hD hS hA i hi hz hN (by decide) hcells hslots hdg kk
theorem zz_newC {D : va_G} {tys : List (ClassId × FieldType)} {ws : va_W} {H0 : Heap} {cI : ClassId} {z : Int} (N : Nat) (hexec : p.tables.exec = Jvm.exec) (hb : c.code = cc) (harr : (Cond.arrayClass .char).before args s = true) (hK : va_K D cls0 tys s) (hP : va_P D cls0 ws H) (hD : va_D A ws) (hS : va_S A H0 H locs) (hA : ∀ q, H0.size ≤ q → A q)
    (i : Nat) (hi : tys[i]? = some (cI, .char)) (hz : z = (N : Int)) (hN : N ≤ 1000000) (hcells : cells + 1 ≤ R.cells) (hslots : slots + N ≤ R.slots) (hdg : decode cc pc = .ok (.newarray .char, 2))
    (kk : ∀ (q : Nat) (H1 : Heap), va_P D cls0 (ws ++ [(q, .inl (cI, N, .inl (fun _ => iZ 0)))]) H1 → va_D A (ws ++ [(q, .inl (cI, N, .inl (fun _ => iZ 0)))]) → va_S A H0 H1 locs → W p l e R s m args below meth c H1 locs (cells + 1) (slots + N) Q (F0 m (pc + 2) ls (.ref q :: rest))) : W p l e R s m args below meth c H locs cells slots Q (F0 m pc ls (.int (iZ z) :: rest)) :=
  zz_newA N (atype := .char) (ty := .char) (a0 := (N, .inl (fun _ => iZ 0))) rfl (fun C h => by cases h) nw_c hexec hb harr hK hP hD hS hA i hi hz hN (by decide) hcells hslots hdg kk
theorem zz_newJ {D : va_G} {tys : List (ClassId × FieldType)} {ws : va_W} {H0 : Heap} {cI : ClassId} {z : Int} (N : Nat) (hexec : p.tables.exec = Jvm.exec) (hb : c.code = cc) (harr : (Cond.arrayClass .long).before args s = true) (hK : va_K D cls0 tys s) (hP : va_P D cls0 ws H) (hD : va_D A ws) (hS : va_S A H0 H locs) (hA : ∀ q, H0.size ≤ q → A q)
    (i : Nat) (hi : tys[i]? = some (cI, .long)) (hz : z = (N : Int)) (hN : N ≤ 1000000) (hcells : cells + 1 ≤ R.cells) (hslots : slots + N ≤ R.slots) (hdg : decode cc pc = .ok (.newarray .long, 2))
    (kk : ∀ (q : Nat) (H1 : Heap), va_P D cls0 (ws ++ [(q, .inl (cI, N, .inr (.inl (fun _ => lZ 0))))]) H1 → va_D A (ws ++ [(q, .inl (cI, N, .inr (.inl (fun _ => lZ 0))))]) → va_S A H0 H1 locs → W p l e R s m args below meth c H1 locs (cells + 1) (slots + N) Q (F0 m (pc + 2) ls (.ref q :: rest))) : W p l e R s m args below meth c H locs cells slots Q (F0 m pc ls (.int (iZ z) :: rest)) :=
  zz_newA N (atype := .long) (ty := .long) (a0 := (N, .inr (.inl (fun _ => lZ 0)))) rfl (fun C h => by cases h) nw_j hexec hb harr hK hP hD hS hA i hi hz hN (by decide) hcells hslots hdg kk
theorem zz_obj (hexec : p.tables.exec = Jvm.exec) (hb : c.code = cc) (hown : s.vm.findClass own = some m.cls) {idx a : Nat} (hlink : (Cond.methodLink own idx Lib.objectInit).before args s = true) (hinst : (Cond.instanceMethod Lib.objectInit).before args s = true) (hcode : (Cond.code Lib.objectInit ⟨#[0xb1]⟩ 1 none).before args s = true)
    (hml : c.maxLocals = maxL) (hl : ls.size = maxL) (hW : (rest.map fun v => v.category).sum ≤ 8) (hf : 1 ≤ R.frames) (hlo : 20 ≤ R.locals) (hdg : decode cc pc = .ok (.invokespecial idx, 3)) (kk : W p l e R s m args below meth c H locs cells slots Q (F0 m (pc + 3) ls rest)) : W p l e R s m args below meth c H locs cells slots Q (F0 m pc ls (.ref a :: rest)) := by
  refine W.objInit hexec hb hown hlink hinst hcode (g := F0 m pc ls (.ref a :: rest)) rfl (hl.trans hml.symm) rfl hdg hf ?_ kk
  show 2 * 0 + _ + 12 ≤ R.locals
  omega
/-- invokespecial of a constructor -/
theorem ci {S : Type} {post : Option Value → S → Prop} {D : va_G} {tys tysC : List (ClassId × FieldType)} {ws wc wr : va_W} {w1 : S → va_W} {index mlC mc ms n b : Nat} {y : MethodName} {bytes : ByteArray} {rm : Room} {As : List Value}
    (K : WK p s m args meth c own cc maxL ret) (hP : va_P D cls0 ws H) (hD : va_D A ws) (hK : va_K D cls0 tys s) (hS : va_S A s.heap H locs) (hA : ∀ q : Nat, s.heap.size ≤ q → A q) (hl : ls.size = maxL)
    (hM : Met l y (wsB y bytes mlC none) rm (va_Pc (.ref b :: As) (wPre D tysC wc H.size)) (va_QV post (fun u => wPost D tysC wc (w1 u) H.size) (va_A wc H.size)) mc ms (va_A wc H.size))
    (isC isR it : List Nat) (hC : isC.map (fun i => ws[i]?) = wc.map some) (hR : isR.map (fun i => ws[i]?) = wr.map some) (ht : it.filterMap (fun i => tys[i]?) = tysC) (hnC : va_nd isC = true) (hnR : va_nd isR = true) (hdis : ∀ i ∈ isR, i ∉ isC)
    (hcode : Cond.code y bytes mlC none ∈ big) (hini : Cond.initialized y.cls ∈ big) (hlk : Cond.methodLink own index y ∈ big) (hyn : y.name = "<init>") (hin : Cond.instanceMethod y ∈ big) (hrc : rm.cells = mc) (hrs : rm.slots = ms)
    (hd : y.cls ≠ "java/lang/invoke/MethodHandle" ∧ y.cls ≠ "java/lang/invoke/VarHandle" ∧ (parseMethodDescriptor y.desc).map (fun d => d.parameters.length) = some n) (hRo : rm.frames + 1 ≤ R.frames ∧ 8 + (mlC + 11) + rm.locals ≤ R.locals)
    (hn : As.length = n) (hW : (rest.map fun v => v.category).sum ≤ 8) (hdg : decode cc pc = .ok (.invokespecial index, 3)) (hf : cells + mc ≤ R.cells ∧ slots + ms ≤ R.slots)
    {st : List Value} (hst : st = As.reverse ++ .ref b :: rest)
    (kk : ∀ (v : Option Value) (u : S) (H1 : Heap) (locs1 : List Loc), post v u → va_P D cls0 (wr ++ w1 u) H1 → va_D A (wr ++ w1 u) → va_S A s.heap H1 locs1 → va_K D cls0 (tys ++ tysC) s → W p l e R s m args below meth c H1 locs1 (cells + mc) (slots + ms) Q (F0 m (pc + 3) ls (v.toList ++ rest))) :
    W p l e R s m args below meth c H locs cells slots Q (F0 m pc ls st) := by
  have hPc := hP.sub (ws' := wc) isC (filterMap_of hC)
  have hDc := hD.sub (ws' := wc) isC hnC hC
  have hKc := hK.sub (tys' := tysC) it ht
  have hFc := va_free (wc := wc) hD hS hA isC hC
  refine qv_call (va_runI (As := As) (rest := rest) (Ts := big) ⟨K.1, K.2.1, K.2.2.1, K.2.2.2.2.2.2.1, K.2.2.2.2.2.1⟩ hM ⟨cb_big K.2.2.2.2.2.1 hcode hini hlk hrc hrs hd hRo, hyn, K.2.2.2.2.2.1 _ hin⟩ ⟨wPre_blind, fun U hU hWm => ⟨rfl, by rw [hU], by rw [hU]; exact hPc, va_K.moved hWm.alike hKc, hDc.weaken (fun _ _ _ _ => trivial)⟩⟩ rfl hn hl hst (lv_room hW) hdg hf) hS (fun q _ h => hFc q h) hFc (fun v u t H1 locs1 ht1 hvm hw hB hz1 hk1 hS1 => ?_)
  obtain ⟨hP1, hK1, hD1⟩ := hB
  rw [ht1] at hP1
  obtain ⟨hP2, hD2⟩ := va_join (wr := wr) (w1 := w1 u) hP hD isC isR hC hR hnR hdis hk1 hFc hP1 hD1
  exact kk v u H1 locs1 hw hP2 hD2 hS1 (hK.app hKc)
/-- invokespecial of a nest mate's constructor -/
theorem ciN {S : Type} {post : Option Value → S → Prop} {D : va_G} {tys tysC : List (ClassId × FieldType)} {ws wc wr : va_W} {w1 : S → va_W} {index mlC mc ms n b : Nat} {y : MethodName} {host : String} {bytes : ByteArray} {rm : Room} {As : List Value}
    (K : WK p s m args meth c own cc maxL ret) (hP : va_P D cls0 ws H) (hD : va_D A ws) (hK : va_K D cls0 tys s) (hS : va_S A s.heap H locs) (hA : ∀ q : Nat, s.heap.size ≤ q → A q) (hl : ls.size = maxL)
    (hM : Met l y (wsB y bytes mlC none) rm (va_Pc (.ref b :: As) (wPre D tysC wc H.size)) (va_QV post (fun u => wPost D tysC wc (w1 u) H.size) (va_A wc H.size)) mc ms (va_A wc H.size))
    (isC isR it : List Nat) (hC : isC.map (fun i => ws[i]?) = wc.map some) (hR : isR.map (fun i => ws[i]?) = wr.map some) (ht : it.filterMap (fun i => tys[i]?) = tysC) (hnC : va_nd isC = true) (hnR : va_nd isR = true) (hdis : ∀ i ∈ isR, i ∉ isC)
    (hcode : Cond.code y bytes mlC none ∈ big) (hini : Cond.initialized y.cls ∈ big) (hlk : Cond.methodLinkNest own index y host ∈ big) (hyn : y.name = "<init>") (hin : Cond.instanceMethod y ∈ big) (hrc : rm.cells = mc) (hrs : rm.slots = ms)
    (hd : y.cls ≠ "java/lang/invoke/MethodHandle" ∧ y.cls ≠ "java/lang/invoke/VarHandle" ∧ (parseMethodDescriptor y.desc).map (fun d => d.parameters.length) = some n) (hRo : rm.frames + 1 ≤ R.frames ∧ 8 + (mlC + 11) + rm.locals ≤ R.locals)
    (hn : As.length = n) (hW : (rest.map fun v => v.category).sum ≤ 8) (hdg : decode cc pc = .ok (.invokespecial index, 3)) (hf : cells + mc ≤ R.cells ∧ slots + ms ≤ R.slots)
    {st : List Value} (hst : st = As.reverse ++ .ref b :: rest)
    (kk : ∀ (v : Option Value) (u : S) (H1 : Heap) (locs1 : List Loc), post v u → va_P D cls0 (wr ++ w1 u) H1 → va_D A (wr ++ w1 u) → va_S A s.heap H1 locs1 → va_K D cls0 (tys ++ tysC) s → W p l e R s m args below meth c H1 locs1 (cells + mc) (slots + ms) Q (F0 m (pc + 3) ls (v.toList ++ rest))) :
    W p l e R s m args below meth c H locs cells slots Q (F0 m pc ls st) := by
  have hPc := hP.sub (ws' := wc) isC (filterMap_of hC)
  have hDc := hD.sub (ws' := wc) isC hnC hC
  have hKc := hK.sub (tys' := tysC) it ht
  have hFc := va_free (wc := wc) hD hS hA isC hC
  refine qv_call (va_runIN (As := As) (rest := rest) (Ts := big) ⟨K.1, K.2.1, K.2.2.1, K.2.2.2.2.2.2.1, K.2.2.2.2.2.1⟩ hM ⟨cbN_big K.2.2.2.2.2.1 hcode hini hlk hrc hrs hd hRo, hyn, K.2.2.2.2.2.1 _ hin⟩ ⟨wPre_blind, fun U hU hWm => ⟨rfl, by rw [hU], by rw [hU]; exact hPc, va_K.moved hWm.alike hKc, hDc.weaken (fun _ _ _ _ => trivial)⟩⟩ rfl hn hl hst (lv_room hW) hdg hf) hS (fun q _ h => hFc q h) hFc (fun v u t H1 locs1 ht1 hvm hw hB hz1 hk1 hS1 => ?_)
  obtain ⟨hP1, hK1, hD1⟩ := hB
  rw [ht1] at hP1
  obtain ⟨hP2, hD2⟩ := va_join (wr := wr) (w1 := w1 u) hP hD isC isR hC hR hnR hdis hk1 hFc hP1 hD1
  exact kk v u H1 locs1 hw hP2 hD2 hS1 (hK.app hKc)
end CT
