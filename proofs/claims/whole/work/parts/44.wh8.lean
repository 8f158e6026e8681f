section RCN
variable {p : Program} {l : Launch} {e : Env} {R : Room} {s : State} {m : MethodId} {args : Array Value} {below : List Frame} {meth : Method} {c : Code} {H : Heap} {locs : List Loc} {cells slots : Nat} {Q : State → Prop}
variable {own : String} {cc : ByteArray} {maxL : Nat} {ret : Option FieldType} {pc : Nat} {ls : Array Slot} {rest : List Value} {A : Nat → Prop}
theorem cbN_big {own host : String} {index maxL mc ms n : Nat} {y : MethodName} {bytes : ByteArray} {ret : Option FieldType} {rm : Room} (hts : ∀ w ∈ big, w.before args s = true) (hcode : Cond.code y bytes maxL ret ∈ big) (hini : Cond.initialized y.cls ∈ big) (hl : Cond.methodLinkNest own index y host ∈ big) (hrc : rm.cells = mc) (hrs : rm.slots = ms)
    (hd : y.cls ≠ "java/lang/invoke/MethodHandle" ∧ y.cls ≠ "java/lang/invoke/VarHandle" ∧ (parseMethodDescriptor y.desc).map (fun d => d.parameters.length) = some n) (hR : rm.frames + 1 ≤ R.frames ∧ 8 + (maxL + 11) + rm.locals ≤ R.locals) :
    va_CN R s args own index y host bytes maxL ret (wsB y bytes maxL ret) rm mc ms n := by
  refine ⟨⟨hrc, hrs, hR.1, hR.2, fun w hw => ?_, List.mem_cons_self⟩, hts _ hcode, hts _ hini, ⟨hd.1, hd.2.1⟩, fun sig h => ?_, hts _ hl⟩
  · rcases List.mem_cons.mp hw with h | h
    · rw [h]; exact big_warm hts _ hcode
    · exact big_warm hts w h
  · have h2 := hd.2.2
    rw [h] at h2
    exact (Option.some.inj h2).symm
/-- invokevirtual of a nest mate's private method -/
theorem cvN {S : Type} {post : Option Value → S → Prop} {D : va_G} {tys tysC : List (ClassId × FieldType)} {ws wc wr : va_W} {w1 : S → va_W} {C host : String} {index mlC mc ms n b : Nat} {y : MethodName} {bytes : ByteArray} {rtC : Option FieldType} {rm : Room} {As : List Value}
    (K : WK p s m args meth c own cc maxL ret) (hP : va_P D cls0 ws H) (hD : va_D A ws) (hK : va_K D cls0 tys s) (hS : va_S A s.heap H locs) (hA : ∀ q : Nat, s.heap.size ≤ q → A q) (hl : ls.size = maxL)
    (hM : Met l y (wsB y bytes mlC rtC) rm (va_Pc (.ref b :: As) (wPre D tysC wc H.size)) (va_QV post (fun u => wPost D tysC wc (w1 u) H.size) (va_A wc H.size)) mc ms (va_A wc H.size))
    (isC isR it : List Nat) (hC : isC.map (fun i => ws[i]?) = wc.map some) (hR : isR.map (fun i => ws[i]?) = wr.map some) (ht : it.filterMap (fun i => tys[i]?) = tysC) (hnC : va_nd isC = true) (hnR : va_nd isR = true) (hdis : ∀ i ∈ isR, i ∉ isC)
    (q0 : Nat) {ci : Nat} {fs : List Value} {T : u_T} {N : Nat} (hq : wc[q0]? = some (b, .inr (ci, fs))) (hci : cls0[ci]? = some (C, T, N))
    (hcode : Cond.code y bytes mlC rtC ∈ big) (hini : Cond.initialized y.cls ∈ big) (hlk : Cond.methodLinkNest own index y host ∈ big) (hin : Cond.instanceMethod y ∈ big) (hse : Cond.selects C y y ∈ big) (hrc : rm.cells = mc) (hrs : rm.slots = ms)
    (hd : y.cls ≠ "java/lang/invoke/MethodHandle" ∧ y.cls ≠ "java/lang/invoke/VarHandle" ∧ (parseMethodDescriptor y.desc).map (fun d => d.parameters.length) = some n) (hRo : rm.frames + 1 ≤ R.frames ∧ 8 + (mlC + 11) + rm.locals ≤ R.locals)
    (hn : As.length = n) (hW : (rest.map fun v => v.category).sum ≤ 8) (hdg : decode cc pc = .ok (.invokevirtual index, 3)) (hf : cells + mc ≤ R.cells ∧ slots + ms ≤ R.slots)
    {st : List Value} (hst : st = As.reverse ++ .ref b :: rest)
    (kk : ∀ (v : Option Value) (u : S) (H1 : Heap) (locs1 : List Loc), post v u → va_P D cls0 (wr ++ w1 u) H1 → va_D A (wr ++ w1 u) → va_S A s.heap H1 locs1 → va_K D cls0 (tys ++ tysC) s → W p l e R s m args below meth c H1 locs1 (cells + mc) (slots + ms) Q (F0 m (pc + 3) ls (v.toList ++ rest))) :
    W p l e R s m args below meth c H locs cells slots Q (F0 m pc ls st) := by
  have hPc := hP.sub (ws' := wc) isC (filterMap_of hC)
  have hDc := hD.sub (ws' := wc) isC hnC hC
  have hKc := hK.sub (tys' := tysC) it ht
  have hFc := va_free (wc := wc) hD hS hA isC hC
  refine qv_call (va_runVN (As := As) (rest := rest) (Ts := big) ⟨K.1, K.2.1, K.2.2.1, K.2.2.2.2.2.2.1, K.2.2.2.2.2.1⟩ hM ⟨cbN_big K.2.2.2.2.2.1 hcode hini hlk hrc hrs hd hRo, K.2.2.2.2.2.1 _ hin, K.2.2.2.2.2.1 _ hse⟩ ⟨wPre_blind, va_recv hKc hPc hci hq, fun U hU hWm => ⟨rfl, by rw [hU], by rw [hU]; exact hPc, va_K.moved hWm.alike hKc, hDc.weaken (fun _ _ _ _ => trivial)⟩⟩ rfl hn hl hst (lv_room hW) hdg hf) hS (fun q _ h => hFc q h) hFc (fun v u t H1 locs1 ht1 hvm hw hB hz1 hk1 hS1 => ?_)
  obtain ⟨hP1, hK1, hD1⟩ := hB
  rw [ht1] at hP1
  obtain ⟨hP2, hD2⟩ := va_join (wr := wr) (w1 := w1 u) hP hD isC isR hC hR hnR hdis hk1 hFc hP1 hD1
  exact kk v u H1 locs1 hw hP2 hD2 hS1 (hK.app hKc)
end RCN
theorem lZ_natM (n : Nat) : (lZ (n : Int)).toBitVec.toNat = n % 18446744073709551616 := by
  rw [lZ_bv, BitVec.toNat_ofInt]
  show ((n : Int) % 18446744073709551616).toNat = _
  omega
theorem bf_or {T y2 pp : Nat} (hT : T < 18446744073709551616) (hp : pp < 32) : (lZ ((T : Int) / 2 ^ pp) ||| lZ (((y2 : Int) * 4294967296) * 2 ^ (32 - pp))) = lZ (((T / 2 ^ pp + y2 * 2 ^ (64 - pp)) % 18446744073709551616 : Nat) : Int) := by
  have e1 : (T : Int) / 2 ^ pp = ((T / 2 ^ pp : Nat) : Int) := by simp
  have e64 : 4294967296 * 2 ^ (32 - pp) = 2 ^ (64 - pp) := by rw [show 64 - pp = 32 + (32 - pp) by omega, Nat.pow_add]
  have e2 : ((y2 : Int) * 4294967296) * 2 ^ (32 - pp) = ((y2 * 2 ^ (64 - pp) : Nat) : Int) := by rw [← e64, ← Nat.mul_assoc]; simp
  have hm : T / 2 ^ pp < 2 ^ (64 - pp) := Nat.div_lt_of_lt_mul (by rw [← Nat.pow_add, show pp + (64 - pp) = 64 by omega]; exact hT)
  have h64 : (18446744073709551616 : Nat) = 2 ^ (64 - pp) * 2 ^ pp := by rw [← Nat.pow_add, show 64 - pp + pp = 64 by omega]
  have e3 : y2 * 2 ^ (64 - pp) % 18446744073709551616 = 2 ^ (64 - pp) * (y2 % 2 ^ pp) := by rw [h64, Nat.mul_comm y2, Nat.mul_mod_mul_left]
  have e4 : (T / 2 ^ pp + y2 * 2 ^ (64 - pp)) % 18446744073709551616 = 2 ^ (64 - pp) * (y2 % 2 ^ pp) + T / 2 ^ pp := by
    have hb : y2 % 2 ^ pp + 1 ≤ 2 ^ pp := Nat.mod_lt _ (Nat.two_pow_pos _)
    have hc : 2 ^ (64 - pp) * (y2 % 2 ^ pp + 1) ≤ 2 ^ (64 - pp) * 2 ^ pp := Nat.mul_le_mul_left _ hb
    rw [← h64, Nat.mul_add, Nat.mul_one] at hc
    rw [Nat.add_mod, e3, Nat.mod_eq_of_lt (show T / 2 ^ pp < 18446744073709551616 by omega), Nat.mod_eq_of_lt (by omega)]
    omega
  rw [e1, e2, e4]
  apply Int64.toBitVec_inj.mp
  apply BitVec.eq_of_toNat_eq
  have lt1 : T / 2 ^ pp < 18446744073709551616 := Nat.lt_of_le_of_lt (Nat.div_le_self _ _) hT
  have lt2 : 2 ^ (64 - pp) * (y2 % 2 ^ pp) + T / 2 ^ pp < 18446744073709551616 := by rw [← e4]; exact Nat.mod_lt _ (by decide)
  rw [Int64.toBitVec_or, BitVec.toNat_or, lZ_natM, lZ_natM, lZ_natM, e3, Nat.mod_eq_of_lt lt1, Nat.mod_eq_of_lt lt2, Nat.or_comm, Nat.mul_comm (2 ^ (64 - pp)), ← Nat.shiftLeft_eq, Nat.shiftLeft_add_eq_or_of_lt hm]
theorem bf_val {f : Nat → Int32} {k v w pp bt T y2 : Nat} (rv : vV f k = v) (hb : bt = 32 * w + pp) (hp : pp < 32) (hT : T = at0 f k w + at0 f k (w + 1) * 4294967296) (hy : y2 = at0 f k (w + 2)) : (T / 2 ^ pp + y2 * 2 ^ (64 - pp)) % 18446744073709551616 = v / 2 ^ bt % 18446744073709551616 := by
  have hq0 := Nat.two_pow_pos pp
  have e1 : v / 2 ^ bt = v / pB w / 2 ^ pp := by rw [Nat.div_div_eq_div_mul, hb, Nat.pow_add, ← pB_two w]
  have l0 := limb_of rv w
  have l1 := limb_of rv (w + 1)
  have l2 := limb_of rv (w + 2)
  have e2 : v / pB (w + 1) = v / pB w / 4294967296 := by rw [pB_s, Nat.div_div_eq_div_mul]
  have e3 : v / pB (w + 2) = v / pB w / 4294967296 / 4294967296 := by rw [pB_s (w + 1), ← Nat.div_div_eq_div_mul, e2]
  rw [e2] at l1
  rw [e3] at l2
  have h64 : (18446744073709551616 : Nat) = 2 ^ pp * 2 ^ (64 - pp) := by rw [← Nat.pow_add, show pp + (64 - pp) = 64 by omega]
  have hY : v / pB w = (T + 18446744073709551616 * y2) + 18446744073709551616 * (4294967296 * (v / pB w / 4294967296 / 4294967296 / 4294967296)) := by omega
  have hd : (T + 18446744073709551616 * y2) / 2 ^ pp = T / 2 ^ pp + y2 * 2 ^ (64 - pp) := by rw [h64, Nat.mul_assoc, Nat.add_mul_div_left _ _ hq0, Nat.mul_comm y2]
  rw [e1, hY, ← hd]
  generalize v / pB w / 4294967296 / 4294967296 / 4294967296 = r
  have hpp : 4294967296 = 2 ^ pp * 2 ^ (32 - pp) := (su_q hp).symm
  have e5 : (T + 18446744073709551616 * y2 + 18446744073709551616 * (4294967296 * r)) / 2 ^ pp = (T + 18446744073709551616 * y2) / 2 ^ pp + 18446744073709551616 * (2 ^ (32 - pp) * r) := by
    have : 18446744073709551616 * (4294967296 * r) = 2 ^ pp * (18446744073709551616 * (2 ^ (32 - pp) * r)) := by
      conv => lhs; rw [hpp, Nat.mul_assoc, Nat.mul_left_comm]
    rw [this, Nat.add_mul_div_left _ _ hq0]
  rw [e5, Nat.add_mul_mod_self_left]
set_option maxHeartbeats 4000000 in
set_option maxRecDepth 100000 in
/-- bitsFrom(bit): 64 bits -/
theorem c_Wh_bitsFrom (l : Launch) (D : va_G) (h : Nat) (a : Nat) (k : Nat) (n : Nat) (f : Nat → Int32) (cI : ClassId) (v : Nat) (bt : Nat) (sz : Nat) (rv : Rp f k v) (hb0 : bt < 100000000) (hkn : k ≤ n) (hn : n < 1000000) : Met l y_Wh_bitsFrom (wsB y_Wh_bitsFrom b_Wh_bitsFrom 6 (some .long)) ({ frames := 1, cells := 0, slots := 0, locals := 21 }) (va_Pc [.ref h, .int (iZ (bt : Int))] (wPre D [(cI, .int)] [(h, .inr (0, [.ref a, .int (iZ (k : Int))])), (a, .inl (cI, n, .inl f))] sz)) (va_QV (fun (v9 : Option Value) (u9 : Nat) => v9 = some (.long (lZ (u9 : Int))) ∧ (u9 = v / 2 ^ bt % 18446744073709551616)) (fun u9 => wPost D [(cI, .int)] [(h, .inr (0, [.ref a, .int (iZ (k : Int))])), (a, .inl (cI, n, .inl f))] [(h, .inr (0, [.ref a, .int (iZ (k : Int))])), (a, .inl (cI, n, .inl f))] sz) (va_A [(h, .inr (0, [.ref a, .int (iZ (k : Int))])), (a, .inl (cI, n, .inl f))] sz)) 0 0 (va_A [(h, .inr (0, [.ref a, .int (iZ (k : Int))])), (a, .inl (cI, n, .inl f))] sz) := by
  refine met_enter (by decide +kernel) (Nat.le_of_ble_eq_true rfl) ?_
  intro p e s m args below meth c ls A R Q H locs K hin hAe hA hR hQ hP hK hD hS hl
  obtain ⟨hx, hb, hml, hrt, hlk, hts, hown, hno⟩ := id K
  have hl : lv_has ls 6 [(0, .ref h), (1, .int (iZ (bt : Int)))] := hl
  refine lv_iload_n hx hb d_Wh_bitsFrom_0 rfl (lv_at hl 1 rfl) ?_
  refine lv_iconst (v := iZ (5)) hx hb d_Wh_bitsFrom_1 (by decide +kernel) ?_
  refine zz_iushr (n := 5) hx hb d_Wh_bitsFrom_2 (by omega) (by omega) (by omega) ?_
  obtain ⟨w, hw, bw⟩ : ∃ x : Nat, x = bt / 32 ∧ x < 100000000 := ⟨_, rfl, by omega⟩
  rw [show ((bt : Int) / 2 ^ 5 : Int) = (w : Int) by rw [hw]; omega] 
  refine lv_istore_n (lv' := [(2, .int (iZ (w : Int))), (0, .ref h), (1, .int (iZ (bt : Int)))]) hx hb d_Wh_bitsFrom_3 rfl hl (by decide) rfl (fun ls hl => ?_)
  refine lv_iload_n hx hb d_Wh_bitsFrom_4 rfl (lv_at hl 2 rfl) ?_
  refine lv_bipush (v := iZ (31)) hx hb d_Wh_bitsFrom_5 (by decide +kernel) ?_
  refine zz_iand31 hx hb d_Wh_bitsFrom_7 (by omega) ?_
  obtain ⟨pp, hpp, bpp⟩ : ∃ x : Nat, x = bt % 32 ∧ x < 32 := ⟨_, rfl, by omega⟩
  rw [show ((bt : Int) % 32 : Int) = (pp : Int) by rw [hpp]; omega] 
  have hbw : bt = 32 * w + pp := by omega
  refine lv_istore_n (lv' := [(3, .int (iZ (pp : Int))), (2, .int (iZ (w : Int))), (0, .ref h), (1, .int (iZ (bt : Int)))]) hx hb d_Wh_bitsFrom_8 rfl hl (by decide) rfl (fun ls hl => ?_)
  refine lv_aload_n hx hb d_Wh_bitsFrom_9 rfl (lv_at hl 2 rfl) ?_
  refine lv_iload_n hx hb d_Wh_bitsFrom_10 rfl (lv_at hl 1 rfl) ?_
  refine cv (n := 1) (wr := []) (w1 := (fun (u : Int) => [(h, .inr (0, [.ref a, .int (iZ (k : Int))])), (a, .inl (cI, n, .inl f))])) (As := [.int (iZ (w : Int))]) (rest := []) K hP hD hK hS hA hl.1 (c_Wh_at l D h a k n f cI (w : Int) H.size (by omega) (by omega) (by omega)) [0, 1] [] [0] rfl rfl rfl (by decide) (by decide) (by decide) 0 rfl rfl (big_in mw_447 rfl) (big_in mw_6 rfl) (big_in mw_444 rfl) (big_in mw_445 rfl) (big_in mw_446 rfl) rfl rfl (by decide +kernel) ⟨by rw [hR]; exact Nat.le_of_ble_eq_true rfl, by rw [hR]; exact Nat.le_of_ble_eq_true rfl⟩ rfl (Nat.le_of_ble_eq_true rfl) d_Wh_bitsFrom_11 ⟨by rw [hR]; exact Nat.le_of_ble_eq_true rfl, by rw [hR]; exact Nat.le_of_ble_eq_true rfl⟩ rfl (fun v u H locs hp1 hP hD hS _ => ?_)
  obtain ⟨zy0, rfl⟩ : ∃ z, z = u := ⟨_, rfl⟩
  obtain ⟨rfl, gzy0⟩ := hp1
  have hP : va_P D cls0 [(h, .inr (0, [.ref a, .int (iZ (k : Int))])), (a, .inl (cI, n, .inl f))] H := hP
  have hD : va_D A [(h, .inr (0, [.ref a, .int (iZ (k : Int))])), (a, .inl (cI, n, .inl f))] := hD
  show W p l e R s m args below meth c H locs _ _ Q (F0 m 14 ls [.long (lZ zy0)])
  obtain ⟨y0, hy0, by0, rfl⟩ : ∃ x : Nat, x = at0 f k (w) ∧ x < 4294967296 ∧ zy0 = (x : Int) := ⟨_, rfl, at0_lt _ _ _, by rw [gzy0, atZ_n]⟩
  refine lv_aload_n hx hb d_Wh_bitsFrom_14 rfl (lv_at hl 2 rfl) ?_
  refine lv_iload_n hx hb d_Wh_bitsFrom_15 rfl (lv_at hl 1 rfl) ?_
  refine lv_iconst (v := iZ (1)) hx hb d_Wh_bitsFrom_16 (by decide +kernel) ?_
  refine zz_iadd hx hb d_Wh_bitsFrom_17 ?_
  refine cv (n := 1) (wr := []) (w1 := (fun (u : Int) => [(h, .inr (0, [.ref a, .int (iZ (k : Int))])), (a, .inl (cI, n, .inl f))])) (As := [.int (iZ ((w : Int) + 1))]) (rest := [.long (lZ (y0 : Int))]) K hP hD hK hS hA hl.1 (c_Wh_at l D h a k n f cI ((w : Int) + 1) H.size (by omega) (by omega) (by omega)) [0, 1] [] [0] rfl rfl rfl (by decide) (by decide) (by decide) 0 rfl rfl (big_in mw_447 rfl) (big_in mw_6 rfl) (big_in mw_444 rfl) (big_in mw_445 rfl) (big_in mw_446 rfl) rfl rfl (by decide +kernel) ⟨by rw [hR]; exact Nat.le_of_ble_eq_true rfl, by rw [hR]; exact Nat.le_of_ble_eq_true rfl⟩ rfl (Nat.le_of_ble_eq_true rfl) d_Wh_bitsFrom_18 ⟨by rw [hR]; exact Nat.le_of_ble_eq_true rfl, by rw [hR]; exact Nat.le_of_ble_eq_true rfl⟩ rfl (fun v u H locs hp2 hP hD hS _ => ?_)
  obtain ⟨zy1, rfl⟩ : ∃ z, z = u := ⟨_, rfl⟩
  obtain ⟨rfl, gzy1⟩ := hp2
  have hP : va_P D cls0 [(h, .inr (0, [.ref a, .int (iZ (k : Int))])), (a, .inl (cI, n, .inl f))] H := hP
  have hD : va_D A [(h, .inr (0, [.ref a, .int (iZ (k : Int))])), (a, .inl (cI, n, .inl f))] := hD
  show W p l e R s m args below meth c H locs _ _ Q (F0 m 21 ls [.long (lZ zy1), .long (lZ (y0 : Int))])
  obtain ⟨y1, hy1, by1, rfl⟩ : ∃ x : Nat, x = at0 f k (w + 1) ∧ x < 4294967296 ∧ zy1 = (x : Int) := ⟨_, rfl, at0_lt _ _ _, by rw [gzy1, show (w : Int) + 1 = ((w + 1 : Nat) : Int) by omega, atZ_n]⟩
  refine lv_bipush (v := iZ (32)) hx hb d_Wh_bitsFrom_21 (by decide +kernel) ?_
  refine zz_lshl32 hx hb d_Wh_bitsFrom_23 ?_
  refine zz_lor' hx hb d_Wh_bitsFrom_24 (by omega) (by omega) ?_
  obtain ⟨T, hT, bT⟩ : ∃ x : Nat, x = y0 + y1 * 4294967296 ∧ x < 18446744073709551616 := ⟨_, rfl, by omega⟩
  rw [show ((y0 : Int) + (y1 : Int) * 4294967296 : Int) = (T : Int) by rw [hT]; simp] 
  refine lv_lstore (lv' := [(4, .long (lZ (T : Int))), (3, .int (iZ (pp : Int))), (2, .int (iZ (w : Int))), (0, .ref h), (1, .int (iZ (bt : Int)))]) hx hb d_Wh_bitsFrom_25 hl (by decide) rfl (fun ls hl => ?_)
  refine lv_lload hx hb d_Wh_bitsFrom_27 (lv_at hl 0 rfl) ?_
  refine lv_iload_n hx hb d_Wh_bitsFrom_29 rfl (lv_at hl 1 rfl) ?_
  refine zz_lushr (n := pp) hx hb d_Wh_bitsFrom_30 (by omega) (by omega) (by omega) (by omega) ?_
  refine lv_aload_n hx hb d_Wh_bitsFrom_31 rfl (lv_at hl 3 rfl) ?_
  refine lv_iload_n hx hb d_Wh_bitsFrom_32 rfl (lv_at hl 2 rfl) ?_
  refine lv_iconst (v := iZ (2)) hx hb d_Wh_bitsFrom_33 (by decide +kernel) ?_
  refine zz_iadd hx hb d_Wh_bitsFrom_34 ?_
  refine cv (n := 1) (wr := []) (w1 := (fun (u : Int) => [(h, .inr (0, [.ref a, .int (iZ (k : Int))])), (a, .inl (cI, n, .inl f))])) (As := [.int (iZ ((w : Int) + 2))]) (rest := [.long (lZ ((T : Int) / 2 ^ pp))]) K hP hD hK hS hA hl.1 (c_Wh_at l D h a k n f cI ((w : Int) + 2) H.size (by omega) (by omega) (by omega)) [0, 1] [] [0] rfl rfl rfl (by decide) (by decide) (by decide) 0 rfl rfl (big_in mw_447 rfl) (big_in mw_6 rfl) (big_in mw_444 rfl) (big_in mw_445 rfl) (big_in mw_446 rfl) rfl rfl (by decide +kernel) ⟨by rw [hR]; exact Nat.le_of_ble_eq_true rfl, by rw [hR]; exact Nat.le_of_ble_eq_true rfl⟩ rfl (Nat.le_of_ble_eq_true rfl) d_Wh_bitsFrom_35 ⟨by rw [hR]; exact Nat.le_of_ble_eq_true rfl, by rw [hR]; exact Nat.le_of_ble_eq_true rfl⟩ rfl (fun v u H locs hp3 hP hD hS _ => ?_)
  obtain ⟨zy2, rfl⟩ : ∃ z, z = u := ⟨_, rfl⟩
  obtain ⟨rfl, gzy2⟩ := hp3
  have hP : va_P D cls0 [(h, .inr (0, [.ref a, .int (iZ (k : Int))])), (a, .inl (cI, n, .inl f))] H := hP
  have hD : va_D A [(h, .inr (0, [.ref a, .int (iZ (k : Int))])), (a, .inl (cI, n, .inl f))] := hD
  show W p l e R s m args below meth c H locs _ _ Q (F0 m 38 ls [.long (lZ zy2), .long (lZ ((T : Int) / 2 ^ pp))])
  obtain ⟨y2, hy2, by2, rfl⟩ : ∃ x : Nat, x = at0 f k (w + 2) ∧ x < 4294967296 ∧ zy2 = (x : Int) := ⟨_, rfl, at0_lt _ _ _, by rw [gzy2, show (w : Int) + 2 = ((w + 2 : Nat) : Int) by omega, atZ_n]⟩
  refine lv_bipush (v := iZ (32)) hx hb d_Wh_bitsFrom_38 (by decide +kernel) ?_
  refine zz_lshl32 hx hb d_Wh_bitsFrom_40 ?_
  refine lv_bipush (v := iZ (32)) hx hb d_Wh_bitsFrom_41 (by decide +kernel) ?_
  refine lv_iload_n hx hb d_Wh_bitsFrom_43 rfl (lv_at hl 1 rfl) ?_
  refine zz_isub hx hb d_Wh_bitsFrom_44 ?_
  refine zz_lshl (n := 32 - pp) hx hb d_Wh_bitsFrom_45 (by omega) (by omega) ?_
  refine lv_lor hx hb d_Wh_bitsFrom_46 ?_
  rw [bf_or bT bpp]
  have hP9 : va_P D cls0 [(h, .inr (0, [.ref a, .int (iZ (k : Int))])), (a, .inl (cI, n, .inl f))] H := hP.sub [0, 1] rfl
  have hD9 : va_D A [(h, .inr (0, [.ref a, .int (iZ (k : Int))])), (a, .inl (cI, n, .inl f))] := hD.sub [0, 1] (by decide) rfl
  rw [hQ, ← hAe]
  refine r_l (v := (lZ (((T / 2 ^ pp + y2 * 2 ^ (64 - pp)) % 18446744073709551616 : Nat) : Int))) K ((T / 2 ^ pp + y2 * 2 ^ (64 - pp)) % 18446744073709551616) hS d_Wh_bitsFrom_47 ?_ (fun t ht hv => ?_)
  · exact ⟨rfl, bf_val rv.1 hbw bpp (by rw [hT, hy0, hy1]) hy2⟩
  · exact ⟨by rw [ht]; exact hP9, va_K.moved hv hK, by rw [← hAe]; exact hD9⟩
