section ZU
variable {p : Program} {l : Launch} {e : Env} {R : Room} {s : State} {m : MethodId} {args : Array Value} {below : List Frame} {meth : Method} {c : Code} {H : Heap} {locs : List Loc} {cells slots : Nat} {Q : State → Prop}
variable {cc : ByteArray} {pc : Nat} {ls : Array Slot} {rest : List Value} {off : Int} {tgt : Nat}
theorem zz_lcmpu_lt (hexec : p.tables.exec = Jvm.exec) (hb : c.code = cc) {z : Int} (hdg : decode cc pc = .ok (.lcmp, 1)) (hdg2 : decode cc (pc + 1) = .ok (.ifCond .lt off, 3)) (ht : ((pc + 1 : Nat) : Int) + off = (tgt : Int)) (h : 0 ≤ z ∧ z < 18446744073709551616) (kt : 9223372036854775808 ≤ z → W p l e R s m args below meth c H locs cells slots Q (F0 m tgt ls rest)) (kf : z < 9223372036854775808 → W p l e R s m args below meth c H locs cells slots Q (F0 m (pc + 1 + 3) ls rest)) : W p l e R s m args below meth c H locs cells slots Q (F0 m pc ls (.long (lZ 0) :: .long (lZ z) :: rest)) := by
  by_cases q : z < 9223372036854775808
  · exact zz_lcmp_lt hexec hb hdg hdg2 ht (by omega) (by omega) (fun k => absurd k (by omega)) (fun _ => kf q)
  · have e1 : lZ z = lZ (z - 18446744073709551616) := by rw [lZ_mod z, lZ_mod (z - 18446744073709551616)]; congr 1; omega
    rw [e1]
    exact zz_lcmp_lt hexec hb hdg hdg2 ht (by omega) (by omega) (fun _ => kt (by omega)) (fun k => absurd k (by omega))
end ZU
set_option maxHeartbeats 4000000 in
set_option maxRecDepth 100000 in
/-- quotientOf(dividend, divisor), without sign -/
theorem c_Wh_quotientOf (l : Launch) (D : va_G) (x : Nat) (y : Nat) (sz : Nat) (hx1 : x < 18446744073709551616) (hy : 0 < y) (hy2 : y < 4294967296) : Met l y_Wh_quotientOf (wsB y_Wh_quotientOf b_Wh_quotientOf 6 (some .long)) ({ frames := 0, cells := 0, slots := 0, locals := 0 }) (va_Pc [.long (lZ (x : Int)), .long (lZ (y : Int))] (wPre D [] [] sz)) (va_QV (fun (v9 : Option Value) (u9 : Nat) => v9 = some (.long (lZ (u9 : Int))) ∧ (u9 = x / y)) (fun u9 => wPost D [] [] [] sz) (va_A [] sz)) 0 0 (va_A [] sz) := by
  refine met_enter (by decide +kernel) (Nat.le_of_ble_eq_true rfl) ?_
  intro p e s m args below meth c ls A R Q H locs K hin hAe hA hR hQ hP hK hD hS hl
  obtain ⟨hx, hb, hml, hrt, hlk, hts, hown, hno⟩ := id K
  have hl : lv_has ls 6 [(0, .long (lZ (x : Int))), (2, .long (lZ (y : Int)))] := hl
  refine lv_lload_n hx hb d_Wh_quotientOf_0 rfl (lv_at hl 1 rfl) ?_
  refine lv_lconst (v := lZ (0)) hx hb d_Wh_quotientOf_1 (by decide +kernel) ?_
  refine zz_lcmp_gt (tgt := 8) hx hb d_Wh_quotientOf_2 d_Wh_quotientOf_3 (by decide) (by omega) (by omega) (fun c2 => ?_) (fun c2 => False.elim (by omega))
  refine lv_lload_n hx hb d_Wh_quotientOf_8 rfl (lv_at hl 0 rfl) ?_
  refine lv_lconst (v := lZ (0)) hx hb d_Wh_quotientOf_9 (by decide +kernel) ?_
  refine zz_lcmpu_lt (tgt := 18) hx hb d_Wh_quotientOf_10 d_Wh_quotientOf_11 (by decide) (by omega) (fun c10 => ?_) (fun c10 => ?_)
  · refine lv_lload_n hx hb d_Wh_quotientOf_18 rfl (lv_at hl 0 rfl) ?_
    refine lv_iconst (v := iZ (1)) hx hb d_Wh_quotientOf_19 (by decide +kernel) ?_
    refine zz_lushr (n := 1) hx hb d_Wh_quotientOf_20 (by omega) (by omega) (by omega) (by omega) ?_
    refine lv_lload_n hx hb d_Wh_quotientOf_21 rfl (lv_at hl 1 rfl) ?_
    refine zz_ldiv hx hb d_Wh_quotientOf_22 (by omega) (by omega) ?_
    refine lv_iconst (v := iZ (1)) hx hb d_Wh_quotientOf_23 (by decide +kernel) ?_
    refine zz_lshl (n := 1) hx hb d_Wh_quotientOf_24 (by omega) (by omega) ?_
    have qf := qo_fact x y hy
    rw [show ((((x : Int) / 2 ^ 1) / (y : Int)) * 2 ^ 1 : Int) = ((x / 2 / y * 2 : Nat) : Int) by simp]
    generalize hq : x / 2 / y * 2 = q at qf
    have qn : (q : Int) * (y : Int) = ((q * y : Nat) : Int) := by simp
    refine lv_lstore (lv' := [(4, .long (lZ (q : Int))), (0, .long (lZ (x : Int))), (2, .long (lZ (y : Int)))]) hx hb d_Wh_quotientOf_25 hl (by decide) rfl (fun ls hl => ?_)
    refine lv_lload_n hx hb d_Wh_quotientOf_27 rfl (lv_at hl 1 rfl) ?_
    refine lv_lload hx hb d_Wh_quotientOf_28 (lv_at hl 0 rfl) ?_
    refine lv_lload_n hx hb d_Wh_quotientOf_30 rfl (lv_at hl 2 rfl) ?_
    refine zz_lmul hx hb d_Wh_quotientOf_31 ?_
    refine zz_lsub hx hb d_Wh_quotientOf_32 ?_
    refine lv_lload_n hx hb d_Wh_quotientOf_33 rfl (lv_at hl 2 rfl) ?_
    refine zz_lcmp_lt (tgt := 45) hx hb d_Wh_quotientOf_34 d_Wh_quotientOf_35 (by decide) (by omega) (by omega) (fun c34 => ?_) (fun c34 => ?_)
    · refine lv_lload hx hb d_Wh_quotientOf_45 (lv_at hl 0 rfl) ?_
      have hP9 : va_P D cls0 [] H := hP.sub [] rfl
      have hD9 : va_D A [] := hD.sub [] (by decide) rfl
      rw [hQ, ← hAe]
      refine r_l (v := (lZ (q : Int))) K q hS d_Wh_quotientOf_47 ?_ (fun t ht hv => ?_)
      · exact ⟨rfl, (qf.2.2.1 (by omega)).symm⟩
      · exact ⟨by rw [ht]; exact hP9, va_K.moved hv hK, by rw [← hAe]; exact hD9⟩
    · refine lv_lload hx hb d_Wh_quotientOf_38 (lv_at hl 0 rfl) ?_
      refine lv_lconst (v := lZ (1)) hx hb d_Wh_quotientOf_40 (by decide +kernel) ?_
      refine zz_ladd hx hb d_Wh_quotientOf_41 ?_
      refine lv_goto (tgt := 47) hx hb d_Wh_quotientOf_42 (by decide) ?_
      have hP9 : va_P D cls0 [] H := hP.sub [] rfl
      have hD9 : va_D A [] := hD.sub [] (by decide) rfl
      rw [hQ, ← hAe]
      refine r_l (v := (lZ ((q : Int) + 1))) K (q + 1) hS d_Wh_quotientOf_47 ?_ (fun t ht hv => ?_)
      · exact ⟨by simp, (qf.2.2.2 (by omega)).symm⟩
      · exact ⟨by rw [ht]; exact hP9, va_K.moved hv hK, by rw [← hAe]; exact hD9⟩
  · refine lv_lload_n hx hb d_Wh_quotientOf_14 rfl (lv_at hl 0 rfl) ?_
    refine lv_lload_n hx hb d_Wh_quotientOf_15 rfl (lv_at hl 1 rfl) ?_
    refine zz_ldiv hx hb d_Wh_quotientOf_16 (by omega) (by omega) ?_
    have hP9 : va_P D cls0 [] H := hP.sub [] rfl
    have hD9 : va_D A [] := hD.sub [] (by decide) rfl
    rw [hQ, ← hAe]
    refine r_l (v := (lZ ((x : Int) / (y : Int)))) K (x / y) hS d_Wh_quotientOf_17 ?_ (fun t ht hv => ?_)
    · refine ⟨by rw [Int.natCast_ediv], rfl⟩
    · exact ⟨by rw [ht]; exact hP9, va_K.moved hv hK, by rw [← hAe]; exact hD9⟩
set_option maxHeartbeats 4000000 in
set_option maxRecDepth 100000 in
/-- divideByLimb(divisor): the quotient stays, the rest is answered -/
theorem c_Wh_divideByLimb (l : Launch) (D : va_G) (h : Nat) (a : Nat) (k : Nat) (n : Nat) (f : Nat → Int32) (cI : ClassId) (v : Nat) (d : Nat) (sz : Nat) (rv : Rp f k v) (hd : 0 < d) (hd2 : d < 4294967296) (hk : k ≤ n) (hn : n < 1000000) : Met l y_Wh_divideByLimb (wsB y_Wh_divideByLimb b_Wh_divideByLimb 10 (some .long)) ({ frames := 1, cells := 0, slots := 0, locals := 25 }) (va_Pc [.ref h, .long (lZ (d : Int))] (wPre D [(cI, .int)] [(h, .inr (0, [.ref a, .int (iZ (k : Int))])), (a, .inl (cI, n, .inl f))] sz)) (va_QV (fun (v9 : Option Value) (u9 : Nat × (Nat → Int32)) => v9 = some (.long (lZ ((v % d : Nat) : Int))) ∧ (Rp u9.2 u9.1 (v / d)) ∧ (u9.1 ≤ k)) (fun u9 => wPost D [(cI, .int)] [(h, .inr (0, [.ref a, .int (iZ (k : Int))])), (a, .inl (cI, n, .inl f))] [(h, .inr (0, [.ref a, .int (iZ (u9.1 : Int))])), (a, .inl (cI, n, .inl u9.2))] sz) (va_A [(h, .inr (0, [.ref a, .int (iZ (k : Int))])), (a, .inl (cI, n, .inl f))] sz)) 0 0 (va_A [(h, .inr (0, [.ref a, .int (iZ (k : Int))])), (a, .inl (cI, n, .inl f))] sz) := by
  refine met_enter (by decide +kernel) (Nat.le_of_ble_eq_true rfl) ?_
  intro p e s m args below meth c ls A R Q H locs K hin hAe hA hR hQ hP hK hD hS hl
  obtain ⟨hx, hb, hml, hrt, hlk, hts, hown, hno⟩ := id K
  have hl : lv_has ls 10 [(0, .ref h), (1, .long (lZ (d : Int)))] := hl
  refine lv_lconst (v := lZ (0)) hx hb d_Wh_divideByLimb_0 (by decide +kernel) ?_
  refine lv_lstore_n (lv' := [(3, .long (lZ 0)), (0, .ref h), (1, .long (lZ (d : Int)))]) hx hb d_Wh_divideByLimb_1 rfl hl (by decide) rfl (fun ls hl => ?_)
  refine lv_aload_n hx hb d_Wh_divideByLimb_2 rfl (lv_at hl 1 rfl) ?_
  refine va_get (D := D) (ci := 0) (v := .int (iZ (k : Int))) (C := R_Wh) (T := F_Wh) (N := 2) hx hb hts i_Wh hown hK hP 0 rfl rfl 1 (by decide) (hts _ (big_in mw_94 rfl)) (fun _ h9 => h9) rfl d_Wh_divideByLimb_3 ?_
  refine lv_iconst (v := iZ (1)) hx hb d_Wh_divideByLimb_6 (by decide +kernel) ?_
  refine zz_isub hx hb d_Wh_divideByLimb_7 ?_
  refine lv_istore (lv' := [(5, .int (iZ ((k : Int) - 1))), (3, .long (lZ 0)), (0, .ref h), (1, .long (lZ (d : Int)))]) hx hb d_Wh_divideByLimb_8 hl (by decide) rfl (fun ls hl => ?_)
  have L10 : ∀ (N : Nat) (j : Nat) (rs : Nat) (g : Nat → Int32) (H : Heap) (locs : List Loc) (ls : Array Slot), j < N → (j ≤ k) → (rs < d) → (∀ i, i < j → g i = f i) → (v = vV f j + pB j * (d * vV (sh g j) (k - j) + rs)) → va_P D cls0 [(h, .inr (0, [.ref a, .int (iZ (k : Int))])), (a, .inl (cI, n, .inl g))] H → va_D A [(h, .inr (0, [.ref a, .int (iZ (k : Int))])), (a, .inl (cI, n, .inl g))] → va_S A s.heap H locs → lv_has ls 10 [(0, .ref h), (1, .long (lZ (d : Int))), (3, .long (lZ (rs : Int))), (5, .int (iZ ((j : Int) - 1)))] → W p l e R s m args below meth c H locs 0 0 Q (F0 m 10 ls []) := by
    intro N
    induction N with
    | zero => intro j rs g H locs ls hN; exact absurd hN (Nat.not_lt_zero _)
    | succ N ih =>
      intro j rs g H locs ls hN ij ir ig iv hP hD hS hl
      refine lv_iload hx hb d_Wh_divideByLimb_10 (lv_at hl 3 rfl) ?_
      refine zz_if_lt (tgt := 66) hx hb d_Wh_divideByLimb_12 (by decide) (by omega) (fun c12 => ?_) (fun c12 => ?_)
      · refine lv_aload_n hx hb d_Wh_divideByLimb_66 rfl (lv_at hl 0 rfl) ?_
        refine cv (n := 0) (wr := []) (w1 := (fun (u : Nat) => [(h, .inr (0, [.ref a, .int (iZ (u : Int))])), (a, .inl (cI, n, .inl g))])) (As := []) (rest := []) K hP hD hK hS hA hl.1 (c_Wh_trim l D h a k n g cI H.size (by omega) (by omega)) [0, 1] [] [0] rfl rfl rfl (by decide) (by decide) (by decide) 0 rfl rfl (big_in mw_385 rfl) (big_in mw_6 rfl) (big_in mw_382 rfl) (big_in mw_384 rfl) (big_in sp_1 rfl) rfl rfl (by decide +kernel) ⟨by rw [hR]; exact Nat.le_of_ble_eq_true rfl, by rw [hR]; exact Nat.le_of_ble_eq_true rfl⟩ rfl (Nat.le_of_ble_eq_true rfl) d_Wh_divideByLimb_67 ⟨by rw [hR]; exact Nat.le_of_ble_eq_true rfl, by rw [hR]; exact Nat.le_of_ble_eq_true rfl⟩ rfl (fun v u H locs hp1 hP hD hS _ => ?_)
        obtain ⟨u, rfl⟩ : ∃ z, z = u := ⟨_, rfl⟩
        obtain ⟨rfl, g1, g2, g3⟩ := hp1
        have hP : va_P D cls0 [(h, .inr (0, [.ref a, .int (iZ (u : Int))])), (a, .inl (cI, n, .inl g))] H := hP
        have hD : va_D A [(h, .inr (0, [.ref a, .int (iZ (u : Int))])), (a, .inl (cI, n, .inl g))] := hD
        show W p l e R s m args below meth c H locs _ _ Q (F0 m 70 ls [])
        refine lv_lload_n hx hb d_Wh_divideByLimb_70 rfl (lv_at hl 2 rfl) ?_
        have hP9 : va_P D cls0 [(h, .inr (0, [.ref a, .int (iZ (u : Int))])), (a, .inl (cI, n, .inl g))] H := hP.sub [0, 1] rfl
        have hD9 : va_D A [(h, .inr (0, [.ref a, .int (iZ (u : Int))])), (a, .inl (cI, n, .inl g))] := hD.sub [0, 1] (by decide) rfl
        rw [hQ, ← hAe]
        refine r_l (v := (lZ (rs : Int))) K (u, g) hS d_Wh_divideByLimb_71 ?_ (fun t ht hv => ?_)
        · try dsimp only
          have ej : j = 0 := by omega
          subst ej
          rw [vV_0, pB_0, Nat.one_mul, Nat.zero_add, Nat.sub_zero] at iv
          have e0 : sh g 0 = g := by funext x; unfold sh; rw [Nat.zero_add]
          rw [e0] at iv
          have e1 : v / d = vV g k := by rw [iv, Nat.mul_add_div hd, Nat.div_eq_of_lt ir, Nat.add_zero]
          have e2 : v % d = rs := by rw [iv, Nat.mul_add_mod, Nat.mod_eq_of_lt ir]
          exact ⟨by rw [e2], Rp.trimmed e1.symm g1 g2 g3, g1⟩
        · exact ⟨by rw [ht]; exact hP9, va_K.moved hv hK, by rw [← hAe]; exact hD9⟩
      · refine lv_lload_n hx hb d_Wh_divideByLimb_15 rfl (lv_at hl 2 rfl) ?_
        refine lv_bipush (v := iZ (32)) hx hb d_Wh_divideByLimb_16 (by decide +kernel) ?_
        refine zz_lshl32 hx hb d_Wh_divideByLimb_18 ?_
        refine lv_aload_n hx hb d_Wh_divideByLimb_19 rfl (lv_at hl 0 rfl) ?_
        refine va_get (D := D) (ci := 0) (v := .ref a) (C := R_Wh) (T := F_Wh) (N := 2) hx hb hts i_Wh hown hK hP 0 rfl rfl 0 (by decide) (hts _ (big_in mw_90 rfl)) (fun _ h9 => h9) rfl d_Wh_divideByLimb_20 ?_
        refine lv_iload hx hb d_Wh_divideByLimb_23 (lv_at hl 3 rfl) ?_
        refine zz_iald hx hb hK hP 1 0 rfl rfl (j - 1) (by omega) (by omega) (by omega) d_Wh_divideByLimb_25 ?_
        refine lv_i2l (v := (g (j - 1)).toInt64) hx hb d_Wh_divideByLimb_26 rfl ?_
        refine lv_ldc2 (v := 4294967295) hx hb hown (hts _ (big_in mw_398 rfl)) d_Wh_divideByLimb_27 ?_
        refine zz_mask hx hb d_Wh_divideByLimb_30 ?_
        have bw30 := uwZ (g (j - 1))
        refine zz_lor hx hb d_Wh_divideByLimb_31 (by omega) (by omega) ?_
        obtain ⟨T, hT, bT⟩ : ∃ x : Nat, x = rs * 4294967296 + uw (f (j - 1)) ∧ x < d * 4294967296 := ⟨_, rfl, by have := uw_lt (f (j - 1)); omega⟩
        rw [show ((rs : Int) * 4294967296 + (uw (g (j - 1)) : Int) : Int) = (T : Int) by rw [hT, ig (j - 1) (by omega)]; simp]
        have bT2 : T < 18446744073709551616 := by omega
        refine lv_lstore (lv' := [(6, .long (lZ (T : Int))), (0, .ref h), (1, .long (lZ (d : Int))), (3, .long (lZ (rs : Int))), (5, .int (iZ ((j : Int) - 1)))]) hx hb d_Wh_divideByLimb_32 hl (by decide) rfl (fun ls hl => ?_)
        refine lv_lload hx hb d_Wh_divideByLimb_34 (lv_at hl 0 rfl) ?_
        refine lv_lload_n hx hb d_Wh_divideByLimb_36 rfl (lv_at hl 2 rfl) ?_
        refine cs (n := 2) (wr := [(h, .inr (0, [.ref a, .int (iZ (k : Int))])), (a, .inl (cI, n, .inl g))]) (w1 := (fun (u : Nat) => [])) (As := [.long (lZ (T : Int)), .long (lZ (d : Int))]) (rest := []) K hP hD hK hS hA hl.1 (c_Wh_quotientOf l D T d H.size (by omega) (by omega) (by omega)) [] [0, 1] [] rfl rfl rfl (by decide) (by decide) (by decide) (big_in mw_748 rfl) (big_in mw_6 rfl) (big_in mw_746 rfl) (big_in mw_747 rfl) rfl rfl (by decide +kernel) ⟨by rw [hR]; exact Nat.le_of_ble_eq_true rfl, by rw [hR]; exact Nat.le_of_ble_eq_true rfl⟩ rfl (Nat.le_of_ble_eq_true rfl) d_Wh_divideByLimb_37 ⟨by rw [hR]; exact Nat.le_of_ble_eq_true rfl, by rw [hR]; exact Nat.le_of_ble_eq_true rfl⟩ rfl (fun v u H locs hp2 hP hD hS _ => ?_)
        obtain ⟨qq, rfl⟩ : ∃ z, z = u := ⟨_, rfl⟩
        obtain ⟨rfl, gq⟩ := hp2
        have hP : va_P D cls0 [(h, .inr (0, [.ref a, .int (iZ (k : Int))])), (a, .inl (cI, n, .inl g))] H := hP
        have hD : va_D A [(h, .inr (0, [.ref a, .int (iZ (k : Int))])), (a, .inl (cI, n, .inl g))] := hD
        show W p l e R s m args below meth c H locs _ _ Q (F0 m 40 ls [.long (lZ (qq : Int))])
        subst gq
        refine lv_lstore (lv' := [(8, .long (lZ ((T / d : Nat) : Int))), (6, .long (lZ (T : Int))), (0, .ref h), (1, .long (lZ (d : Int))), (3, .long (lZ (rs : Int))), (5, .int (iZ ((j : Int) - 1)))]) hx hb d_Wh_divideByLimb_40 hl (by decide) rfl (fun ls hl => ?_)
        refine lv_aload_n hx hb d_Wh_divideByLimb_42 rfl (lv_at hl 2 rfl) ?_
        refine va_get (D := D) (ci := 0) (v := .ref a) (C := R_Wh) (T := F_Wh) (N := 2) hx hb hts i_Wh hown hK hP 0 rfl rfl 0 (by decide) (hts _ (big_in mw_90 rfl)) (fun _ h9 => h9) rfl d_Wh_divideByLimb_43 ?_
        refine lv_iload hx hb d_Wh_divideByLimb_46 (lv_at hl 5 rfl) ?_
        refine lv_lload hx hb d_Wh_divideByLimb_48 (lv_at hl 0 rfl) ?_
        refine zz_l2i hx hb d_Wh_divideByLimb_50 ?_
        refine zz_iast hx hb hK hP hD hS 1 0 rfl rfl (j - 1) (by omega) (by omega) (by omega) d_Wh_divideByLimb_51 (fun H locs hP hD hS => ?_)
        have hP : va_P D cls0 [(h, .inr (0, [.ref a, .int (iZ (k : Int))])), (a, .inl (cI, n, .inl (upd g (j - 1) (iZ ((T / d : Nat) : Int)))))] H := hP
        have hD : va_D A [(h, .inr (0, [.ref a, .int (iZ (k : Int))])), (a, .inl (cI, n, .inl (upd g (j - 1) (iZ ((T / d : Nat) : Int)))))] := hD
        refine lv_lload hx hb d_Wh_divideByLimb_52 (lv_at hl 1 rfl) ?_
        refine lv_lload hx hb d_Wh_divideByLimb_54 (lv_at hl 0 rfl) ?_
        refine lv_lload_n hx hb d_Wh_divideByLimb_56 rfl (lv_at hl 3 rfl) ?_
        refine zz_lmul hx hb d_Wh_divideByLimb_57 ?_
        refine zz_lsub hx hb d_Wh_divideByLimb_58 ?_
        rw [show ((T : Int) - (((T / d : Nat) : Int) * (d : Int)) : Int) = ((T % d : Nat) : Int) by have := Nat.div_add_mod T d; rw [Nat.mul_comm] at this; have h2 : ((T / d * d : Nat) : Int) = ((T / d : Nat) : Int) * (d : Int) := (by simp); omega]
        refine lv_lstore_n (lv' := [(3, .long (lZ ((T % d : Nat) : Int))), (8, .long (lZ ((T / d : Nat) : Int))), (6, .long (lZ (T : Int))), (0, .ref h), (1, .long (lZ (d : Int))), (5, .int (iZ ((j : Int) - 1)))]) hx hb d_Wh_divideByLimb_59 rfl hl (by decide) rfl (fun ls hl => ?_)
        refine lv_iinc (v := iZ ((j : Int) - 1 - 1)) (lv' := [(5, .int (iZ ((j : Int) - 1 - 1))), (3, .long (lZ ((T % d : Nat) : Int))), (8, .long (lZ ((T / d : Nat) : Int))), (6, .long (lZ (T : Int))), (0, .ref h), (1, .long (lZ (d : Int)))]) hx hb d_Wh_divideByLimb_60 hl (k := 5) rfl (iZ_add _ _) (by decide) rfl (fun ls hl => ?_)
        refine lv_goto (tgt := 10) hx hb d_Wh_divideByLimb_63 (by decide) ?_
        rw [show ((j : Int) - 1 - 1 : Int) = ((j - 1 : Nat) : Int) - 1 by omega] at hl
        exact ih (j - 1) (T % d) (upd g (j - 1) (iZ ((T / d : Nat) : Int))) _ _ _ (by omega) (by omega) (Nat.mod_lt _ hd) (fun i hi => by rw [pk_un (by omega)]; exact ig i (by omega)) (dl_step (by omega) ij hd iv ir hd2 hT) (hP.sub (ws' := [(h, .inr (0, [.ref a, .int (iZ (k : Int))])), (a, .inl (cI, n, .inl (upd g (j - 1) (iZ ((T / d : Nat) : Int)))))]) [0, 1] rfl) (hD.sub (ws' := [(h, .inr (0, [.ref a, .int (iZ (k : Int))])), (a, .inl (cI, n, .inl (upd g (j - 1) (iZ ((T / d : Nat) : Int)))))]) [0, 1] (by decide) rfl) hS (lv_sub hl [4, 5, 1, 0] rfl)
  exact L10 _ k 0 f _ _ _ (Nat.lt_succ_self _) (Nat.le_refl k) hd (fun _ _ => rfl) (by rw [Nat.sub_self, vV_0, rv.1]; simp) (hP.sub (ws' := [(h, .inr (0, [.ref a, .int (iZ (k : Int))])), (a, .inl (cI, n, .inl f))]) [0, 1] rfl) (hD.sub (ws' := [(h, .inr (0, [.ref a, .int (iZ (k : Int))])), (a, .inl (cI, n, .inl f))]) [0, 1] (by decide) rfl) hS (lv_sub hl [2, 3, 1, 0] rfl)
