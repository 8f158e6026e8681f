set_option maxHeartbeats 4000000 in
set_option maxRecDepth 100000 in
/-- plus(other) -/
theorem c_Wh_plus (l : Launch) (D : va_G) (h : Nat) (a : Nat) (k : Nat) (n : Nat) (f : Nat → Int32) (h2 : Nat) (a2 : Nat) (k2 : Nat) (n2 : Nat) (f2 : Nat → Int32) (cI : ClassId) (v : Nat) (v2 : Nat) (sz : Nat) (r1 : Rp f k v) (r2 : Rp f2 k2 v2) (hk : k ≤ n) (hk2 : k2 ≤ n2) (hn : n < 1000000) (hn2 : n2 < 1000000) (hm1 : k + 1 ≤ n) (hm2 : k2 + 1 ≤ n) : Met l y_Wh_plus (wsB y_Wh_plus b_Wh_plus 6 none) ({ frames := 1, cells := 0, slots := 0, locals := 21 }) (va_Pc [.ref h, .ref h2] (wPre D [(cI, .int)] [(h, .inr (0, [.ref a, .int (iZ (k : Int))])), (a, .inl (cI, n, .inl f)), (h2, .inr (0, [.ref a2, .int (iZ (k2 : Int))])), (a2, .inl (cI, n2, .inl f2))] sz)) (va_QV (fun (v9 : Option Value) (u9 : Nat × (Nat → Int32)) => v9 = none ∧ (Rp u9.2 u9.1 (v + v2)) ∧ (u9.1 ≤ n)) (fun u9 => wPost D [(cI, .int)] [(h, .inr (0, [.ref a, .int (iZ (k : Int))])), (a, .inl (cI, n, .inl f)), (h2, .inr (0, [.ref a2, .int (iZ (k2 : Int))])), (a2, .inl (cI, n2, .inl f2))] [(h, .inr (0, [.ref a, .int (iZ (u9.1 : Int))])), (a, .inl (cI, n, .inl u9.2)), (h2, .inr (0, [.ref a2, .int (iZ (k2 : Int))])), (a2, .inl (cI, n2, .inl f2))] sz) (va_A [(h, .inr (0, [.ref a, .int (iZ (k : Int))])), (a, .inl (cI, n, .inl f)), (h2, .inr (0, [.ref a2, .int (iZ (k2 : Int))])), (a2, .inl (cI, n2, .inl f2))] sz)) 0 0 (va_A [(h, .inr (0, [.ref a, .int (iZ (k : Int))])), (a, .inl (cI, n, .inl f)), (h2, .inr (0, [.ref a2, .int (iZ (k2 : Int))])), (a2, .inl (cI, n2, .inl f2))] sz) := by
  refine met_enter (by decide +kernel) (Nat.le_of_ble_eq_true rfl) ?_
  intro p e s m args below meth c ls A R Q H locs K hin hAe hA hR hQ hP hK hD hS hl
  obtain ⟨hx, hb, hml, hrt, hlk, hts, hown, hno⟩ := id K
  have hl : lv_has ls 6 [(0, .ref h), (1, .ref h2)] := hl
  refine lv_aload_n hx hb d_Wh_plus_0 rfl (lv_at hl 0 rfl) ?_
  refine va_get (D := D) (ci := 0) (v := .int (iZ (k : Int))) (C := R_Wh) (T := F_Wh) (N := 2) hx hb hts i_Wh hown hK hP 0 rfl rfl 1 (by decide) (hts _ (big_in mw_94 rfl)) (fun _ h9 => h9) rfl d_Wh_plus_1 ?_
  refine lv_aload_n hx hb d_Wh_plus_4 rfl (lv_at hl 1 rfl) ?_
  refine va_get (D := D) (ci := 0) (v := .int (iZ (k2 : Int))) (C := R_Wh) (T := F_Wh) (N := 2) hx hb hts i_Wh hown hK hP 2 rfl rfl 1 (by decide) (hts _ (big_in mw_94 rfl)) (fun _ h9 => h9) rfl d_Wh_plus_5 ?_
  refine cs (n := 2) (wr := [(h, .inr (0, [.ref a, .int (iZ (k : Int))])), (a, .inl (cI, n, .inl f)), (h2, .inr (0, [.ref a2, .int (iZ (k2 : Int))])), (a2, .inl (cI, n2, .inl f2))]) (w1 := (fun (u : Int) => [])) (As := [.int (iZ (k : Int)), .int (iZ (k2 : Int))]) (rest := []) K hP hD hK hS hA hl.1 (c_jMath_max l D (k : Int) (k2 : Int) H.size (by omega) (by omega)) [] [0, 1, 2, 3] [] rfl rfl rfl (by decide) (by decide) (by decide) (big_in mw_49 rfl) (big_in mw_3 rfl) (big_in mw_89 rfl) (big_in mw_48 rfl) rfl rfl (by decide +kernel) ⟨by rw [hR]; exact Nat.le_of_ble_eq_true rfl, by rw [hR]; exact Nat.le_of_ble_eq_true rfl⟩ rfl (Nat.le_of_ble_eq_true rfl) d_Wh_plus_8 ⟨by rw [hR]; exact Nat.le_of_ble_eq_true rfl, by rw [hR]; exact Nat.le_of_ble_eq_true rfl⟩ rfl (fun v u H locs hp1 hP hD hS _ => ?_)
  obtain ⟨rm, rfl⟩ : ∃ z, z = u := ⟨_, rfl⟩
  obtain ⟨rfl, gm⟩ := hp1
  have hP : va_P D cls0 [(h, .inr (0, [.ref a, .int (iZ (k : Int))])), (a, .inl (cI, n, .inl f)), (h2, .inr (0, [.ref a2, .int (iZ (k2 : Int))])), (a2, .inl (cI, n2, .inl f2))] H := hP
  have hD : va_D A [(h, .inr (0, [.ref a, .int (iZ (k : Int))])), (a, .inl (cI, n, .inl f)), (h2, .inr (0, [.ref a2, .int (iZ (k2 : Int))])), (a2, .inl (cI, n2, .inl f2))] := hD
  show W p l e R s m args below meth c H locs _ _ Q (F0 m 11 ls [.int (iZ rm)])
  obtain ⟨M, hM1, hM2, hM3, rfl⟩ : ∃ x : Nat, k ≤ x ∧ k2 ≤ x ∧ (x = k ∨ x = k2) ∧ rm = (x : Int) := ⟨max k k2, by omega, by omega, by omega, by rw [gm]; split <;> omega⟩
  refine lv_istore_n (lv' := [(2, .int (iZ (M : Int))), (0, .ref h), (1, .ref h2)]) hx hb d_Wh_plus_11 rfl hl (by decide) rfl (fun ls hl => ?_)
  refine lv_aload_n hx hb d_Wh_plus_12 rfl (lv_at hl 1 rfl) ?_
  refine lv_iload_n hx hb d_Wh_plus_13 rfl (lv_at hl 0 rfl) ?_
  refine lv_iconst (v := iZ (1)) hx hb d_Wh_plus_14 (by decide +kernel) ?_
  refine zz_iadd hx hb d_Wh_plus_15 ?_
  refine cv (n := 1) (wr := [(h2, .inr (0, [.ref a2, .int (iZ (k2 : Int))])), (a2, .inl (cI, n2, .inl f2))]) (w1 := (fun (u : Unit) => [(h, .inr (0, [.ref a, .int (iZ (k : Int))])), (a, .inl (cI, n, .inl f))])) (As := [.int (iZ ((M : Int) + 1))]) (rest := []) K hP hD hK hS hA hl.1 (c_Wh_claim l D h a (iZ (k : Int)) n f cI ((M : Int) + 1) H.size (by omega) (by omega)) [0, 1] [2, 3] [0] rfl rfl rfl (by decide) (by decide) (by decide) 0 rfl rfl (big_in mw_406 rfl) (big_in mw_6 rfl) (big_in mw_403 rfl) (big_in mw_405 rfl) (big_in sp_2 rfl) rfl rfl (by decide +kernel) ⟨by rw [hR]; exact Nat.le_of_ble_eq_true rfl, by rw [hR]; exact Nat.le_of_ble_eq_true rfl⟩ rfl (Nat.le_of_ble_eq_true rfl) d_Wh_plus_16 ⟨by rw [hR]; exact Nat.le_of_ble_eq_true rfl, by rw [hR]; exact Nat.le_of_ble_eq_true rfl⟩ rfl (fun v u H locs hp2 hP hD hS _ => ?_)
  obtain rfl := hp2
  have hP : va_P D cls0 [(h2, .inr (0, [.ref a2, .int (iZ (k2 : Int))])), (a2, .inl (cI, n2, .inl f2)), (h, .inr (0, [.ref a, .int (iZ (k : Int))])), (a, .inl (cI, n, .inl f))] H := hP
  have hD : va_D A [(h2, .inr (0, [.ref a2, .int (iZ (k2 : Int))])), (a2, .inl (cI, n2, .inl f2)), (h, .inr (0, [.ref a, .int (iZ (k : Int))])), (a, .inl (cI, n, .inl f))] := hD
  show W p l e R s m args below meth c H locs _ _ Q (F0 m 19 ls [])
  refine lv_lconst (v := lZ (0)) hx hb d_Wh_plus_19 (by decide +kernel) ?_
  refine lv_lstore_n (lv' := [(3, .long (lZ 0)), (2, .int (iZ (M : Int))), (0, .ref h), (1, .ref h2)]) hx hb d_Wh_plus_20 rfl hl (by decide) rfl (fun ls hl => ?_)
  refine lv_iconst (v := iZ (0)) hx hb d_Wh_plus_21 (by decide +kernel) ?_
  refine lv_istore (lv' := [(5, .int (iZ 0)), (3, .long (lZ 0)), (2, .int (iZ (M : Int))), (0, .ref h), (1, .ref h2)]) hx hb d_Wh_plus_22 hl (by decide) rfl (fun ls hl => ?_)
  have L24 : ∀ (N : Nat) (i : Nat) (cr : Nat) (g : Nat → Int32) (H : Heap) (locs : List Loc) (ls : Array Slot), M - i < N → (i ≤ M) → (cr ≤ 1) → (∀ j, i ≤ j → g j = f j) → (vV g i + cr * pB i = vZ f k i + vZ f2 k2 i) → va_P D cls0 [(h, .inr (0, [.ref a, .int (iZ (k : Int))])), (a, .inl (cI, n, .inl g)), (h2, .inr (0, [.ref a2, .int (iZ (k2 : Int))])), (a2, .inl (cI, n2, .inl f2))] H → va_D A [(h, .inr (0, [.ref a, .int (iZ (k : Int))])), (a, .inl (cI, n, .inl g)), (h2, .inr (0, [.ref a2, .int (iZ (k2 : Int))])), (a2, .inl (cI, n2, .inl f2))] → va_S A s.heap H locs → lv_has ls 6 [(0, .ref h), (1, .ref h2), (2, .int (iZ (M : Int))), (3, .long (lZ (cr : Int))), (5, .int (iZ (i : Int)))] → W p l e R s m args below meth c H locs 0 0 Q (F0 m 24 ls []) := by
    intro N
    induction N with
    | zero => intro i cr g H locs ls hN; exact absurd hN (Nat.not_lt_zero _)
    | succ N ih =>
      intro i cr g H locs ls hN iM ic ig iv hP hD hS hl
      refine lv_iload hx hb d_Wh_plus_24 (lv_at hl 4 rfl) ?_
      refine lv_iload_n hx hb d_Wh_plus_26 rfl (lv_at hl 2 rfl) ?_
      refine zz_icmp_ge (tgt := 66) hx hb d_Wh_plus_27 (by decide) (by omega) (by omega) (fun c27 => ?_) (fun c27 => ?_)
      · refine lv_aload_n hx hb d_Wh_plus_66 rfl (lv_at hl 0 rfl) ?_
        refine va_get (D := D) (ci := 0) (v := .ref a) (C := R_Wh) (T := F_Wh) (N := 2) hx hb hts i_Wh hown hK hP 0 rfl rfl 0 (by decide) (hts _ (big_in mw_90 rfl)) (fun _ h9 => h9) rfl d_Wh_plus_67 ?_
        refine lv_iload_n hx hb d_Wh_plus_70 rfl (lv_at hl 2 rfl) ?_
        refine lv_lload_n hx hb d_Wh_plus_71 rfl (lv_at hl 3 rfl) ?_
        refine zz_l2i hx hb d_Wh_plus_72 ?_
        refine zz_iast hx hb hK hP hD hS 1 0 rfl rfl (M) (by omega) (by omega) (by omega) d_Wh_plus_73 (fun H locs hP hD hS => ?_)
        have hP : va_P D cls0 [(h, .inr (0, [.ref a, .int (iZ (k : Int))])), (a, .inl (cI, n, .inl (upd g M (iZ (cr : Int))))), (h2, .inr (0, [.ref a2, .int (iZ (k2 : Int))])), (a2, .inl (cI, n2, .inl f2))] H := hP
        have hD : va_D A [(h, .inr (0, [.ref a, .int (iZ (k : Int))])), (a, .inl (cI, n, .inl (upd g M (iZ (cr : Int))))), (h2, .inr (0, [.ref a2, .int (iZ (k2 : Int))])), (a2, .inl (cI, n2, .inl f2))] := hD
        refine lv_aload_n hx hb d_Wh_plus_74 rfl (lv_at hl 0 rfl) ?_
        refine lv_iload_n hx hb d_Wh_plus_75 rfl (lv_at hl 2 rfl) ?_
        refine lv_iconst (v := iZ (1)) hx hb d_Wh_plus_76 (by decide +kernel) ?_
        refine zz_iadd hx hb d_Wh_plus_77 ?_
        refine va_put (D := D) (ci := 0) (v := .int (iZ ((M : Int) + 1))) (ty := .int) (C := R_Wh) (T := F_Wh) (N := 2) hx hb hts i_Wh t_Wh t_Wh_ok n_Wh hown hK hP hD hS 0 rfl rfl 1 (by decide) (hts _ (big_in mw_94 rfl)) (fun _ h9 => h9) rfl (by decide +kernel) rfl rfl (Nat.le_of_ble_eq_true rfl) d_Wh_plus_78 (fun H locs hP hD hS => ?_)
        have hP : va_P D cls0 [(h, .inr (0, [.ref a, .int (iZ ((M : Int) + 1))])), (a, .inl (cI, n, .inl (upd g M (iZ (cr : Int))))), (h2, .inr (0, [.ref a2, .int (iZ (k2 : Int))])), (a2, .inl (cI, n2, .inl f2))] H := hP
        have hD : va_D A [(h, .inr (0, [.ref a, .int (iZ ((M : Int) + 1))])), (a, .inl (cI, n, .inl (upd g M (iZ (cr : Int))))), (h2, .inr (0, [.ref a2, .int (iZ (k2 : Int))])), (a2, .inl (cI, n2, .inl f2))] := hD
        refine lv_aload_n hx hb d_Wh_plus_81 rfl (lv_at hl 0 rfl) ?_
        rw [show ((M : Int) + 1 : Int) = ((M + 1 : Nat) : Int) by omega] at hP hD
        refine cv (n := 0) (wr := [(h2, .inr (0, [.ref a2, .int (iZ (k2 : Int))])), (a2, .inl (cI, n2, .inl f2))]) (w1 := (fun (u : Nat) => [(h, .inr (0, [.ref a, .int (iZ (u : Int))])), (a, .inl (cI, n, .inl (upd g M (iZ (cr : Int)))))])) (As := []) (rest := []) K hP hD hK hS hA hl.1 (c_Wh_trim l D h a (M + 1) n (upd g M (iZ (cr : Int))) cI H.size (by omega) (by omega)) [0, 1] [2, 3] [0] rfl rfl rfl (by decide) (by decide) (by decide) 0 rfl rfl (big_in mw_385 rfl) (big_in mw_6 rfl) (big_in mw_382 rfl) (big_in mw_384 rfl) (big_in sp_1 rfl) rfl rfl (by decide +kernel) ⟨by rw [hR]; exact Nat.le_of_ble_eq_true rfl, by rw [hR]; exact Nat.le_of_ble_eq_true rfl⟩ rfl (Nat.le_of_ble_eq_true rfl) d_Wh_plus_82 ⟨by rw [hR]; exact Nat.le_of_ble_eq_true rfl, by rw [hR]; exact Nat.le_of_ble_eq_true rfl⟩ rfl (fun v u H locs hp3 hP hD hS _ => ?_)
        obtain ⟨u, rfl⟩ : ∃ z, z = u := ⟨_, rfl⟩
        obtain ⟨rfl, g1, g2, g3⟩ := hp3
        have hP : va_P D cls0 [(h2, .inr (0, [.ref a2, .int (iZ (k2 : Int))])), (a2, .inl (cI, n2, .inl f2)), (h, .inr (0, [.ref a, .int (iZ (u : Int))])), (a, .inl (cI, n, .inl (upd g M (iZ (cr : Int)))))] H := hP
        have hD : va_D A [(h2, .inr (0, [.ref a2, .int (iZ (k2 : Int))])), (a2, .inl (cI, n2, .inl f2)), (h, .inr (0, [.ref a, .int (iZ (u : Int))])), (a, .inl (cI, n, .inl (upd g M (iZ (cr : Int)))))] := hD
        show W p l e R s m args below meth c H locs _ _ Q (F0 m 85 ls [])
        have hP9 : va_P D cls0 [(h, .inr (0, [.ref a, .int (iZ (u : Int))])), (a, .inl (cI, n, .inl (upd g M (iZ (cr : Int))))), (h2, .inr (0, [.ref a2, .int (iZ (k2 : Int))])), (a2, .inl (cI, n2, .inl f2))] H := hP.sub [2, 3, 0, 1] rfl
        have hD9 : va_D A [(h, .inr (0, [.ref a, .int (iZ (u : Int))])), (a, .inl (cI, n, .inl (upd g M (iZ (cr : Int))))), (h2, .inr (0, [.ref a2, .int (iZ (k2 : Int))])), (a2, .inl (cI, n2, .inl f2))] := hD.sub [2, 3, 0, 1] (by decide) rfl
        rw [hQ, ← hAe]
        refine r_v K (u, (upd g M (iZ (cr : Int)))) hS d_Wh_plus_85 ?_ (fun t ht hv => ?_)
        · try dsimp only
          have eM : i = M := by omega
          subst eM
          exact ⟨rfl, Rp.trimmed (pl_end iv hM1 hM2 ic r1 r2) g1 g2 g3, by omega⟩
        · exact ⟨by rw [ht]; exact hP9, va_K.moved hv hK, by rw [← hAe]; exact hD9⟩
      · refine lv_lload_n hx hb d_Wh_plus_30 rfl (lv_at hl 3 rfl) ?_
        refine lv_aload_n hx hb d_Wh_plus_31 rfl (lv_at hl 0 rfl) ?_
        refine lv_iload hx hb d_Wh_plus_32 (lv_at hl 4 rfl) ?_
        refine cv (n := 1) (wr := [(h2, .inr (0, [.ref a2, .int (iZ (k2 : Int))])), (a2, .inl (cI, n2, .inl f2))]) (w1 := (fun (u : Int) => [(h, .inr (0, [.ref a, .int (iZ (k : Int))])), (a, .inl (cI, n, .inl g))])) (As := [.int (iZ (i : Int))]) (rest := [.long (lZ (cr : Int))]) K hP hD hK hS hA hl.1 (c_Wh_at l D h a k n g cI (i : Int) H.size (by omega) (by omega) (by omega)) [0, 1] [2, 3] [0] rfl rfl rfl (by decide) (by decide) (by decide) 0 rfl rfl (big_in mw_447 rfl) (big_in mw_6 rfl) (big_in mw_444 rfl) (big_in mw_445 rfl) (big_in mw_446 rfl) rfl rfl (by decide +kernel) ⟨by rw [hR]; exact Nat.le_of_ble_eq_true rfl, by rw [hR]; exact Nat.le_of_ble_eq_true rfl⟩ rfl (Nat.le_of_ble_eq_true rfl) d_Wh_plus_34 ⟨by rw [hR]; exact Nat.le_of_ble_eq_true rfl, by rw [hR]; exact Nat.le_of_ble_eq_true rfl⟩ rfl (fun v u H locs hp4 hP hD hS _ => ?_)
        obtain ⟨zy1, rfl⟩ : ∃ z, z = u := ⟨_, rfl⟩
        obtain ⟨rfl, gzy1⟩ := hp4
        have hP : va_P D cls0 [(h2, .inr (0, [.ref a2, .int (iZ (k2 : Int))])), (a2, .inl (cI, n2, .inl f2)), (h, .inr (0, [.ref a, .int (iZ (k : Int))])), (a, .inl (cI, n, .inl g))] H := hP
        have hD : va_D A [(h2, .inr (0, [.ref a2, .int (iZ (k2 : Int))])), (a2, .inl (cI, n2, .inl f2)), (h, .inr (0, [.ref a, .int (iZ (k : Int))])), (a, .inl (cI, n, .inl g))] := hD
        show W p l e R s m args below meth c H locs _ _ Q (F0 m 37 ls [.long (lZ zy1), .long (lZ (cr : Int))])
        obtain ⟨y1, hy1, by1, rfl⟩ : ∃ x : Nat, x = at0 f k i ∧ x < 4294967296 ∧ zy1 = (x : Int) := ⟨_, rfl, at0_lt _ _ _, by rw [gzy1, atZ_n]; exact congrArg _ (at0_c (ig i (Nat.le_refl i)))⟩
        refine lv_aload_n hx hb d_Wh_plus_37 rfl (lv_at hl 1 rfl) ?_
        refine lv_iload hx hb d_Wh_plus_38 (lv_at hl 4 rfl) ?_
        refine cv (n := 1) (wr := [(h, .inr (0, [.ref a, .int (iZ (k : Int))])), (a, .inl (cI, n, .inl g))]) (w1 := (fun (u : Int) => [(h2, .inr (0, [.ref a2, .int (iZ (k2 : Int))])), (a2, .inl (cI, n2, .inl f2))])) (As := [.int (iZ (i : Int))]) (rest := [.long (lZ (y1 : Int)), .long (lZ (cr : Int))]) K hP hD hK hS hA hl.1 (c_Wh_at l D h2 a2 k2 n2 f2 cI (i : Int) H.size (by omega) (by omega) (by omega)) [0, 1] [2, 3] [0] rfl rfl rfl (by decide) (by decide) (by decide) 0 rfl rfl (big_in mw_447 rfl) (big_in mw_6 rfl) (big_in mw_444 rfl) (big_in mw_445 rfl) (big_in mw_446 rfl) rfl rfl (by decide +kernel) ⟨by rw [hR]; exact Nat.le_of_ble_eq_true rfl, by rw [hR]; exact Nat.le_of_ble_eq_true rfl⟩ rfl (Nat.le_of_ble_eq_true rfl) d_Wh_plus_40 ⟨by rw [hR]; exact Nat.le_of_ble_eq_true rfl, by rw [hR]; exact Nat.le_of_ble_eq_true rfl⟩ rfl (fun v u H locs hp5 hP hD hS _ => ?_)
        obtain ⟨zy2, rfl⟩ : ∃ z, z = u := ⟨_, rfl⟩
        obtain ⟨rfl, gzy2⟩ := hp5
        have hP : va_P D cls0 [(h, .inr (0, [.ref a, .int (iZ (k : Int))])), (a, .inl (cI, n, .inl g)), (h2, .inr (0, [.ref a2, .int (iZ (k2 : Int))])), (a2, .inl (cI, n2, .inl f2))] H := hP
        have hD : va_D A [(h, .inr (0, [.ref a, .int (iZ (k : Int))])), (a, .inl (cI, n, .inl g)), (h2, .inr (0, [.ref a2, .int (iZ (k2 : Int))])), (a2, .inl (cI, n2, .inl f2))] := hD
        show W p l e R s m args below meth c H locs _ _ Q (F0 m 43 ls [.long (lZ zy2), .long (lZ (y1 : Int)), .long (lZ (cr : Int))])
        obtain ⟨y2, hy2, by2, rfl⟩ : ∃ x : Nat, x = at0 f2 k2 i ∧ x < 4294967296 ∧ zy2 = (x : Int) := ⟨_, rfl, at0_lt _ _ _, by rw [gzy2, atZ_n]⟩
        refine zz_ladd hx hb d_Wh_plus_43 ?_
        refine zz_ladd hx hb d_Wh_plus_44 ?_
        refine lv_lstore_n (lv' := [(3, .long (lZ ((cr : Int) + ((y1 : Int) + (y2 : Int))))), (0, .ref h), (1, .ref h2), (2, .int (iZ (M : Int))), (5, .int (iZ (i : Int)))]) hx hb d_Wh_plus_45 rfl hl (by decide) rfl (fun ls hl => ?_)
        refine lv_aload_n hx hb d_Wh_plus_46 rfl (lv_at hl 1 rfl) ?_
        refine va_get (D := D) (ci := 0) (v := .ref a) (C := R_Wh) (T := F_Wh) (N := 2) hx hb hts i_Wh hown hK hP 0 rfl rfl 0 (by decide) (hts _ (big_in mw_90 rfl)) (fun _ h9 => h9) rfl d_Wh_plus_47 ?_
        refine lv_iload hx hb d_Wh_plus_50 (lv_at hl 4 rfl) ?_
        refine lv_lload_n hx hb d_Wh_plus_52 rfl (lv_at hl 0 rfl) ?_
        refine zz_l2i hx hb d_Wh_plus_53 ?_
        refine zz_iast hx hb hK hP hD hS 1 0 rfl rfl (i) (by omega) (by omega) (by omega) d_Wh_plus_54 (fun H locs hP hD hS => ?_)
        have hP : va_P D cls0 [(h, .inr (0, [.ref a, .int (iZ (k : Int))])), (a, .inl (cI, n, .inl (upd g i (iZ ((cr : Int) + ((y1 : Int) + (y2 : Int))))))), (h2, .inr (0, [.ref a2, .int (iZ (k2 : Int))])), (a2, .inl (cI, n2, .inl f2))] H := hP
        have hD : va_D A [(h, .inr (0, [.ref a, .int (iZ (k : Int))])), (a, .inl (cI, n, .inl (upd g i (iZ ((cr : Int) + ((y1 : Int) + (y2 : Int))))))), (h2, .inr (0, [.ref a2, .int (iZ (k2 : Int))])), (a2, .inl (cI, n2, .inl f2))] := hD
        refine lv_lload_n hx hb d_Wh_plus_55 rfl (lv_at hl 0 rfl) ?_
        refine lv_bipush (v := iZ (32)) hx hb d_Wh_plus_56 (by decide +kernel) ?_
        refine zz_lushr32 hx hb d_Wh_plus_58 (by omega) (by omega) ?_
        refine lv_lstore_n (lv' := [(3, .long (lZ (((cr : Int) + ((y1 : Int) + (y2 : Int))) / 4294967296))), (0, .ref h), (1, .ref h2), (2, .int (iZ (M : Int))), (5, .int (iZ (i : Int)))]) hx hb d_Wh_plus_59 rfl hl (by decide) rfl (fun ls hl => ?_)
        refine lv_iinc (v := iZ ((i : Int) + 1)) (lv' := [(5, .int (iZ ((i : Int) + 1))), (3, .long (lZ (((cr : Int) + ((y1 : Int) + (y2 : Int))) / 4294967296))), (0, .ref h), (1, .ref h2), (2, .int (iZ (M : Int)))]) hx hb d_Wh_plus_60 hl (k := 4) rfl (iZ_add _ _) (by decide) rfl (fun ls hl => ?_)
        refine lv_goto (tgt := 24) hx hb d_Wh_plus_63 (by decide) ?_
        rw [show (((cr : Int) + ((y1 : Int) + (y2 : Int))) / 4294967296 : Int) = (((cr + (y1 + y2)) / 4294967296 : Nat) : Int) by omega] at hl
        rw [show ((i : Int) + 1 : Int) = ((i + 1 : Nat) : Int) by omega] at hl
        exact ih (i + 1) ((cr + (y1 + y2)) / 4294967296) (upd g i (iZ ((cr : Int) + ((y1 : Int) + (y2 : Int))))) _ _ _ (by omega) (by omega) (by omega) (fun j hj => by rw [pk_un (by omega)]; exact ig j (by omega)) (pl_step iv hy1 hy2) (hP.sub (ws' := [(h, .inr (0, [.ref a, .int (iZ (k : Int))])), (a, .inl (cI, n, .inl (upd g i (iZ ((cr : Int) + ((y1 : Int) + (y2 : Int))))))), (h2, .inr (0, [.ref a2, .int (iZ (k2 : Int))])), (a2, .inl (cI, n2, .inl f2))]) [0, 1, 2, 3] rfl) (hD.sub (ws' := [(h, .inr (0, [.ref a, .int (iZ (k : Int))])), (a, .inl (cI, n, .inl (upd g i (iZ ((cr : Int) + ((y1 : Int) + (y2 : Int))))))), (h2, .inr (0, [.ref a2, .int (iZ (k2 : Int))])), (a2, .inl (cI, n2, .inl f2))]) [0, 1, 2, 3] (by decide) rfl) hS (lv_sub hl [2, 3, 4, 1, 0] rfl)
  exact L24 _ 0 0 f _ _ _ (Nat.lt_succ_self _) (Nat.zero_le _) (Nat.zero_le _) (fun _ _ => rfl) (by rw [vV_0, vZ_0, vZ_0, pB_0]) (hP.sub (ws' := [(h, .inr (0, [.ref a, .int (iZ (k : Int))])), (a, .inl (cI, n, .inl f)), (h2, .inr (0, [.ref a2, .int (iZ (k2 : Int))])), (a2, .inl (cI, n2, .inl f2))]) [2, 3, 0, 1] rfl) (hD.sub (ws' := [(h, .inr (0, [.ref a, .int (iZ (k : Int))])), (a, .inl (cI, n, .inl f)), (h2, .inr (0, [.ref a2, .int (iZ (k2 : Int))])), (a2, .inl (cI, n2, .inl f2))]) [2, 3, 0, 1] (by decide) rfl) hS (lv_sub hl [3, 4, 2, 1, 0] rfl)
set_option maxHeartbeats 4000000 in
set_option maxRecDepth 100000 in
/-- differenceOf: this less the other -/
theorem c_Wh_diffL (l : Launch) (D : va_G) (h : Nat) (a : Nat) (k : Nat) (n : Nat) (f : Nat → Int32) (h2 : Nat) (a2 : Nat) (k2 : Nat) (n2 : Nat) (f2 : Nat → Int32) (cI : ClassId) (v : Nat) (v2 : Nat) (sz : Nat) (r1 : Rp f k v) (r2 : Rp f2 k2 v2) (hk : k ≤ n) (hk2 : k2 ≤ n2) (hn : n < 1000000) (hn2 : n2 < 1000000) (hle : v2 ≤ v) (hm : k ≤ n) : Met l y_Wh_differenceOf (wsB y_Wh_differenceOf b_Wh_differenceOf 7 none) ({ frames := 1, cells := 0, slots := 0, locals := 21 }) (va_Pc [.ref h, .ref h, .ref h2] (wPre D [(cI, .int)] [(h, .inr (0, [.ref a, .int (iZ (k : Int))])), (a, .inl (cI, n, .inl f)), (h2, .inr (0, [.ref a2, .int (iZ (k2 : Int))])), (a2, .inl (cI, n2, .inl f2))] sz)) (va_QV (fun (v9 : Option Value) (u9 : Nat × (Nat → Int32)) => v9 = none ∧ (Rp u9.2 u9.1 (v - v2)) ∧ (u9.1 ≤ k)) (fun u9 => wPost D [(cI, .int)] [(h, .inr (0, [.ref a, .int (iZ (k : Int))])), (a, .inl (cI, n, .inl f)), (h2, .inr (0, [.ref a2, .int (iZ (k2 : Int))])), (a2, .inl (cI, n2, .inl f2))] [(h, .inr (0, [.ref a, .int (iZ (u9.1 : Int))])), (a, .inl (cI, n, .inl u9.2)), (h2, .inr (0, [.ref a2, .int (iZ (k2 : Int))])), (a2, .inl (cI, n2, .inl f2))] sz) (va_A [(h, .inr (0, [.ref a, .int (iZ (k : Int))])), (a, .inl (cI, n, .inl f)), (h2, .inr (0, [.ref a2, .int (iZ (k2 : Int))])), (a2, .inl (cI, n2, .inl f2))] sz)) 0 0 (va_A [(h, .inr (0, [.ref a, .int (iZ (k : Int))])), (a, .inl (cI, n, .inl f)), (h2, .inr (0, [.ref a2, .int (iZ (k2 : Int))])), (a2, .inl (cI, n2, .inl f2))] sz) := by
  refine met_enter (by decide +kernel) (Nat.le_of_ble_eq_true rfl) ?_
  intro p e s m args below meth c ls A R Q H locs K hin hAe hA hR hQ hP hK hD hS hl
  obtain ⟨hx, hb, hml, hrt, hlk, hts, hown, hno⟩ := id K
  have hl : lv_has ls 7 [(0, .ref h), (1, .ref h), (2, .ref h2)] := hl
  refine lv_aload_n hx hb d_Wh_differenceOf_0 rfl (lv_at hl 1 rfl) ?_
  refine va_get (D := D) (ci := 0) (v := .int (iZ (k : Int))) (C := R_Wh) (T := F_Wh) (N := 2) hx hb hts i_Wh hown hK hP 0 rfl rfl 1 (by decide) (hts _ (big_in mw_94 rfl)) (fun _ h9 => h9) rfl d_Wh_differenceOf_1 ?_
  refine lv_istore_n (lv' := [(3, .int (iZ (k : Int))), (0, .ref h), (1, .ref h), (2, .ref h2)]) hx hb d_Wh_differenceOf_4 rfl hl (by decide) rfl (fun ls hl => ?_)
  refine lv_aload_n hx hb d_Wh_differenceOf_5 rfl (lv_at hl 1 rfl) ?_
  refine lv_iload_n hx hb d_Wh_differenceOf_6 rfl (lv_at hl 0 rfl) ?_
  refine cv (n := 1) (wr := [(h2, .inr (0, [.ref a2, .int (iZ (k2 : Int))])), (a2, .inl (cI, n2, .inl f2))]) (w1 := (fun (u : Unit) => [(h, .inr (0, [.ref a, .int (iZ (k : Int))])), (a, .inl (cI, n, .inl f))])) (As := [.int (iZ (k : Int))]) (rest := []) K hP hD hK hS hA hl.1 (c_Wh_claim l D h a (iZ (k : Int)) n f cI (k : Int) H.size (by omega) (by omega)) [0, 1] [2, 3] [0] rfl rfl rfl (by decide) (by decide) (by decide) 0 rfl rfl (big_in mw_406 rfl) (big_in mw_6 rfl) (big_in mw_403 rfl) (big_in mw_405 rfl) (big_in sp_2 rfl) rfl rfl (by decide +kernel) ⟨by rw [hR]; exact Nat.le_of_ble_eq_true rfl, by rw [hR]; exact Nat.le_of_ble_eq_true rfl⟩ rfl (Nat.le_of_ble_eq_true rfl) d_Wh_differenceOf_7 ⟨by rw [hR]; exact Nat.le_of_ble_eq_true rfl, by rw [hR]; exact Nat.le_of_ble_eq_true rfl⟩ rfl (fun v u H locs hp1 hP hD hS _ => ?_)
  obtain rfl := hp1
  have hP : va_P D cls0 [(h2, .inr (0, [.ref a2, .int (iZ (k2 : Int))])), (a2, .inl (cI, n2, .inl f2)), (h, .inr (0, [.ref a, .int (iZ (k : Int))])), (a, .inl (cI, n, .inl f))] H := hP
  have hD : va_D A [(h2, .inr (0, [.ref a2, .int (iZ (k2 : Int))])), (a2, .inl (cI, n2, .inl f2)), (h, .inr (0, [.ref a, .int (iZ (k : Int))])), (a, .inl (cI, n, .inl f))] := hD
  show W p l e R s m args below meth c H locs _ _ Q (F0 m 10 ls [])
  refine lv_lconst (v := lZ (0)) hx hb d_Wh_differenceOf_10 (by decide +kernel) ?_
  refine lv_lstore (lv' := [(4, .long (lZ 0)), (3, .int (iZ (k : Int))), (0, .ref h), (1, .ref h), (2, .ref h2)]) hx hb d_Wh_differenceOf_11 hl (by decide) rfl (fun ls hl => ?_)
  refine lv_iconst (v := iZ (0)) hx hb d_Wh_differenceOf_13 (by decide +kernel) ?_
  refine lv_istore (lv' := [(6, .int (iZ 0)), (4, .long (lZ 0)), (3, .int (iZ (k : Int))), (0, .ref h), (1, .ref h), (2, .ref h2)]) hx hb d_Wh_differenceOf_14 hl (by decide) rfl (fun ls hl => ?_)
  have L16 : ∀ (N : Nat) (i : Nat) (br : Int) (g : Nat → Int32) (H : Heap) (locs : List Loc) (ls : Array Slot), k - i < N → (i ≤ k) → (-1 ≤ br ∧ br ≤ 0) → (∀ j, i ≤ j → g j = f j) → ((vV g i : Int) + br * pB i = vZ f k i - vZ f2 k2 i) → va_P D cls0 [(h, .inr (0, [.ref a, .int (iZ (k : Int))])), (a, .inl (cI, n, .inl g)), (h2, .inr (0, [.ref a2, .int (iZ (k2 : Int))])), (a2, .inl (cI, n2, .inl f2))] H → va_D A [(h, .inr (0, [.ref a, .int (iZ (k : Int))])), (a, .inl (cI, n, .inl g)), (h2, .inr (0, [.ref a2, .int (iZ (k2 : Int))])), (a2, .inl (cI, n2, .inl f2))] → va_S A s.heap H locs → lv_has ls 7 [(0, .ref h), (1, .ref h), (2, .ref h2), (3, .int (iZ (k : Int))), (4, .long (lZ br)), (6, .int (iZ (i : Int)))] → W p l e R s m args below meth c H locs 0 0 Q (F0 m 16 ls []) := by
    intro N
    induction N with
    | zero => intro i br g H locs ls hN; exact absurd hN (Nat.not_lt_zero _)
    | succ N ih =>
      intro i br g H locs ls hN iM ic ig iv hP hD hS hl
      refine lv_iload hx hb d_Wh_differenceOf_16 (lv_at hl 5 rfl) ?_
      refine lv_iload_n hx hb d_Wh_differenceOf_18 rfl (lv_at hl 3 rfl) ?_
      refine zz_icmp_ge (tgt := 63) hx hb d_Wh_differenceOf_19 (by decide) (by omega) (by omega) (fun c19 => ?_) (fun c19 => ?_)
      · refine lv_aload_n hx hb d_Wh_differenceOf_63 rfl (lv_at hl 0 rfl) ?_
        refine lv_iload_n hx hb d_Wh_differenceOf_64 rfl (lv_at hl 3 rfl) ?_
        refine va_put (D := D) (ci := 0) (v := .int (iZ (k : Int))) (ty := .int) (C := R_Wh) (T := F_Wh) (N := 2) hx hb hts i_Wh t_Wh t_Wh_ok n_Wh hown hK hP hD hS 0 rfl rfl 1 (by decide) (hts _ (big_in mw_94 rfl)) (fun _ h9 => h9) rfl (by decide +kernel) rfl rfl (Nat.le_of_ble_eq_true rfl) d_Wh_differenceOf_65 (fun H locs hP hD hS => ?_)
        have hP : va_P D cls0 [(h, .inr (0, [.ref a, .int (iZ (k : Int))])), (a, .inl (cI, n, .inl g)), (h2, .inr (0, [.ref a2, .int (iZ (k2 : Int))])), (a2, .inl (cI, n2, .inl f2))] H := hP
        have hD : va_D A [(h, .inr (0, [.ref a, .int (iZ (k : Int))])), (a, .inl (cI, n, .inl g)), (h2, .inr (0, [.ref a2, .int (iZ (k2 : Int))])), (a2, .inl (cI, n2, .inl f2))] := hD
        refine lv_aload_n hx hb d_Wh_differenceOf_68 rfl (lv_at hl 0 rfl) ?_
        refine cv (n := 0) (wr := [(h2, .inr (0, [.ref a2, .int (iZ (k2 : Int))])), (a2, .inl (cI, n2, .inl f2))]) (w1 := (fun (u : Nat) => [(h, .inr (0, [.ref a, .int (iZ (u : Int))])), (a, .inl (cI, n, .inl g))])) (As := []) (rest := []) K hP hD hK hS hA hl.1 (c_Wh_trim l D h a k n g cI H.size (by omega) (by omega)) [0, 1] [2, 3] [0] rfl rfl rfl (by decide) (by decide) (by decide) 0 rfl rfl (big_in mw_385 rfl) (big_in mw_6 rfl) (big_in mw_382 rfl) (big_in mw_384 rfl) (big_in sp_1 rfl) rfl rfl (by decide +kernel) ⟨by rw [hR]; exact Nat.le_of_ble_eq_true rfl, by rw [hR]; exact Nat.le_of_ble_eq_true rfl⟩ rfl (Nat.le_of_ble_eq_true rfl) d_Wh_differenceOf_69 ⟨by rw [hR]; exact Nat.le_of_ble_eq_true rfl, by rw [hR]; exact Nat.le_of_ble_eq_true rfl⟩ rfl (fun v u H locs hp2 hP hD hS _ => ?_)
        obtain ⟨u, rfl⟩ : ∃ z, z = u := ⟨_, rfl⟩
        obtain ⟨rfl, g1, g2, g3⟩ := hp2
        have hP : va_P D cls0 [(h2, .inr (0, [.ref a2, .int (iZ (k2 : Int))])), (a2, .inl (cI, n2, .inl f2)), (h, .inr (0, [.ref a, .int (iZ (u : Int))])), (a, .inl (cI, n, .inl g))] H := hP
        have hD : va_D A [(h2, .inr (0, [.ref a2, .int (iZ (k2 : Int))])), (a2, .inl (cI, n2, .inl f2)), (h, .inr (0, [.ref a, .int (iZ (u : Int))])), (a, .inl (cI, n, .inl g))] := hD
        show W p l e R s m args below meth c H locs _ _ Q (F0 m 72 ls [])
        have hP9 : va_P D cls0 [(h, .inr (0, [.ref a, .int (iZ (u : Int))])), (a, .inl (cI, n, .inl g)), (h2, .inr (0, [.ref a2, .int (iZ (k2 : Int))])), (a2, .inl (cI, n2, .inl f2))] H := hP.sub [2, 3, 0, 1] rfl
        have hD9 : va_D A [(h, .inr (0, [.ref a, .int (iZ (u : Int))])), (a, .inl (cI, n, .inl g)), (h2, .inr (0, [.ref a2, .int (iZ (k2 : Int))])), (a2, .inl (cI, n2, .inl f2))] := hD.sub [2, 3, 0, 1] (by decide) rfl
        rw [hQ, ← hAe]
        refine r_v K (u, g) hS d_Wh_differenceOf_72 ?_ (fun t ht hv => ?_)
        · try dsimp only
          have hsz : k2 ≤ k := by rw [r2.size, r1.size]; exact lm_mono hle
          have eM : i = k := by omega
          subst eM
          exact ⟨rfl, Rp.trimmed (df_end iv r1 r2 hle hsz ic) g1 g2 g3, by omega⟩
        · exact ⟨by rw [ht]; exact hP9, va_K.moved hv hK, by rw [← hAe]; exact hD9⟩
      · refine lv_lload hx hb d_Wh_differenceOf_22 (lv_at hl 4 rfl) ?_
        refine lv_aload_n hx hb d_Wh_differenceOf_24 rfl (lv_at hl 1 rfl) ?_
        refine lv_iload hx hb d_Wh_differenceOf_25 (lv_at hl 5 rfl) ?_
        refine cv (n := 1) (wr := [(h2, .inr (0, [.ref a2, .int (iZ (k2 : Int))])), (a2, .inl (cI, n2, .inl f2))]) (w1 := (fun (u : Int) => [(h, .inr (0, [.ref a, .int (iZ (k : Int))])), (a, .inl (cI, n, .inl g))])) (As := [.int (iZ (i : Int))]) (rest := [.long (lZ br)]) K hP hD hK hS hA hl.1 (c_Wh_at l D h a k n g cI (i : Int) H.size (by omega) (by omega) (by omega)) [0, 1] [2, 3] [0] rfl rfl rfl (by decide) (by decide) (by decide) 0 rfl rfl (big_in mw_447 rfl) (big_in mw_6 rfl) (big_in mw_444 rfl) (big_in mw_445 rfl) (big_in mw_446 rfl) rfl rfl (by decide +kernel) ⟨by rw [hR]; exact Nat.le_of_ble_eq_true rfl, by rw [hR]; exact Nat.le_of_ble_eq_true rfl⟩ rfl (Nat.le_of_ble_eq_true rfl) d_Wh_differenceOf_27 ⟨by rw [hR]; exact Nat.le_of_ble_eq_true rfl, by rw [hR]; exact Nat.le_of_ble_eq_true rfl⟩ rfl (fun v u H locs hp3 hP hD hS _ => ?_)
        obtain ⟨zy1, rfl⟩ : ∃ z, z = u := ⟨_, rfl⟩
        obtain ⟨rfl, gzy1⟩ := hp3
        have hP : va_P D cls0 [(h2, .inr (0, [.ref a2, .int (iZ (k2 : Int))])), (a2, .inl (cI, n2, .inl f2)), (h, .inr (0, [.ref a, .int (iZ (k : Int))])), (a, .inl (cI, n, .inl g))] H := hP
        have hD : va_D A [(h2, .inr (0, [.ref a2, .int (iZ (k2 : Int))])), (a2, .inl (cI, n2, .inl f2)), (h, .inr (0, [.ref a, .int (iZ (k : Int))])), (a, .inl (cI, n, .inl g))] := hD
        show W p l e R s m args below meth c H locs _ _ Q (F0 m 30 ls [.long (lZ zy1), .long (lZ br)])
        obtain ⟨y1, hy1, by1, rfl⟩ : ∃ x : Nat, x = at0 f k i ∧ x < 4294967296 ∧ zy1 = (x : Int) := ⟨_, rfl, at0_lt _ _ _, by rw [gzy1, atZ_n]; exact congrArg _ (at0_c (ig i (Nat.le_refl i)))⟩
        refine lv_aload_n hx hb d_Wh_differenceOf_30 rfl (lv_at hl 2 rfl) ?_
        refine lv_iload hx hb d_Wh_differenceOf_31 (lv_at hl 5 rfl) ?_
        refine cv (n := 1) (wr := [(h, .inr (0, [.ref a, .int (iZ (k : Int))])), (a, .inl (cI, n, .inl g))]) (w1 := (fun (u : Int) => [(h2, .inr (0, [.ref a2, .int (iZ (k2 : Int))])), (a2, .inl (cI, n2, .inl f2))])) (As := [.int (iZ (i : Int))]) (rest := [.long (lZ (y1 : Int)), .long (lZ br)]) K hP hD hK hS hA hl.1 (c_Wh_at l D h2 a2 k2 n2 f2 cI (i : Int) H.size (by omega) (by omega) (by omega)) [0, 1] [2, 3] [0] rfl rfl rfl (by decide) (by decide) (by decide) 0 rfl rfl (big_in mw_447 rfl) (big_in mw_6 rfl) (big_in mw_444 rfl) (big_in mw_445 rfl) (big_in mw_446 rfl) rfl rfl (by decide +kernel) ⟨by rw [hR]; exact Nat.le_of_ble_eq_true rfl, by rw [hR]; exact Nat.le_of_ble_eq_true rfl⟩ rfl (Nat.le_of_ble_eq_true rfl) d_Wh_differenceOf_33 ⟨by rw [hR]; exact Nat.le_of_ble_eq_true rfl, by rw [hR]; exact Nat.le_of_ble_eq_true rfl⟩ rfl (fun v u H locs hp4 hP hD hS _ => ?_)
        obtain ⟨zy2, rfl⟩ : ∃ z, z = u := ⟨_, rfl⟩
        obtain ⟨rfl, gzy2⟩ := hp4
        have hP : va_P D cls0 [(h, .inr (0, [.ref a, .int (iZ (k : Int))])), (a, .inl (cI, n, .inl g)), (h2, .inr (0, [.ref a2, .int (iZ (k2 : Int))])), (a2, .inl (cI, n2, .inl f2))] H := hP
        have hD : va_D A [(h, .inr (0, [.ref a, .int (iZ (k : Int))])), (a, .inl (cI, n, .inl g)), (h2, .inr (0, [.ref a2, .int (iZ (k2 : Int))])), (a2, .inl (cI, n2, .inl f2))] := hD
        show W p l e R s m args below meth c H locs _ _ Q (F0 m 36 ls [.long (lZ zy2), .long (lZ (y1 : Int)), .long (lZ br)])
        obtain ⟨y2, hy2, by2, rfl⟩ : ∃ x : Nat, x = at0 f2 k2 i ∧ x < 4294967296 ∧ zy2 = (x : Int) := ⟨_, rfl, at0_lt _ _ _, by rw [gzy2, atZ_n]⟩
        refine zz_lsub hx hb d_Wh_differenceOf_36 ?_
        refine zz_ladd hx hb d_Wh_differenceOf_37 ?_
        refine lv_lstore (lv' := [(4, .long (lZ (br + ((y1 : Int) - (y2 : Int))))), (0, .ref h), (1, .ref h), (2, .ref h2), (3, .int (iZ (k : Int))), (6, .int (iZ (i : Int)))]) hx hb d_Wh_differenceOf_38 hl (by decide) rfl (fun ls hl => ?_)
        refine lv_aload_n hx hb d_Wh_differenceOf_40 rfl (lv_at hl 1 rfl) ?_
        refine va_get (D := D) (ci := 0) (v := .ref a) (C := R_Wh) (T := F_Wh) (N := 2) hx hb hts i_Wh hown hK hP 0 rfl rfl 0 (by decide) (hts _ (big_in mw_90 rfl)) (fun _ h9 => h9) rfl d_Wh_differenceOf_41 ?_
        refine lv_iload hx hb d_Wh_differenceOf_44 (lv_at hl 5 rfl) ?_
        refine lv_lload hx hb d_Wh_differenceOf_46 (lv_at hl 0 rfl) ?_
        refine zz_l2i hx hb d_Wh_differenceOf_48 ?_
        refine zz_iast hx hb hK hP hD hS 1 0 rfl rfl (i) (by omega) (by omega) (by omega) d_Wh_differenceOf_49 (fun H locs hP hD hS => ?_)
        have hP : va_P D cls0 [(h, .inr (0, [.ref a, .int (iZ (k : Int))])), (a, .inl (cI, n, .inl (upd g i (iZ (br + ((y1 : Int) - (y2 : Int))))))), (h2, .inr (0, [.ref a2, .int (iZ (k2 : Int))])), (a2, .inl (cI, n2, .inl f2))] H := hP
        have hD : va_D A [(h, .inr (0, [.ref a, .int (iZ (k : Int))])), (a, .inl (cI, n, .inl (upd g i (iZ (br + ((y1 : Int) - (y2 : Int))))))), (h2, .inr (0, [.ref a2, .int (iZ (k2 : Int))])), (a2, .inl (cI, n2, .inl f2))] := hD
        refine lv_lload hx hb d_Wh_differenceOf_50 (lv_at hl 0 rfl) ?_
        refine lv_bipush (v := iZ (32)) hx hb d_Wh_differenceOf_52 (by decide +kernel) ?_
        refine zz_lshr32 hx hb d_Wh_differenceOf_54 (by omega) ?_
        refine lv_lstore (lv' := [(4, .long (lZ ((br + ((y1 : Int) - (y2 : Int))) / 4294967296))), (0, .ref h), (1, .ref h), (2, .ref h2), (3, .int (iZ (k : Int))), (6, .int (iZ (i : Int)))]) hx hb d_Wh_differenceOf_55 hl (by decide) rfl (fun ls hl => ?_)
        refine lv_iinc (v := iZ ((i : Int) + 1)) (lv' := [(6, .int (iZ ((i : Int) + 1))), (4, .long (lZ ((br + ((y1 : Int) - (y2 : Int))) / 4294967296))), (0, .ref h), (1, .ref h), (2, .ref h2), (3, .int (iZ (k : Int)))]) hx hb d_Wh_differenceOf_57 hl (k := 5) rfl (iZ_add _ _) (by decide) rfl (fun ls hl => ?_)
        refine lv_goto (tgt := 16) hx hb d_Wh_differenceOf_60 (by decide) ?_
        rw [show ((i : Int) + 1 : Int) = ((i + 1 : Nat) : Int) by omega] at hl
        exact ih (i + 1) ((br + ((y1 : Int) - (y2 : Int))) / 4294967296) (upd g i (iZ (br + ((y1 : Int) - (y2 : Int))))) _ _ _ (by omega) (by omega) (by omega) (fun j hj => by rw [pk_un (by omega)]; exact ig j (by omega)) (df_step iv hy1 hy2 ic) (hP.sub (ws' := [(h, .inr (0, [.ref a, .int (iZ (k : Int))])), (a, .inl (cI, n, .inl (upd g i (iZ (br + ((y1 : Int) - (y2 : Int))))))), (h2, .inr (0, [.ref a2, .int (iZ (k2 : Int))])), (a2, .inl (cI, n2, .inl f2))]) [0, 1, 2, 3] rfl) (hD.sub (ws' := [(h, .inr (0, [.ref a, .int (iZ (k : Int))])), (a, .inl (cI, n, .inl (upd g i (iZ (br + ((y1 : Int) - (y2 : Int))))))), (h2, .inr (0, [.ref a2, .int (iZ (k2 : Int))])), (a2, .inl (cI, n2, .inl f2))]) [0, 1, 2, 3] (by decide) rfl) hS (lv_sub hl [2, 3, 4, 5, 1, 0] rfl)
  exact L16 _ 0 0 f _ _ _ (Nat.lt_succ_self _) (Nat.zero_le _) (by omega) (fun _ _ => rfl) (by rw [vV_0, vZ_0, vZ_0, pB_0]; omega) (hP.sub (ws' := [(h, .inr (0, [.ref a, .int (iZ (k : Int))])), (a, .inl (cI, n, .inl f)), (h2, .inr (0, [.ref a2, .int (iZ (k2 : Int))])), (a2, .inl (cI, n2, .inl f2))]) [2, 3, 0, 1] rfl) (hD.sub (ws' := [(h, .inr (0, [.ref a, .int (iZ (k : Int))])), (a, .inl (cI, n, .inl f)), (h2, .inr (0, [.ref a2, .int (iZ (k2 : Int))])), (a2, .inl (cI, n2, .inl f2))]) [2, 3, 0, 1] (by decide) rfl) hS (lv_sub hl [3, 4, 5, 2, 1, 0] rfl)
set_option maxHeartbeats 4000000 in
set_option maxRecDepth 100000 in
/-- differenceOf: the other less this -/
theorem c_Wh_diffS (l : Launch) (D : va_G) (h : Nat) (a : Nat) (k : Nat) (n : Nat) (f : Nat → Int32) (h2 : Nat) (a2 : Nat) (k2 : Nat) (n2 : Nat) (f2 : Nat → Int32) (cI : ClassId) (v : Nat) (v2 : Nat) (sz : Nat) (r1 : Rp f k v) (r2 : Rp f2 k2 v2) (hk : k ≤ n) (hk2 : k2 ≤ n2) (hn : n < 1000000) (hn2 : n2 < 1000000) (hle : v ≤ v2) (hm : k2 ≤ n) : Met l y_Wh_differenceOf (wsB y_Wh_differenceOf b_Wh_differenceOf 7 none) ({ frames := 1, cells := 0, slots := 0, locals := 21 }) (va_Pc [.ref h, .ref h2, .ref h] (wPre D [(cI, .int)] [(h, .inr (0, [.ref a, .int (iZ (k : Int))])), (a, .inl (cI, n, .inl f)), (h2, .inr (0, [.ref a2, .int (iZ (k2 : Int))])), (a2, .inl (cI, n2, .inl f2))] sz)) (va_QV (fun (v9 : Option Value) (u9 : Nat × (Nat → Int32)) => v9 = none ∧ (Rp u9.2 u9.1 (v2 - v)) ∧ (u9.1 ≤ k2)) (fun u9 => wPost D [(cI, .int)] [(h, .inr (0, [.ref a, .int (iZ (k : Int))])), (a, .inl (cI, n, .inl f)), (h2, .inr (0, [.ref a2, .int (iZ (k2 : Int))])), (a2, .inl (cI, n2, .inl f2))] [(h, .inr (0, [.ref a, .int (iZ (u9.1 : Int))])), (a, .inl (cI, n, .inl u9.2)), (h2, .inr (0, [.ref a2, .int (iZ (k2 : Int))])), (a2, .inl (cI, n2, .inl f2))] sz) (va_A [(h, .inr (0, [.ref a, .int (iZ (k : Int))])), (a, .inl (cI, n, .inl f)), (h2, .inr (0, [.ref a2, .int (iZ (k2 : Int))])), (a2, .inl (cI, n2, .inl f2))] sz)) 0 0 (va_A [(h, .inr (0, [.ref a, .int (iZ (k : Int))])), (a, .inl (cI, n, .inl f)), (h2, .inr (0, [.ref a2, .int (iZ (k2 : Int))])), (a2, .inl (cI, n2, .inl f2))] sz) := by
  refine met_enter (by decide +kernel) (Nat.le_of_ble_eq_true rfl) ?_
  intro p e s m args below meth c ls A R Q H locs K hin hAe hA hR hQ hP hK hD hS hl
  obtain ⟨hx, hb, hml, hrt, hlk, hts, hown, hno⟩ := id K
  have hl : lv_has ls 7 [(0, .ref h), (1, .ref h2), (2, .ref h)] := hl
  refine lv_aload_n hx hb d_Wh_differenceOf_0 rfl (lv_at hl 1 rfl) ?_
  refine va_get (D := D) (ci := 0) (v := .int (iZ (k2 : Int))) (C := R_Wh) (T := F_Wh) (N := 2) hx hb hts i_Wh hown hK hP 2 rfl rfl 1 (by decide) (hts _ (big_in mw_94 rfl)) (fun _ h9 => h9) rfl d_Wh_differenceOf_1 ?_
  refine lv_istore_n (lv' := [(3, .int (iZ (k2 : Int))), (0, .ref h), (1, .ref h2), (2, .ref h)]) hx hb d_Wh_differenceOf_4 rfl hl (by decide) rfl (fun ls hl => ?_)
  refine lv_aload_n hx hb d_Wh_differenceOf_5 rfl (lv_at hl 1 rfl) ?_
  refine lv_iload_n hx hb d_Wh_differenceOf_6 rfl (lv_at hl 0 rfl) ?_
  refine cv (n := 1) (wr := [(h2, .inr (0, [.ref a2, .int (iZ (k2 : Int))])), (a2, .inl (cI, n2, .inl f2))]) (w1 := (fun (u : Unit) => [(h, .inr (0, [.ref a, .int (iZ (k : Int))])), (a, .inl (cI, n, .inl f))])) (As := [.int (iZ (k2 : Int))]) (rest := []) K hP hD hK hS hA hl.1 (c_Wh_claim l D h a (iZ (k : Int)) n f cI (k2 : Int) H.size (by omega) (by omega)) [0, 1] [2, 3] [0] rfl rfl rfl (by decide) (by decide) (by decide) 0 rfl rfl (big_in mw_406 rfl) (big_in mw_6 rfl) (big_in mw_403 rfl) (big_in mw_405 rfl) (big_in sp_2 rfl) rfl rfl (by decide +kernel) ⟨by rw [hR]; exact Nat.le_of_ble_eq_true rfl, by rw [hR]; exact Nat.le_of_ble_eq_true rfl⟩ rfl (Nat.le_of_ble_eq_true rfl) d_Wh_differenceOf_7 ⟨by rw [hR]; exact Nat.le_of_ble_eq_true rfl, by rw [hR]; exact Nat.le_of_ble_eq_true rfl⟩ rfl (fun v u H locs hp1 hP hD hS _ => ?_)
  obtain rfl := hp1
  have hP : va_P D cls0 [(h2, .inr (0, [.ref a2, .int (iZ (k2 : Int))])), (a2, .inl (cI, n2, .inl f2)), (h, .inr (0, [.ref a, .int (iZ (k : Int))])), (a, .inl (cI, n, .inl f))] H := hP
  have hD : va_D A [(h2, .inr (0, [.ref a2, .int (iZ (k2 : Int))])), (a2, .inl (cI, n2, .inl f2)), (h, .inr (0, [.ref a, .int (iZ (k : Int))])), (a, .inl (cI, n, .inl f))] := hD
  show W p l e R s m args below meth c H locs _ _ Q (F0 m 10 ls [])
  refine lv_lconst (v := lZ (0)) hx hb d_Wh_differenceOf_10 (by decide +kernel) ?_
  refine lv_lstore (lv' := [(4, .long (lZ 0)), (3, .int (iZ (k2 : Int))), (0, .ref h), (1, .ref h2), (2, .ref h)]) hx hb d_Wh_differenceOf_11 hl (by decide) rfl (fun ls hl => ?_)
  refine lv_iconst (v := iZ (0)) hx hb d_Wh_differenceOf_13 (by decide +kernel) ?_
  refine lv_istore (lv' := [(6, .int (iZ 0)), (4, .long (lZ 0)), (3, .int (iZ (k2 : Int))), (0, .ref h), (1, .ref h2), (2, .ref h)]) hx hb d_Wh_differenceOf_14 hl (by decide) rfl (fun ls hl => ?_)
  have L16 : ∀ (N : Nat) (i : Nat) (br : Int) (g : Nat → Int32) (H : Heap) (locs : List Loc) (ls : Array Slot), k2 - i < N → (i ≤ k2) → (-1 ≤ br ∧ br ≤ 0) → (∀ j, i ≤ j → g j = f j) → ((vV g i : Int) + br * pB i = vZ f2 k2 i - vZ f k i) → va_P D cls0 [(h, .inr (0, [.ref a, .int (iZ (k : Int))])), (a, .inl (cI, n, .inl g)), (h2, .inr (0, [.ref a2, .int (iZ (k2 : Int))])), (a2, .inl (cI, n2, .inl f2))] H → va_D A [(h, .inr (0, [.ref a, .int (iZ (k : Int))])), (a, .inl (cI, n, .inl g)), (h2, .inr (0, [.ref a2, .int (iZ (k2 : Int))])), (a2, .inl (cI, n2, .inl f2))] → va_S A s.heap H locs → lv_has ls 7 [(0, .ref h), (1, .ref h2), (2, .ref h), (3, .int (iZ (k2 : Int))), (4, .long (lZ br)), (6, .int (iZ (i : Int)))] → W p l e R s m args below meth c H locs 0 0 Q (F0 m 16 ls []) := by
    intro N
    induction N with
    | zero => intro i br g H locs ls hN; exact absurd hN (Nat.not_lt_zero _)
    | succ N ih =>
      intro i br g H locs ls hN iM ic ig iv hP hD hS hl
      refine lv_iload hx hb d_Wh_differenceOf_16 (lv_at hl 5 rfl) ?_
      refine lv_iload_n hx hb d_Wh_differenceOf_18 rfl (lv_at hl 3 rfl) ?_
      refine zz_icmp_ge (tgt := 63) hx hb d_Wh_differenceOf_19 (by decide) (by omega) (by omega) (fun c19 => ?_) (fun c19 => ?_)
      · refine lv_aload_n hx hb d_Wh_differenceOf_63 rfl (lv_at hl 0 rfl) ?_
        refine lv_iload_n hx hb d_Wh_differenceOf_64 rfl (lv_at hl 3 rfl) ?_
        refine va_put (D := D) (ci := 0) (v := .int (iZ (k2 : Int))) (ty := .int) (C := R_Wh) (T := F_Wh) (N := 2) hx hb hts i_Wh t_Wh t_Wh_ok n_Wh hown hK hP hD hS 0 rfl rfl 1 (by decide) (hts _ (big_in mw_94 rfl)) (fun _ h9 => h9) rfl (by decide +kernel) rfl rfl (Nat.le_of_ble_eq_true rfl) d_Wh_differenceOf_65 (fun H locs hP hD hS => ?_)
        have hP : va_P D cls0 [(h, .inr (0, [.ref a, .int (iZ (k2 : Int))])), (a, .inl (cI, n, .inl g)), (h2, .inr (0, [.ref a2, .int (iZ (k2 : Int))])), (a2, .inl (cI, n2, .inl f2))] H := hP
        have hD : va_D A [(h, .inr (0, [.ref a, .int (iZ (k2 : Int))])), (a, .inl (cI, n, .inl g)), (h2, .inr (0, [.ref a2, .int (iZ (k2 : Int))])), (a2, .inl (cI, n2, .inl f2))] := hD
        refine lv_aload_n hx hb d_Wh_differenceOf_68 rfl (lv_at hl 0 rfl) ?_
        refine cv (n := 0) (wr := [(h2, .inr (0, [.ref a2, .int (iZ (k2 : Int))])), (a2, .inl (cI, n2, .inl f2))]) (w1 := (fun (u : Nat) => [(h, .inr (0, [.ref a, .int (iZ (u : Int))])), (a, .inl (cI, n, .inl g))])) (As := []) (rest := []) K hP hD hK hS hA hl.1 (c_Wh_trim l D h a k2 n g cI H.size (by omega) (by omega)) [0, 1] [2, 3] [0] rfl rfl rfl (by decide) (by decide) (by decide) 0 rfl rfl (big_in mw_385 rfl) (big_in mw_6 rfl) (big_in mw_382 rfl) (big_in mw_384 rfl) (big_in sp_1 rfl) rfl rfl (by decide +kernel) ⟨by rw [hR]; exact Nat.le_of_ble_eq_true rfl, by rw [hR]; exact Nat.le_of_ble_eq_true rfl⟩ rfl (Nat.le_of_ble_eq_true rfl) d_Wh_differenceOf_69 ⟨by rw [hR]; exact Nat.le_of_ble_eq_true rfl, by rw [hR]; exact Nat.le_of_ble_eq_true rfl⟩ rfl (fun v u H locs hp2 hP hD hS _ => ?_)
        obtain ⟨u, rfl⟩ : ∃ z, z = u := ⟨_, rfl⟩
        obtain ⟨rfl, g1, g2, g3⟩ := hp2
        have hP : va_P D cls0 [(h2, .inr (0, [.ref a2, .int (iZ (k2 : Int))])), (a2, .inl (cI, n2, .inl f2)), (h, .inr (0, [.ref a, .int (iZ (u : Int))])), (a, .inl (cI, n, .inl g))] H := hP
        have hD : va_D A [(h2, .inr (0, [.ref a2, .int (iZ (k2 : Int))])), (a2, .inl (cI, n2, .inl f2)), (h, .inr (0, [.ref a, .int (iZ (u : Int))])), (a, .inl (cI, n, .inl g))] := hD
        show W p l e R s m args below meth c H locs _ _ Q (F0 m 72 ls [])
        have hP9 : va_P D cls0 [(h, .inr (0, [.ref a, .int (iZ (u : Int))])), (a, .inl (cI, n, .inl g)), (h2, .inr (0, [.ref a2, .int (iZ (k2 : Int))])), (a2, .inl (cI, n2, .inl f2))] H := hP.sub [2, 3, 0, 1] rfl
        have hD9 : va_D A [(h, .inr (0, [.ref a, .int (iZ (u : Int))])), (a, .inl (cI, n, .inl g)), (h2, .inr (0, [.ref a2, .int (iZ (k2 : Int))])), (a2, .inl (cI, n2, .inl f2))] := hD.sub [2, 3, 0, 1] (by decide) rfl
        rw [hQ, ← hAe]
        refine r_v K (u, g) hS d_Wh_differenceOf_72 ?_ (fun t ht hv => ?_)
        · try dsimp only
          have hsz : k ≤ k2 := by rw [r1.size, r2.size]; exact lm_mono hle
          have eM : i = k2 := by omega
          subst eM
          exact ⟨rfl, Rp.trimmed (df_end iv r2 r1 hle hsz ic) g1 g2 g3, by omega⟩
        · exact ⟨by rw [ht]; exact hP9, va_K.moved hv hK, by rw [← hAe]; exact hD9⟩
      · refine lv_lload hx hb d_Wh_differenceOf_22 (lv_at hl 4 rfl) ?_
        refine lv_aload_n hx hb d_Wh_differenceOf_24 rfl (lv_at hl 1 rfl) ?_
        refine lv_iload hx hb d_Wh_differenceOf_25 (lv_at hl 5 rfl) ?_
        refine cv (n := 1) (wr := [(h, .inr (0, [.ref a, .int (iZ (k : Int))])), (a, .inl (cI, n, .inl g))]) (w1 := (fun (u : Int) => [(h2, .inr (0, [.ref a2, .int (iZ (k2 : Int))])), (a2, .inl (cI, n2, .inl f2))])) (As := [.int (iZ (i : Int))]) (rest := [.long (lZ br)]) K hP hD hK hS hA hl.1 (c_Wh_at l D h2 a2 k2 n2 f2 cI (i : Int) H.size (by omega) (by omega) (by omega)) [2, 3] [0, 1] [0] rfl rfl rfl (by decide) (by decide) (by decide) 0 rfl rfl (big_in mw_447 rfl) (big_in mw_6 rfl) (big_in mw_444 rfl) (big_in mw_445 rfl) (big_in mw_446 rfl) rfl rfl (by decide +kernel) ⟨by rw [hR]; exact Nat.le_of_ble_eq_true rfl, by rw [hR]; exact Nat.le_of_ble_eq_true rfl⟩ rfl (Nat.le_of_ble_eq_true rfl) d_Wh_differenceOf_27 ⟨by rw [hR]; exact Nat.le_of_ble_eq_true rfl, by rw [hR]; exact Nat.le_of_ble_eq_true rfl⟩ rfl (fun v u H locs hp3 hP hD hS _ => ?_)
        obtain ⟨zy1, rfl⟩ : ∃ z, z = u := ⟨_, rfl⟩
        obtain ⟨rfl, gzy1⟩ := hp3
        have hP : va_P D cls0 [(h, .inr (0, [.ref a, .int (iZ (k : Int))])), (a, .inl (cI, n, .inl g)), (h2, .inr (0, [.ref a2, .int (iZ (k2 : Int))])), (a2, .inl (cI, n2, .inl f2))] H := hP
        have hD : va_D A [(h, .inr (0, [.ref a, .int (iZ (k : Int))])), (a, .inl (cI, n, .inl g)), (h2, .inr (0, [.ref a2, .int (iZ (k2 : Int))])), (a2, .inl (cI, n2, .inl f2))] := hD
        show W p l e R s m args below meth c H locs _ _ Q (F0 m 30 ls [.long (lZ zy1), .long (lZ br)])
        obtain ⟨y1, hy1, by1, rfl⟩ : ∃ x : Nat, x = at0 f2 k2 i ∧ x < 4294967296 ∧ zy1 = (x : Int) := ⟨_, rfl, at0_lt _ _ _, by rw [gzy1, atZ_n]⟩
        refine lv_aload_n hx hb d_Wh_differenceOf_30 rfl (lv_at hl 2 rfl) ?_
        refine lv_iload hx hb d_Wh_differenceOf_31 (lv_at hl 5 rfl) ?_
        refine cv (n := 1) (wr := [(h2, .inr (0, [.ref a2, .int (iZ (k2 : Int))])), (a2, .inl (cI, n2, .inl f2))]) (w1 := (fun (u : Int) => [(h, .inr (0, [.ref a, .int (iZ (k : Int))])), (a, .inl (cI, n, .inl g))])) (As := [.int (iZ (i : Int))]) (rest := [.long (lZ (y1 : Int)), .long (lZ br)]) K hP hD hK hS hA hl.1 (c_Wh_at l D h a k n g cI (i : Int) H.size (by omega) (by omega) (by omega)) [0, 1] [2, 3] [0] rfl rfl rfl (by decide) (by decide) (by decide) 0 rfl rfl (big_in mw_447 rfl) (big_in mw_6 rfl) (big_in mw_444 rfl) (big_in mw_445 rfl) (big_in mw_446 rfl) rfl rfl (by decide +kernel) ⟨by rw [hR]; exact Nat.le_of_ble_eq_true rfl, by rw [hR]; exact Nat.le_of_ble_eq_true rfl⟩ rfl (Nat.le_of_ble_eq_true rfl) d_Wh_differenceOf_33 ⟨by rw [hR]; exact Nat.le_of_ble_eq_true rfl, by rw [hR]; exact Nat.le_of_ble_eq_true rfl⟩ rfl (fun v u H locs hp4 hP hD hS _ => ?_)
        obtain ⟨zy2, rfl⟩ : ∃ z, z = u := ⟨_, rfl⟩
        obtain ⟨rfl, gzy2⟩ := hp4
        have hP : va_P D cls0 [(h2, .inr (0, [.ref a2, .int (iZ (k2 : Int))])), (a2, .inl (cI, n2, .inl f2)), (h, .inr (0, [.ref a, .int (iZ (k : Int))])), (a, .inl (cI, n, .inl g))] H := hP
        have hD : va_D A [(h2, .inr (0, [.ref a2, .int (iZ (k2 : Int))])), (a2, .inl (cI, n2, .inl f2)), (h, .inr (0, [.ref a, .int (iZ (k : Int))])), (a, .inl (cI, n, .inl g))] := hD
        show W p l e R s m args below meth c H locs _ _ Q (F0 m 36 ls [.long (lZ zy2), .long (lZ (y1 : Int)), .long (lZ br)])
        obtain ⟨y2, hy2, by2, rfl⟩ : ∃ x : Nat, x = at0 f k i ∧ x < 4294967296 ∧ zy2 = (x : Int) := ⟨_, rfl, at0_lt _ _ _, by rw [gzy2, atZ_n]; exact congrArg _ (at0_c (ig i (Nat.le_refl i)))⟩
        refine zz_lsub hx hb d_Wh_differenceOf_36 ?_
        refine zz_ladd hx hb d_Wh_differenceOf_37 ?_
        refine lv_lstore (lv' := [(4, .long (lZ (br + ((y1 : Int) - (y2 : Int))))), (0, .ref h), (1, .ref h2), (2, .ref h), (3, .int (iZ (k2 : Int))), (6, .int (iZ (i : Int)))]) hx hb d_Wh_differenceOf_38 hl (by decide) rfl (fun ls hl => ?_)
        refine lv_aload_n hx hb d_Wh_differenceOf_40 rfl (lv_at hl 1 rfl) ?_
        refine va_get (D := D) (ci := 0) (v := .ref a) (C := R_Wh) (T := F_Wh) (N := 2) hx hb hts i_Wh hown hK hP 2 rfl rfl 0 (by decide) (hts _ (big_in mw_90 rfl)) (fun _ h9 => h9) rfl d_Wh_differenceOf_41 ?_
        refine lv_iload hx hb d_Wh_differenceOf_44 (lv_at hl 5 rfl) ?_
        refine lv_lload hx hb d_Wh_differenceOf_46 (lv_at hl 0 rfl) ?_
        refine zz_l2i hx hb d_Wh_differenceOf_48 ?_
        refine zz_iast hx hb hK hP hD hS 3 0 rfl rfl (i) (by omega) (by omega) (by omega) d_Wh_differenceOf_49 (fun H locs hP hD hS => ?_)
        have hP : va_P D cls0 [(h2, .inr (0, [.ref a2, .int (iZ (k2 : Int))])), (a2, .inl (cI, n2, .inl f2)), (h, .inr (0, [.ref a, .int (iZ (k : Int))])), (a, .inl (cI, n, .inl (upd g i (iZ (br + ((y1 : Int) - (y2 : Int)))))))] H := hP
        have hD : va_D A [(h2, .inr (0, [.ref a2, .int (iZ (k2 : Int))])), (a2, .inl (cI, n2, .inl f2)), (h, .inr (0, [.ref a, .int (iZ (k : Int))])), (a, .inl (cI, n, .inl (upd g i (iZ (br + ((y1 : Int) - (y2 : Int)))))))] := hD
        refine lv_lload hx hb d_Wh_differenceOf_50 (lv_at hl 0 rfl) ?_
        refine lv_bipush (v := iZ (32)) hx hb d_Wh_differenceOf_52 (by decide +kernel) ?_
        refine zz_lshr32 hx hb d_Wh_differenceOf_54 (by omega) ?_
        refine lv_lstore (lv' := [(4, .long (lZ ((br + ((y1 : Int) - (y2 : Int))) / 4294967296))), (0, .ref h), (1, .ref h2), (2, .ref h), (3, .int (iZ (k2 : Int))), (6, .int (iZ (i : Int)))]) hx hb d_Wh_differenceOf_55 hl (by decide) rfl (fun ls hl => ?_)
        refine lv_iinc (v := iZ ((i : Int) + 1)) (lv' := [(6, .int (iZ ((i : Int) + 1))), (4, .long (lZ ((br + ((y1 : Int) - (y2 : Int))) / 4294967296))), (0, .ref h), (1, .ref h2), (2, .ref h), (3, .int (iZ (k2 : Int)))]) hx hb d_Wh_differenceOf_57 hl (k := 5) rfl (iZ_add _ _) (by decide) rfl (fun ls hl => ?_)
        refine lv_goto (tgt := 16) hx hb d_Wh_differenceOf_60 (by decide) ?_
        rw [show ((i : Int) + 1 : Int) = ((i + 1 : Nat) : Int) by omega] at hl
        exact ih (i + 1) ((br + ((y1 : Int) - (y2 : Int))) / 4294967296) (upd g i (iZ (br + ((y1 : Int) - (y2 : Int))))) _ _ _ (by omega) (by omega) (by omega) (fun j hj => by rw [pk_un (by omega)]; exact ig j (by omega)) (df_step iv hy1 hy2 ic) (hP.sub (ws' := [(h, .inr (0, [.ref a, .int (iZ (k : Int))])), (a, .inl (cI, n, .inl (upd g i (iZ (br + ((y1 : Int) - (y2 : Int))))))), (h2, .inr (0, [.ref a2, .int (iZ (k2 : Int))])), (a2, .inl (cI, n2, .inl f2))]) [2, 3, 0, 1] rfl) (hD.sub (ws' := [(h, .inr (0, [.ref a, .int (iZ (k : Int))])), (a, .inl (cI, n, .inl (upd g i (iZ (br + ((y1 : Int) - (y2 : Int))))))), (h2, .inr (0, [.ref a2, .int (iZ (k2 : Int))])), (a2, .inl (cI, n2, .inl f2))]) [2, 3, 0, 1] (by decide) rfl) hS (lv_sub hl [2, 3, 4, 5, 1, 0] rfl)
  exact L16 _ 0 0 f _ _ _ (Nat.lt_succ_self _) (Nat.zero_le _) (by omega) (fun _ _ => rfl) (by rw [vV_0, vZ_0, vZ_0, pB_0]; omega) (hP.sub (ws' := [(h, .inr (0, [.ref a, .int (iZ (k : Int))])), (a, .inl (cI, n, .inl f)), (h2, .inr (0, [.ref a2, .int (iZ (k2 : Int))])), (a2, .inl (cI, n2, .inl f2))]) [2, 3, 0, 1] rfl) (hD.sub (ws' := [(h, .inr (0, [.ref a, .int (iZ (k : Int))])), (a, .inl (cI, n, .inl f)), (h2, .inr (0, [.ref a2, .int (iZ (k2 : Int))])), (a2, .inl (cI, n2, .inl f2))]) [2, 3, 0, 1] (by decide) rfl) hS (lv_sub hl [3, 4, 5, 2, 1, 0] rfl)
