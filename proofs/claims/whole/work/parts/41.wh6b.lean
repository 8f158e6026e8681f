set_option maxHeartbeats 4000000 in
set_option maxRecDepth 100000 in
/-- shiftUp(by), by not below 0 -/
theorem c_Wh_shiftUp (l : Launch) (D : va_G) (h : Nat) (a : Nat) (k : Nat) (n : Nat) (f : Nat → Int32) (cI : ClassId) (v : Nat) (b : Nat) (sz : Nat) (rv : Rp f k v) (hbb : b < 100000) (hkn : k ≤ n) (hk : 0 < b → k + b / 32 + 1 ≤ n) (hn : n < 1000000) : Met l y_Wh_shiftUp (wsB y_Wh_shiftUp b_Wh_shiftUp 5 none) ({ frames := 2, cells := 0, slots := 0, locals := 46 }) (va_Pc [.ref h, .int (iZ (b : Int))] (wPre D [(cI, .int)] [(h, .inr (0, [.ref a, .int (iZ (k : Int))])), (a, .inl (cI, n, .inl f))] sz)) (va_QV (fun (v9 : Option Value) (u9 : Nat × (Nat → Int32)) => v9 = none ∧ (Rp u9.2 u9.1 (v * 2 ^ b)) ∧ (u9.1 ≤ n)) (fun u9 => wPost D [(cI, .int)] [(h, .inr (0, [.ref a, .int (iZ (k : Int))])), (a, .inl (cI, n, .inl f))] [(h, .inr (0, [.ref a, .int (iZ (u9.1 : Int))])), (a, .inl (cI, n, .inl u9.2))] sz) (va_A [(h, .inr (0, [.ref a, .int (iZ (k : Int))])), (a, .inl (cI, n, .inl f))] sz)) 0 0 (va_A [(h, .inr (0, [.ref a, .int (iZ (k : Int))])), (a, .inl (cI, n, .inl f))] sz) := by
  refine met_enter (by decide +kernel) (Nat.le_of_ble_eq_true rfl) ?_
  intro p e s m args below meth c ls A R Q H locs K hin hAe hA hR hQ hP hK hD hS hl
  obtain ⟨hx, hb, hml, hrt, hlk, hts, hown, hno⟩ := id K
  have hl : lv_has ls 5 [(0, .ref h), (1, .int (iZ (b : Int)))] := hl
  refine lv_iload_n hx hb d_Wh_shiftUp_0 rfl (lv_at hl 1 rfl) ?_
  refine zz_if_le (tgt := 11) hx hb d_Wh_shiftUp_1 (by decide) (by omega) (fun c1 => ?_) (fun c1 => ?_)
  · have hP9 : va_P D cls0 [(h, .inr (0, [.ref a, .int (iZ (k : Int))])), (a, .inl (cI, n, .inl f))] H := hP.sub [0, 1] rfl
    have hD9 : va_D A [(h, .inr (0, [.ref a, .int (iZ (k : Int))])), (a, .inl (cI, n, .inl f))] := hD.sub [0, 1] (by decide) rfl
    rw [hQ, ← hAe]
    refine r_v K (k, f) hS d_Wh_shiftUp_11 ?_ (fun t ht hv => ?_)
    · try dsimp only
      refine ⟨rfl, ?_, hkn⟩
      rcases (show b = 0 ∨ k = 0 by omega) with q | q
      · rw [q, Nat.pow_zero, Nat.mul_one]; exact rv
      · have h0 : v = 0 := by have := rv.pos; omega
        rw [h0, Nat.zero_mul, ← h0]; exact rv
    · exact ⟨by rw [ht]; exact hP9, va_K.moved hv hK, by rw [← hAe]; exact hD9⟩
  · refine lv_aload_n hx hb d_Wh_shiftUp_4 rfl (lv_at hl 0 rfl) ?_
    refine va_get (D := D) (ci := 0) (v := .int (iZ (k : Int))) (C := R_Wh) (T := F_Wh) (N := 2) hx hb hts i_Wh hown hK hP 0 rfl rfl 1 (by decide) (hts _ (big_in mw_94 rfl)) (fun _ h9 => h9) rfl d_Wh_shiftUp_5 ?_
    refine zz_if_ne (tgt := 12) hx hb d_Wh_shiftUp_8 (by decide) (by omega) (fun c8 => ?_) (fun c8 => ?_)
    · refine lv_iload_n hx hb d_Wh_shiftUp_12 rfl (lv_at hl 1 rfl) ?_
      refine lv_iconst (v := iZ (5)) hx hb d_Wh_shiftUp_13 (by decide +kernel) ?_
      refine zz_iushr (n := 5) hx hb d_Wh_shiftUp_14 (by omega) (by omega) (by omega) ?_
      obtain ⟨w, hw, bw⟩ : ∃ x : Nat, x = b / 32 ∧ x < 100000 := ⟨_, rfl, by omega⟩
      rw [show ((b : Int) / 2 ^ 5 : Int) = (w : Int) by rw [hw]; omega] 
      refine lv_istore_n (lv' := [(2, .int (iZ (w : Int))), (0, .ref h), (1, .int (iZ (b : Int)))]) hx hb d_Wh_shiftUp_15 rfl hl (by decide) rfl (fun ls hl => ?_)
      refine lv_iload_n hx hb d_Wh_shiftUp_16 rfl (lv_at hl 2 rfl) ?_
      refine lv_bipush (v := iZ (31)) hx hb d_Wh_shiftUp_17 (by decide +kernel) ?_
      refine zz_iand31 hx hb d_Wh_shiftUp_19 (by omega) ?_
      obtain ⟨pp, hpp, bpp⟩ : ∃ x : Nat, x = b % 32 ∧ x < 32 := ⟨_, rfl, by omega⟩
      rw [show ((b : Int) % 32 : Int) = (pp : Int) by rw [hpp]; omega] 
      refine lv_istore_n (lv' := [(3, .int (iZ (pp : Int))), (2, .int (iZ (w : Int))), (0, .ref h), (1, .int (iZ (b : Int)))]) hx hb d_Wh_shiftUp_20 rfl hl (by decide) rfl (fun ls hl => ?_)
      refine lv_aload_n hx hb d_Wh_shiftUp_21 rfl (lv_at hl 2 rfl) ?_
      refine lv_aload_n hx hb d_Wh_shiftUp_22 rfl (lv_at hl 2 rfl) ?_
      refine va_get (D := D) (ci := 0) (v := .int (iZ (k : Int))) (C := R_Wh) (T := F_Wh) (N := 2) hx hb hts i_Wh hown hK hP 0 rfl rfl 1 (by decide) (hts _ (big_in mw_94 rfl)) (fun _ h9 => h9) rfl d_Wh_shiftUp_23 ?_
      refine lv_iload_n hx hb d_Wh_shiftUp_26 rfl (lv_at hl 1 rfl) ?_
      refine zz_iadd hx hb d_Wh_shiftUp_27 ?_
      refine lv_iconst (v := iZ (1)) hx hb d_Wh_shiftUp_28 (by decide +kernel) ?_
      refine zz_iadd hx hb d_Wh_shiftUp_29 ?_
      refine cv (n := 1) (wr := []) (w1 := (fun (u : Unit) => [(h, .inr (0, [.ref a, .int (iZ (k : Int))])), (a, .inl (cI, n, .inl f))])) (As := [.int (iZ ((k : Int) + (w : Int) + 1))]) (rest := []) K hP hD hK hS hA hl.1 (c_Wh_claim l D h a (iZ (k : Int)) n f cI ((k : Int) + (w : Int) + 1) H.size (by omega) (by omega)) [0, 1] [] [0] rfl rfl rfl (by decide) (by decide) (by decide) 0 rfl rfl (big_in mw_406 rfl) (big_in mw_6 rfl) (big_in mw_403 rfl) (big_in mw_405 rfl) (big_in sp_2 rfl) rfl rfl (by decide +kernel) ⟨by rw [hR]; exact Nat.le_of_ble_eq_true rfl, by rw [hR]; exact Nat.le_of_ble_eq_true rfl⟩ rfl (Nat.le_of_ble_eq_true rfl) d_Wh_shiftUp_30 ⟨by rw [hR]; exact Nat.le_of_ble_eq_true rfl, by rw [hR]; exact Nat.le_of_ble_eq_true rfl⟩ rfl (fun v u H locs hp1 hP hD hS _ => ?_)
      obtain rfl := hp1
      have hP : va_P D cls0 [(h, .inr (0, [.ref a, .int (iZ (k : Int))])), (a, .inl (cI, n, .inl f))] H := hP
      have hD : va_D A [(h, .inr (0, [.ref a, .int (iZ (k : Int))])), (a, .inl (cI, n, .inl f))] := hD
      show W p l e R s m args below meth c H locs _ _ Q (F0 m 33 ls [])
      refine lv_aload_n hx hb d_Wh_shiftUp_33 rfl (lv_at hl 2 rfl) ?_
      refine va_get (D := D) (ci := 0) (v := .int (iZ (k : Int))) (C := R_Wh) (T := F_Wh) (N := 2) hx hb hts i_Wh hown hK hP 0 rfl rfl 1 (by decide) (hts _ (big_in mw_94 rfl)) (fun _ h9 => h9) rfl d_Wh_shiftUp_34 ?_
      refine lv_istore (lv' := [(4, .int (iZ (k : Int))), (3, .int (iZ (pp : Int))), (2, .int (iZ (w : Int))), (0, .ref h), (1, .int (iZ (b : Int)))]) hx hb d_Wh_shiftUp_37 hl (by decide) rfl (fun ls hl => ?_)
      have L39 : ∀ (N : Nat) (j : Nat) (g : Nat → Int32) (H : Heap) (locs : List Loc) (ls : Array Slot), j < N → (j ≤ k + 1) → (∀ x, x < j + w → g x = f x) → (pB j * vV (sh g (j + w)) (k + 1 - j) + 2 ^ pp * vZ f k j = 2 ^ pp * v + su_A f k j (2 ^ pp) * pB j) → va_P D cls0 [(h, .inr (0, [.ref a, .int (iZ (k : Int))])), (a, .inl (cI, n, .inl g))] H → va_D A [(h, .inr (0, [.ref a, .int (iZ (k : Int))])), (a, .inl (cI, n, .inl g))] → va_S A s.heap H locs → lv_has ls 5 [(0, .ref h), (1, .int (iZ (b : Int))), (2, .int (iZ (w : Int))), (3, .int (iZ (pp : Int))), (4, .int (iZ ((j : Int) - 1)))] → W p l e R s m args below meth c H locs 0 0 Q (F0 m 39 ls []) := by
        intro N
        induction N with
        | zero => intro j g H locs ls hN; exact absurd hN (Nat.not_lt_zero _)
        | succ N ih =>
          intro j g H locs ls hN ij ig iv hP hD hS hl
          refine lv_iload hx hb d_Wh_shiftUp_39 (lv_at hl 4 rfl) ?_
          refine zz_if_lt (tgt := 83) hx hb d_Wh_shiftUp_41 (by decide) (by omega) (fun c41 => ?_) (fun c41 => ?_)
          · refine lv_aload_n hx hb d_Wh_shiftUp_83 rfl (lv_at hl 0 rfl) ?_
            refine va_get (D := D) (ci := 0) (v := .ref a) (C := R_Wh) (T := F_Wh) (N := 2) hx hb hts i_Wh hown hK hP 0 rfl rfl 0 (by decide) (hts _ (big_in mw_90 rfl)) (fun _ h9 => h9) rfl d_Wh_shiftUp_84 ?_
            refine lv_iconst (v := iZ (0)) hx hb d_Wh_shiftUp_87 (by decide +kernel) ?_
            refine lv_iload_n hx hb d_Wh_shiftUp_88 rfl (lv_at hl 2 rfl) ?_
            refine lv_iconst (v := iZ (0)) hx hb d_Wh_shiftUp_89 (by decide +kernel) ?_
            refine cs (n := 4) (wr := [(h, .inr (0, [.ref a, .int (iZ (k : Int))]))]) (w1 := (fun (u : Unit) => [(a, .inl (cI, n, .inl (fillF g 0 w (iZ 0))))])) (As := [.ref a, .int (iZ 0), .int (iZ (w : Int)), .int (iZ 0)]) (rest := []) K hP hD hK hS hA hl.1 (c_jArr_fill l D a n g cI 0 w (iZ 0) H.size (by omega) (by omega) (by omega)) [1] [0] [0] rfl rfl rfl (by decide) (by decide) (by decide) (big_in mw_460 rfl) (big_in mw_19 rfl) (big_in mw_458 rfl) (big_in mw_459 rfl) rfl rfl (by decide +kernel) ⟨by rw [hR]; exact Nat.le_of_ble_eq_true rfl, by rw [hR]; exact Nat.le_of_ble_eq_true rfl⟩ rfl (Nat.le_of_ble_eq_true rfl) d_Wh_shiftUp_90 ⟨by rw [hR]; exact Nat.le_of_ble_eq_true rfl, by rw [hR]; exact Nat.le_of_ble_eq_true rfl⟩ rfl (fun v u H locs hp2 hP hD hS _ => ?_)
            obtain rfl := hp2
            have hP : va_P D cls0 [(h, .inr (0, [.ref a, .int (iZ (k : Int))])), (a, .inl (cI, n, .inl (fillF g 0 w (iZ 0))))] H := hP
            have hD : va_D A [(h, .inr (0, [.ref a, .int (iZ (k : Int))])), (a, .inl (cI, n, .inl (fillF g 0 w (iZ 0))))] := hD
            show W p l e R s m args below meth c H locs _ _ Q (F0 m 93 ls [])
            refine lv_aload_n hx hb d_Wh_shiftUp_93 rfl (lv_at hl 0 rfl) ?_
            refine lv_dup hx hb d_Wh_shiftUp_94 rfl ?_
            refine va_get (D := D) (ci := 0) (v := .int (iZ (k : Int))) (C := R_Wh) (T := F_Wh) (N := 2) hx hb hts i_Wh hown hK hP 0 rfl rfl 1 (by decide) (hts _ (big_in mw_94 rfl)) (fun _ h9 => h9) rfl d_Wh_shiftUp_95 ?_
            refine lv_iload_n hx hb d_Wh_shiftUp_98 rfl (lv_at hl 2 rfl) ?_
            refine lv_iconst (v := iZ (1)) hx hb d_Wh_shiftUp_99 (by decide +kernel) ?_
            refine zz_iadd hx hb d_Wh_shiftUp_100 ?_
            refine zz_iadd hx hb d_Wh_shiftUp_101 ?_
            refine va_put (D := D) (ci := 0) (v := .int (iZ ((k : Int) + ((w : Int) + 1)))) (ty := .int) (C := R_Wh) (T := F_Wh) (N := 2) hx hb hts i_Wh t_Wh t_Wh_ok n_Wh hown hK hP hD hS 0 rfl rfl 1 (by decide) (hts _ (big_in mw_94 rfl)) (fun _ h9 => h9) rfl (by decide +kernel) rfl rfl (Nat.le_of_ble_eq_true rfl) d_Wh_shiftUp_102 (fun H locs hP hD hS => ?_)
            have hP : va_P D cls0 [(h, .inr (0, [.ref a, .int (iZ ((k : Int) + ((w : Int) + 1)))])), (a, .inl (cI, n, .inl (fillF g 0 w (iZ 0))))] H := hP
            have hD : va_D A [(h, .inr (0, [.ref a, .int (iZ ((k : Int) + ((w : Int) + 1)))])), (a, .inl (cI, n, .inl (fillF g 0 w (iZ 0))))] := hD
            refine lv_aload_n hx hb d_Wh_shiftUp_105 rfl (lv_at hl 0 rfl) ?_
            rw [show ((k : Int) + ((w : Int) + 1) : Int) = ((k + (w + 1) : Nat) : Int) by omega] at hP hD
            refine cv (n := 0) (wr := []) (w1 := (fun (u : Nat) => [(h, .inr (0, [.ref a, .int (iZ (u : Int))])), (a, .inl (cI, n, .inl (fillF g 0 w (iZ 0))))])) (As := []) (rest := []) K hP hD hK hS hA hl.1 (c_Wh_trim l D h a (k + (w + 1)) n (fillF g 0 w (iZ 0)) cI H.size (by omega) (by omega)) [0, 1] [] [0] rfl rfl rfl (by decide) (by decide) (by decide) 0 rfl rfl (big_in mw_385 rfl) (big_in mw_6 rfl) (big_in mw_382 rfl) (big_in mw_384 rfl) (big_in sp_1 rfl) rfl rfl (by decide +kernel) ⟨by rw [hR]; exact Nat.le_of_ble_eq_true rfl, by rw [hR]; exact Nat.le_of_ble_eq_true rfl⟩ rfl (Nat.le_of_ble_eq_true rfl) d_Wh_shiftUp_106 ⟨by rw [hR]; exact Nat.le_of_ble_eq_true rfl, by rw [hR]; exact Nat.le_of_ble_eq_true rfl⟩ rfl (fun v u H locs hp3 hP hD hS _ => ?_)
            obtain ⟨u, rfl⟩ : ∃ z, z = u := ⟨_, rfl⟩
            obtain ⟨rfl, g1, g2, g3⟩ := hp3
            have hP : va_P D cls0 [(h, .inr (0, [.ref a, .int (iZ (u : Int))])), (a, .inl (cI, n, .inl (fillF g 0 w (iZ 0))))] H := hP
            have hD : va_D A [(h, .inr (0, [.ref a, .int (iZ (u : Int))])), (a, .inl (cI, n, .inl (fillF g 0 w (iZ 0))))] := hD
            show W p l e R s m args below meth c H locs _ _ Q (F0 m 109 ls [])
            have hP9 : va_P D cls0 [(h, .inr (0, [.ref a, .int (iZ (u : Int))])), (a, .inl (cI, n, .inl (fillF g 0 w (iZ 0))))] H := hP.sub [0, 1] rfl
            have hD9 : va_D A [(h, .inr (0, [.ref a, .int (iZ (u : Int))])), (a, .inl (cI, n, .inl (fillF g 0 w (iZ 0))))] := hD.sub [0, 1] (by decide) rfl
            rw [hQ, ← hAe]
            refine r_v K (u, (fillF g 0 w (iZ 0))) hS d_Wh_shiftUp_109 ?_ (fun t ht hv => ?_)
            · try dsimp only
              have ej : j = 0 := by omega
              subst ej
              exact ⟨rfl, Rp.trimmed (su_end rv.1 (by omega) iv) g1 g2 g3, by omega⟩
            · exact ⟨by rw [ht]; exact hP9, va_K.moved hv hK, by rw [← hAe]; exact hD9⟩
          · refine lv_aload_n hx hb d_Wh_shiftUp_44 rfl (lv_at hl 0 rfl) ?_
            refine va_get (D := D) (ci := 0) (v := .ref a) (C := R_Wh) (T := F_Wh) (N := 2) hx hb hts i_Wh hown hK hP 0 rfl rfl 0 (by decide) (hts _ (big_in mw_90 rfl)) (fun _ h9 => h9) rfl d_Wh_shiftUp_45 ?_
            refine lv_iload hx hb d_Wh_shiftUp_48 (lv_at hl 4 rfl) ?_
            refine lv_iload_n hx hb d_Wh_shiftUp_50 rfl (lv_at hl 2 rfl) ?_
            refine zz_iadd hx hb d_Wh_shiftUp_51 ?_
            refine lv_aload_n hx hb d_Wh_shiftUp_52 rfl (lv_at hl 0 rfl) ?_
            refine lv_iload hx hb d_Wh_shiftUp_53 (lv_at hl 4 rfl) ?_
            refine cv (n := 1) (wr := []) (w1 := (fun (u : Int) => [(h, .inr (0, [.ref a, .int (iZ (k : Int))])), (a, .inl (cI, n, .inl g))])) (As := [.int (iZ ((j : Int) - 1))]) (rest := [.int (iZ ((j : Int) - 1 + (w : Int))), .ref a]) K hP hD hK hS hA hl.1 (c_Wh_at l D h a k n g cI ((j : Int) - 1) H.size (by omega) (by omega) (by omega)) [0, 1] [] [0] rfl rfl rfl (by decide) (by decide) (by decide) 0 rfl rfl (big_in mw_447 rfl) (big_in mw_6 rfl) (big_in mw_444 rfl) (big_in mw_445 rfl) (big_in mw_446 rfl) rfl rfl (by decide +kernel) ⟨by rw [hR]; exact Nat.le_of_ble_eq_true rfl, by rw [hR]; exact Nat.le_of_ble_eq_true rfl⟩ rfl (Nat.le_of_ble_eq_true rfl) d_Wh_shiftUp_55 ⟨by rw [hR]; exact Nat.le_of_ble_eq_true rfl, by rw [hR]; exact Nat.le_of_ble_eq_true rfl⟩ rfl (fun v u H locs hp4 hP hD hS _ => ?_)
            obtain ⟨z1, rfl⟩ : ∃ z, z = u := ⟨_, rfl⟩
            obtain ⟨rfl, gz1⟩ := hp4
            have hP : va_P D cls0 [(h, .inr (0, [.ref a, .int (iZ (k : Int))])), (a, .inl (cI, n, .inl g))] H := hP
            have hD : va_D A [(h, .inr (0, [.ref a, .int (iZ (k : Int))])), (a, .inl (cI, n, .inl g))] := hD
            show W p l e R s m args below meth c H locs _ _ Q (F0 m 58 ls [.long (lZ z1), .int (iZ ((j : Int) - 1 + (w : Int))), .ref a])
            obtain ⟨y1, hy1, b1, rfl⟩ : ∃ x : Nat, x = at0 f k (j - 1) ∧ x < 4294967296 ∧ z1 = (x : Int) := ⟨_, rfl, at0_lt _ _ _, by rw [gz1]; exact atZ_p (by omega) (fun x hx => ig x (by omega))⟩
            refine lv_bipush (v := iZ (32)) hx hb d_Wh_shiftUp_58 (by decide +kernel) ?_
            refine zz_lshl32 hx hb d_Wh_shiftUp_60 ?_
            refine lv_aload_n hx hb d_Wh_shiftUp_61 rfl (lv_at hl 0 rfl) ?_
            refine lv_iload hx hb d_Wh_shiftUp_62 (lv_at hl 4 rfl) ?_
            refine lv_iconst (v := iZ (1)) hx hb d_Wh_shiftUp_64 (by decide +kernel) ?_
            refine zz_isub hx hb d_Wh_shiftUp_65 ?_
            refine cv (n := 1) (wr := []) (w1 := (fun (u : Int) => [(h, .inr (0, [.ref a, .int (iZ (k : Int))])), (a, .inl (cI, n, .inl g))])) (As := [.int (iZ ((j : Int) - 1 - 1))]) (rest := [.long (lZ ((y1 : Int) * 4294967296)), .int (iZ ((j : Int) - 1 + (w : Int))), .ref a]) K hP hD hK hS hA hl.1 (c_Wh_at l D h a k n g cI ((j : Int) - 1 - 1) H.size (by omega) (by omega) (by omega)) [0, 1] [] [0] rfl rfl rfl (by decide) (by decide) (by decide) 0 rfl rfl (big_in mw_447 rfl) (big_in mw_6 rfl) (big_in mw_444 rfl) (big_in mw_445 rfl) (big_in mw_446 rfl) rfl rfl (by decide +kernel) ⟨by rw [hR]; exact Nat.le_of_ble_eq_true rfl, by rw [hR]; exact Nat.le_of_ble_eq_true rfl⟩ rfl (Nat.le_of_ble_eq_true rfl) d_Wh_shiftUp_66 ⟨by rw [hR]; exact Nat.le_of_ble_eq_true rfl, by rw [hR]; exact Nat.le_of_ble_eq_true rfl⟩ rfl (fun v u H locs hp5 hP hD hS _ => ?_)
            obtain ⟨z0, rfl⟩ : ∃ z, z = u := ⟨_, rfl⟩
            obtain ⟨rfl, gz0⟩ := hp5
            have hP : va_P D cls0 [(h, .inr (0, [.ref a, .int (iZ (k : Int))])), (a, .inl (cI, n, .inl g))] H := hP
            have hD : va_D A [(h, .inr (0, [.ref a, .int (iZ (k : Int))])), (a, .inl (cI, n, .inl g))] := hD
            show W p l e R s m args below meth c H locs _ _ Q (F0 m 69 ls [.long (lZ z0), .long (lZ ((y1 : Int) * 4294967296)), .int (iZ ((j : Int) - 1 + (w : Int))), .ref a])
            obtain ⟨y0, hy0, b0, rfl⟩ : ∃ x : Nat, x = (if j - 1 = 0 then 0 else at0 f k (j - 1 - 1)) ∧ x < 4294967296 ∧ z0 = (x : Int) := ⟨_, rfl, pred_lt f k j, by rw [gz0]; exact atZ_pred (by omega) (fun x hx => ig x (by omega))⟩
            refine zz_lor hx hb d_Wh_shiftUp_69 (by omega) (by omega) ?_
            refine lv_iload_n hx hb d_Wh_shiftUp_70 rfl (lv_at hl 3 rfl) ?_
            refine zz_lshl (n := pp) hx hb d_Wh_shiftUp_71 (by omega) (by omega) ?_
            obtain ⟨T, hT⟩ : ∃ x : Nat, x = ((y1 * 4294967296 + y0) * 2 ^ pp) % 18446744073709551616 := ⟨_, rfl⟩
            rw [show lZ (((y1 : Int) * 4294967296 + (y0 : Int)) * 2 ^ pp) = lZ (T : Int) by rw [lZ_mod, hT]; congr 1]
            have bT : T < 18446744073709551616 := by rw [hT]; exact Nat.mod_lt _ (by decide)
            obtain ⟨t1, t2⟩ := su_limb b1 b0 bpp hT
            refine lv_bipush (v := iZ (32)) hx hb d_Wh_shiftUp_72 (by decide +kernel) ?_
            refine zz_lushr32 hx hb d_Wh_shiftUp_74 (by omega) (by omega) ?_
            refine zz_l2i hx hb d_Wh_shiftUp_75 ?_
            refine zz_iast hx hb hK hP hD hS 1 0 rfl rfl (j - 1 + w) (by omega) (by omega) (by omega) d_Wh_shiftUp_76 (fun H locs hP hD hS => ?_)
            have hP : va_P D cls0 [(h, .inr (0, [.ref a, .int (iZ (k : Int))])), (a, .inl (cI, n, .inl (upd g (j - 1 + w) (iZ ((T : Int) / 4294967296)))))] H := hP
            have hD : va_D A [(h, .inr (0, [.ref a, .int (iZ (k : Int))])), (a, .inl (cI, n, .inl (upd g (j - 1 + w) (iZ ((T : Int) / 4294967296)))))] := hD
            refine lv_iinc (v := iZ ((j : Int) - 1 - 1)) (lv' := [(4, .int (iZ ((j : Int) - 1 - 1))), (0, .ref h), (1, .int (iZ (b : Int))), (2, .int (iZ (w : Int))), (3, .int (iZ (pp : Int)))]) hx hb d_Wh_shiftUp_77 hl (k := 4) rfl (iZ_add _ _) (by decide) rfl (fun ls hl => ?_)
            refine lv_goto (tgt := 39) hx hb d_Wh_shiftUp_80 (by decide) ?_
            rw [show ((j : Int) - 1 - 1 : Int) = ((j - 1 : Nat) : Int) - 1 by omega] at hl
            exact ih (j - 1) (upd g (j - 1 + w) (iZ ((T : Int) / 4294967296))) _ _ _ (by omega) (by omega) (fun x hx => by rw [pk_un (by omega)]; exact ig x (by omega)) (su_back (by omega) ij iv hy1 hy0 t1 t2) (hP.sub (ws' := [(h, .inr (0, [.ref a, .int (iZ (k : Int))])), (a, .inl (cI, n, .inl (upd g (j - 1 + w) (iZ ((T : Int) / 4294967296)))))]) [0, 1] rfl) (hD.sub (ws' := [(h, .inr (0, [.ref a, .int (iZ (k : Int))])), (a, .inl (cI, n, .inl (upd g (j - 1 + w) (iZ ((T : Int) / 4294967296)))))]) [0, 1] (by decide) rfl) hS (lv_sub hl [1, 2, 3, 4, 0] rfl)
      rw [show ((k : Int) : Int) = ((k + 1 : Nat) : Int) - 1 by omega] at hl
      exact L39 _ (k + 1) f _ _ _ (Nat.lt_succ_self _) (Nat.le_refl _) (fun _ _ => rfl) (by rw [Nat.sub_self, vV_0, vZ_ge (by omega), rv.1]; unfold su_A; rw [if_neg (by omega), show k + 1 - 1 = k by omega, at0_out (Nat.le_refl k)]; simp) (hP.sub (ws' := [(h, .inr (0, [.ref a, .int (iZ (k : Int))])), (a, .inl (cI, n, .inl f))]) [0, 1] rfl) (hD.sub (ws' := [(h, .inr (0, [.ref a, .int (iZ (k : Int))])), (a, .inl (cI, n, .inl f))]) [0, 1] (by decide) rfl) hS (lv_sub hl [3, 4, 2, 1, 0] rfl)
    · have hP9 : va_P D cls0 [(h, .inr (0, [.ref a, .int (iZ (k : Int))])), (a, .inl (cI, n, .inl f))] H := hP.sub [0, 1] rfl
      have hD9 : va_D A [(h, .inr (0, [.ref a, .int (iZ (k : Int))])), (a, .inl (cI, n, .inl f))] := hD.sub [0, 1] (by decide) rfl
      rw [hQ, ← hAe]
      refine r_v K (k, f) hS d_Wh_shiftUp_11 ?_ (fun t ht hv => ?_)
      · try dsimp only
        refine ⟨rfl, ?_, hkn⟩
        rcases (show b = 0 ∨ k = 0 by omega) with q | q
        · rw [q, Nat.pow_zero, Nat.mul_one]; exact rv
        · have h0 : v = 0 := by have := rv.pos; omega
          rw [h0, Nat.zero_mul, ← h0]; exact rv
      · exact ⟨by rw [ht]; exact hP9, va_K.moved hv hK, by rw [← hAe]; exact hD9⟩
set_option maxHeartbeats 4000000 in
set_option maxRecDepth 100000 in
/-- shiftUp(by), by not above 0: nothing -/
theorem c_Wh_shiftUpNeg (l : Launch) (D : va_G) (h : Nat) (a : Nat) (k : Nat) (n : Nat) (f : Nat → Int32) (cI : ClassId) (z : Int) (sz : Nat) (hz : -2147483648 ≤ z ∧ z ≤ 0) (hn : n < 1000000) : Met l y_Wh_shiftUp (wsB y_Wh_shiftUp b_Wh_shiftUp 5 none) ({ frames := 0, cells := 0, slots := 0, locals := 0 }) (va_Pc [.ref h, .int (iZ z)] (wPre D [(cI, .int)] [(h, .inr (0, [.ref a, .int (iZ (k : Int))])), (a, .inl (cI, n, .inl f))] sz)) (va_QV (fun (v9 : Option Value) (u9 : Unit) => v9 = none) (fun u9 => wPost D [(cI, .int)] [(h, .inr (0, [.ref a, .int (iZ (k : Int))])), (a, .inl (cI, n, .inl f))] [(h, .inr (0, [.ref a, .int (iZ (k : Int))])), (a, .inl (cI, n, .inl f))] sz) (va_A [(h, .inr (0, [.ref a, .int (iZ (k : Int))])), (a, .inl (cI, n, .inl f))] sz)) 0 0 (va_A [(h, .inr (0, [.ref a, .int (iZ (k : Int))])), (a, .inl (cI, n, .inl f))] sz) := by
  refine met_enter (by decide +kernel) (Nat.le_of_ble_eq_true rfl) ?_
  intro p e s m args below meth c ls A R Q H locs K hin hAe hA hR hQ hP hK hD hS hl
  obtain ⟨hx, hb, hml, hrt, hlk, hts, hown, hno⟩ := id K
  have hl : lv_has ls 5 [(0, .ref h), (1, .int (iZ z))] := hl
  refine lv_iload_n hx hb d_Wh_shiftUp_0 rfl (lv_at hl 1 rfl) ?_
  refine zz_if_le (tgt := 11) hx hb d_Wh_shiftUp_1 (by decide) (by omega) (fun c1 => ?_) (fun c1 => False.elim (by omega))
  have hP9 : va_P D cls0 [(h, .inr (0, [.ref a, .int (iZ (k : Int))])), (a, .inl (cI, n, .inl f))] H := hP.sub [0, 1] rfl
  have hD9 : va_D A [(h, .inr (0, [.ref a, .int (iZ (k : Int))])), (a, .inl (cI, n, .inl f))] := hD.sub [0, 1] (by decide) rfl
  rw [hQ, ← hAe]
  refine r_v K () hS d_Wh_shiftUp_11 ?_ (fun t ht hv => ?_)
  · exact rfl
  · exact ⟨by rw [ht]; exact hP9, va_K.moved hv hK, by rw [← hAe]; exact hD9⟩
set_option maxHeartbeats 4000000 in
set_option maxRecDepth 100000 in
/-- shiftDown(by) -/
theorem c_Wh_shiftDown (l : Launch) (D : va_G) (h : Nat) (a : Nat) (k : Nat) (n : Nat) (f : Nat → Int32) (cI : ClassId) (v : Nat) (b : Nat) (sz : Nat) (rv : Rp f k v) (hbb : b < 100000) (hkn : k ≤ n) (hn : n < 1000000) : Met l y_Wh_shiftDown (wsB y_Wh_shiftDown b_Wh_shiftDown 6 none) ({ frames := 1, cells := 0, slots := 0, locals := 21 }) (va_Pc [.ref h, .int (iZ (b : Int))] (wPre D [(cI, .int)] [(h, .inr (0, [.ref a, .int (iZ (k : Int))])), (a, .inl (cI, n, .inl f))] sz)) (va_QV (fun (v9 : Option Value) (u9 : Nat × (Nat → Int32)) => v9 = none ∧ (Rp u9.2 u9.1 (v / 2 ^ b)) ∧ (u9.1 ≤ k)) (fun u9 => wPost D [(cI, .int)] [(h, .inr (0, [.ref a, .int (iZ (k : Int))])), (a, .inl (cI, n, .inl f))] [(h, .inr (0, [.ref a, .int (iZ (u9.1 : Int))])), (a, .inl (cI, n, .inl u9.2))] sz) (va_A [(h, .inr (0, [.ref a, .int (iZ (k : Int))])), (a, .inl (cI, n, .inl f))] sz)) 0 0 (va_A [(h, .inr (0, [.ref a, .int (iZ (k : Int))])), (a, .inl (cI, n, .inl f))] sz) := by
  refine met_enter (by decide +kernel) (Nat.le_of_ble_eq_true rfl) ?_
  intro p e s m args below meth c ls A R Q H locs K hin hAe hA hR hQ hP hK hD hS hl
  obtain ⟨hx, hb, hml, hrt, hlk, hts, hown, hno⟩ := id K
  have hl : lv_has ls 6 [(0, .ref h), (1, .int (iZ (b : Int)))] := hl
  refine lv_iload_n hx hb d_Wh_shiftDown_0 rfl (lv_at hl 1 rfl) ?_
  refine zz_if_gt (tgt := 5) hx hb d_Wh_shiftDown_1 (by decide) (by omega) (fun c1 => ?_) (fun c1 => ?_)
  · refine lv_iload_n hx hb d_Wh_shiftDown_5 rfl (lv_at hl 1 rfl) ?_
    refine lv_iconst (v := iZ (5)) hx hb d_Wh_shiftDown_6 (by decide +kernel) ?_
    refine zz_iushr (n := 5) hx hb d_Wh_shiftDown_7 (by omega) (by omega) (by omega) ?_
    obtain ⟨w, hw, bw⟩ : ∃ x : Nat, x = b / 32 ∧ x < 100000 := ⟨_, rfl, by omega⟩
    rw [show ((b : Int) / 2 ^ 5 : Int) = (w : Int) by rw [hw]; omega] 
    refine lv_istore_n (lv' := [(2, .int (iZ (w : Int))), (0, .ref h), (1, .int (iZ (b : Int)))]) hx hb d_Wh_shiftDown_8 rfl hl (by decide) rfl (fun ls hl => ?_)
    refine lv_iload_n hx hb d_Wh_shiftDown_9 rfl (lv_at hl 2 rfl) ?_
    refine lv_bipush (v := iZ (31)) hx hb d_Wh_shiftDown_10 (by decide +kernel) ?_
    refine zz_iand31 hx hb d_Wh_shiftDown_12 (by omega) ?_
    obtain ⟨pp, hpp, bpp⟩ : ∃ x : Nat, x = b % 32 ∧ x < 32 := ⟨_, rfl, by omega⟩
    rw [show ((b : Int) % 32 : Int) = (pp : Int) by rw [hpp]; omega] 
    have hbw : b = 32 * w + pp := by omega
    refine lv_istore_n (lv' := [(3, .int (iZ (pp : Int))), (2, .int (iZ (w : Int))), (0, .ref h), (1, .int (iZ (b : Int)))]) hx hb d_Wh_shiftDown_13 rfl hl (by decide) rfl (fun ls hl => ?_)
    refine lv_iconst (v := iZ (0)) hx hb d_Wh_shiftDown_14 (by decide +kernel) ?_
    refine lv_aload_n hx hb d_Wh_shiftDown_15 rfl (lv_at hl 2 rfl) ?_
    refine va_get (D := D) (ci := 0) (v := .int (iZ (k : Int))) (C := R_Wh) (T := F_Wh) (N := 2) hx hb hts i_Wh hown hK hP 0 rfl rfl 1 (by decide) (hts _ (big_in mw_94 rfl)) (fun _ h9 => h9) rfl d_Wh_shiftDown_16 ?_
    refine lv_iload_n hx hb d_Wh_shiftDown_19 rfl (lv_at hl 1 rfl) ?_
    refine zz_isub hx hb d_Wh_shiftDown_20 ?_
    refine cs (n := 2) (wr := [(h, .inr (0, [.ref a, .int (iZ (k : Int))])), (a, .inl (cI, n, .inl f))]) (w1 := (fun (u : Int) => [])) (As := [.int (iZ 0), .int (iZ ((k : Int) - (w : Int)))]) (rest := []) K hP hD hK hS hA hl.1 (c_jMath_max l D 0 ((k : Int) - (w : Int)) H.size (by omega) (by omega)) [] [0, 1] [] rfl rfl rfl (by decide) (by decide) (by decide) (big_in mw_49 rfl) (big_in mw_3 rfl) (big_in mw_89 rfl) (big_in mw_48 rfl) rfl rfl (by decide +kernel) ⟨by rw [hR]; exact Nat.le_of_ble_eq_true rfl, by rw [hR]; exact Nat.le_of_ble_eq_true rfl⟩ rfl (Nat.le_of_ble_eq_true rfl) d_Wh_shiftDown_21 ⟨by rw [hR]; exact Nat.le_of_ble_eq_true rfl, by rw [hR]; exact Nat.le_of_ble_eq_true rfl⟩ rfl (fun v u H locs hp1 hP hD hS _ => ?_)
    obtain ⟨rm, rfl⟩ : ∃ z, z = u := ⟨_, rfl⟩
    obtain ⟨rfl, gm⟩ := hp1
    have hP : va_P D cls0 [(h, .inr (0, [.ref a, .int (iZ (k : Int))])), (a, .inl (cI, n, .inl f))] H := hP
    have hD : va_D A [(h, .inr (0, [.ref a, .int (iZ (k : Int))])), (a, .inl (cI, n, .inl f))] := hD
    show W p l e R s m args below meth c H locs _ _ Q (F0 m 24 ls [.int (iZ rm)])
    obtain ⟨M, hM, rfl⟩ : ∃ x : Nat, x = k - w ∧ rm = (x : Int) := ⟨_, rfl, by rw [gm]; split <;> omega⟩
    refine lv_istore (lv' := [(4, .int (iZ (M : Int))), (3, .int (iZ (pp : Int))), (2, .int (iZ (w : Int))), (0, .ref h), (1, .int (iZ (b : Int)))]) hx hb d_Wh_shiftDown_24 hl (by decide) rfl (fun ls hl => ?_)
    refine lv_iconst (v := iZ (0)) hx hb d_Wh_shiftDown_26 (by decide +kernel) ?_
    refine lv_istore (lv' := [(5, .int (iZ 0)), (4, .int (iZ (M : Int))), (3, .int (iZ (pp : Int))), (2, .int (iZ (w : Int))), (0, .ref h), (1, .int (iZ (b : Int)))]) hx hb d_Wh_shiftDown_27 hl (by decide) rfl (fun ls hl => ?_)
    have L29 : ∀ (N : Nat) (i : Nat) (g : Nat → Int32) (H : Heap) (locs : List Loc) (ls : Array Slot), M - i < N → (i ≤ M) → (∀ x, i ≤ x → g x = f x) → (vV g i = v / 2 ^ b % pB i) → va_P D cls0 [(h, .inr (0, [.ref a, .int (iZ (k : Int))])), (a, .inl (cI, n, .inl g))] H → va_D A [(h, .inr (0, [.ref a, .int (iZ (k : Int))])), (a, .inl (cI, n, .inl g))] → va_S A s.heap H locs → lv_has ls 6 [(0, .ref h), (1, .int (iZ (b : Int))), (2, .int (iZ (w : Int))), (3, .int (iZ (pp : Int))), (4, .int (iZ (M : Int))), (5, .int (iZ (i : Int)))] → W p l e R s m args below meth c H locs 0 0 Q (F0 m 29 ls []) := by
      intro N
      induction N with
      | zero => intro i g H locs ls hN; exact absurd hN (Nat.not_lt_zero _)
      | succ N ih =>
        intro i g H locs ls hN ii ig iv hP hD hS hl
        refine lv_iload hx hb d_Wh_shiftDown_29 (lv_at hl 5 rfl) ?_
        refine lv_iload hx hb d_Wh_shiftDown_31 (lv_at hl 4 rfl) ?_
        refine zz_icmp_ge (tgt := 74) hx hb d_Wh_shiftDown_33 (by decide) (by omega) (by omega) (fun c33 => ?_) (fun c33 => ?_)
        · refine lv_aload_n hx hb d_Wh_shiftDown_74 rfl (lv_at hl 0 rfl) ?_
          refine lv_iload hx hb d_Wh_shiftDown_75 (lv_at hl 4 rfl) ?_
          refine va_put (D := D) (ci := 0) (v := .int (iZ (M : Int))) (ty := .int) (C := R_Wh) (T := F_Wh) (N := 2) hx hb hts i_Wh t_Wh t_Wh_ok n_Wh hown hK hP hD hS 0 rfl rfl 1 (by decide) (hts _ (big_in mw_94 rfl)) (fun _ h9 => h9) rfl (by decide +kernel) rfl rfl (Nat.le_of_ble_eq_true rfl) d_Wh_shiftDown_77 (fun H locs hP hD hS => ?_)
          have hP : va_P D cls0 [(h, .inr (0, [.ref a, .int (iZ (M : Int))])), (a, .inl (cI, n, .inl g))] H := hP
          have hD : va_D A [(h, .inr (0, [.ref a, .int (iZ (M : Int))])), (a, .inl (cI, n, .inl g))] := hD
          refine lv_aload_n hx hb d_Wh_shiftDown_80 rfl (lv_at hl 0 rfl) ?_
          refine cv (n := 0) (wr := []) (w1 := (fun (u : Nat) => [(h, .inr (0, [.ref a, .int (iZ (u : Int))])), (a, .inl (cI, n, .inl g))])) (As := []) (rest := []) K hP hD hK hS hA hl.1 (c_Wh_trim l D h a M n g cI H.size (by omega) (by omega)) [0, 1] [] [0] rfl rfl rfl (by decide) (by decide) (by decide) 0 rfl rfl (big_in mw_385 rfl) (big_in mw_6 rfl) (big_in mw_382 rfl) (big_in mw_384 rfl) (big_in sp_1 rfl) rfl rfl (by decide +kernel) ⟨by rw [hR]; exact Nat.le_of_ble_eq_true rfl, by rw [hR]; exact Nat.le_of_ble_eq_true rfl⟩ rfl (Nat.le_of_ble_eq_true rfl) d_Wh_shiftDown_81 ⟨by rw [hR]; exact Nat.le_of_ble_eq_true rfl, by rw [hR]; exact Nat.le_of_ble_eq_true rfl⟩ rfl (fun v u H locs hp2 hP hD hS _ => ?_)
          obtain ⟨u, rfl⟩ : ∃ z, z = u := ⟨_, rfl⟩
          obtain ⟨rfl, g1, g2, g3⟩ := hp2
          have hP : va_P D cls0 [(h, .inr (0, [.ref a, .int (iZ (u : Int))])), (a, .inl (cI, n, .inl g))] H := hP
          have hD : va_D A [(h, .inr (0, [.ref a, .int (iZ (u : Int))])), (a, .inl (cI, n, .inl g))] := hD
          show W p l e R s m args below meth c H locs _ _ Q (F0 m 84 ls [])
          have hP9 : va_P D cls0 [(h, .inr (0, [.ref a, .int (iZ (u : Int))])), (a, .inl (cI, n, .inl g))] H := hP.sub [0, 1] rfl
          have hD9 : va_D A [(h, .inr (0, [.ref a, .int (iZ (u : Int))])), (a, .inl (cI, n, .inl g))] := hD.sub [0, 1] (by decide) rfl
          rw [hQ, ← hAe]
          refine r_v K (u, g) hS d_Wh_shiftDown_84 ?_ (fun t ht hv => ?_)
          · try dsimp only
            have ej : i = M := by omega
            subst ej
            exact ⟨rfl, Rp.trimmed (by rw [iv, sd_end rv.lt hbw hM]) g1 g2 g3, by omega⟩
          · exact ⟨by rw [ht]; exact hP9, va_K.moved hv hK, by rw [← hAe]; exact hD9⟩
        · refine lv_aload_n hx hb d_Wh_shiftDown_36 rfl (lv_at hl 0 rfl) ?_
          refine va_get (D := D) (ci := 0) (v := .ref a) (C := R_Wh) (T := F_Wh) (N := 2) hx hb hts i_Wh hown hK hP 0 rfl rfl 0 (by decide) (hts _ (big_in mw_90 rfl)) (fun _ h9 => h9) rfl d_Wh_shiftDown_37 ?_
          refine lv_iload hx hb d_Wh_shiftDown_40 (lv_at hl 5 rfl) ?_
          refine lv_aload_n hx hb d_Wh_shiftDown_42 rfl (lv_at hl 0 rfl) ?_
          refine lv_iload hx hb d_Wh_shiftDown_43 (lv_at hl 5 rfl) ?_
          refine lv_iload_n hx hb d_Wh_shiftDown_45 rfl (lv_at hl 2 rfl) ?_
          refine zz_iadd hx hb d_Wh_shiftDown_46 ?_
          refine lv_iconst (v := iZ (1)) hx hb d_Wh_shiftDown_47 (by decide +kernel) ?_
          refine zz_iadd hx hb d_Wh_shiftDown_48 ?_
          refine cv (n := 1) (wr := []) (w1 := (fun (u : Int) => [(h, .inr (0, [.ref a, .int (iZ (k : Int))])), (a, .inl (cI, n, .inl g))])) (As := [.int (iZ ((i : Int) + (w : Int) + 1))]) (rest := [.int (iZ (i : Int)), .ref a]) K hP hD hK hS hA hl.1 (c_Wh_at l D h a k n g cI ((i : Int) + (w : Int) + 1) H.size (by omega) (by omega) (by omega)) [0, 1] [] [0] rfl rfl rfl (by decide) (by decide) (by decide) 0 rfl rfl (big_in mw_447 rfl) (big_in mw_6 rfl) (big_in mw_444 rfl) (big_in mw_445 rfl) (big_in mw_446 rfl) rfl rfl (by decide +kernel) ⟨by rw [hR]; exact Nat.le_of_ble_eq_true rfl, by rw [hR]; exact Nat.le_of_ble_eq_true rfl⟩ rfl (Nat.le_of_ble_eq_true rfl) d_Wh_shiftDown_49 ⟨by rw [hR]; exact Nat.le_of_ble_eq_true rfl, by rw [hR]; exact Nat.le_of_ble_eq_true rfl⟩ rfl (fun v u H locs hp3 hP hD hS _ => ?_)
          obtain ⟨z1, rfl⟩ : ∃ z, z = u := ⟨_, rfl⟩
          obtain ⟨rfl, gz1⟩ := hp3
          have hP : va_P D cls0 [(h, .inr (0, [.ref a, .int (iZ (k : Int))])), (a, .inl (cI, n, .inl g))] H := hP
          have hD : va_D A [(h, .inr (0, [.ref a, .int (iZ (k : Int))])), (a, .inl (cI, n, .inl g))] := hD
          show W p l e R s m args below meth c H locs _ _ Q (F0 m 52 ls [.long (lZ z1), .int (iZ (i : Int)), .ref a])
          obtain ⟨y1, hy1, b1, rfl⟩ : ∃ x : Nat, x = at0 f k (i + w + 1) ∧ x < 4294967296 ∧ z1 = (x : Int) := ⟨_, rfl, at0_lt _ _ _, by rw [gz1, show (i : Int) + (w : Int) + 1 = ((i + w + 1 : Nat) : Int) by omega, atZ_n]; exact congrArg _ (at0_c (ig _ (by omega)))⟩
          refine lv_bipush (v := iZ (32)) hx hb d_Wh_shiftDown_52 (by decide +kernel) ?_
          refine zz_lshl32 hx hb d_Wh_shiftDown_54 ?_
          refine lv_aload_n hx hb d_Wh_shiftDown_55 rfl (lv_at hl 0 rfl) ?_
          refine lv_iload hx hb d_Wh_shiftDown_56 (lv_at hl 5 rfl) ?_
          refine lv_iload_n hx hb d_Wh_shiftDown_58 rfl (lv_at hl 2 rfl) ?_
          refine zz_iadd hx hb d_Wh_shiftDown_59 ?_
          refine cv (n := 1) (wr := []) (w1 := (fun (u : Int) => [(h, .inr (0, [.ref a, .int (iZ (k : Int))])), (a, .inl (cI, n, .inl g))])) (As := [.int (iZ ((i : Int) + (w : Int)))]) (rest := [.long (lZ ((y1 : Int) * 4294967296)), .int (iZ (i : Int)), .ref a]) K hP hD hK hS hA hl.1 (c_Wh_at l D h a k n g cI ((i : Int) + (w : Int)) H.size (by omega) (by omega) (by omega)) [0, 1] [] [0] rfl rfl rfl (by decide) (by decide) (by decide) 0 rfl rfl (big_in mw_447 rfl) (big_in mw_6 rfl) (big_in mw_444 rfl) (big_in mw_445 rfl) (big_in mw_446 rfl) rfl rfl (by decide +kernel) ⟨by rw [hR]; exact Nat.le_of_ble_eq_true rfl, by rw [hR]; exact Nat.le_of_ble_eq_true rfl⟩ rfl (Nat.le_of_ble_eq_true rfl) d_Wh_shiftDown_60 ⟨by rw [hR]; exact Nat.le_of_ble_eq_true rfl, by rw [hR]; exact Nat.le_of_ble_eq_true rfl⟩ rfl (fun v u H locs hp4 hP hD hS _ => ?_)
          obtain ⟨z0, rfl⟩ : ∃ z, z = u := ⟨_, rfl⟩
          obtain ⟨rfl, gz0⟩ := hp4
          have hP : va_P D cls0 [(h, .inr (0, [.ref a, .int (iZ (k : Int))])), (a, .inl (cI, n, .inl g))] H := hP
          have hD : va_D A [(h, .inr (0, [.ref a, .int (iZ (k : Int))])), (a, .inl (cI, n, .inl g))] := hD
          show W p l e R s m args below meth c H locs _ _ Q (F0 m 63 ls [.long (lZ z0), .long (lZ ((y1 : Int) * 4294967296)), .int (iZ (i : Int)), .ref a])
          obtain ⟨y0, hy0, b0, rfl⟩ : ∃ x : Nat, x = at0 f k (i + w) ∧ x < 4294967296 ∧ z0 = (x : Int) := ⟨_, rfl, at0_lt _ _ _, by rw [gz0, show (i : Int) + (w : Int) = ((i + w : Nat) : Int) by omega, atZ_n]; exact congrArg _ (at0_c (ig _ (by omega)))⟩
          refine zz_lor hx hb d_Wh_shiftDown_63 (by omega) (by omega) ?_
          obtain ⟨T, hT, bT⟩ : ∃ x : Nat, x = y1 * 4294967296 + y0 ∧ x < 18446744073709551616 := ⟨_, rfl, by omega⟩
          rw [show ((y1 : Int) * 4294967296 + (y0 : Int) : Int) = (T : Int) by rw [hT]; simp] 
          refine lv_iload_n hx hb d_Wh_shiftDown_64 rfl (lv_at hl 3 rfl) ?_
          refine zz_lushr (n := pp) hx hb d_Wh_shiftDown_65 (by omega) (by omega) (by omega) (by omega) ?_
          refine zz_l2i hx hb d_Wh_shiftDown_66 ?_
          refine zz_iast hx hb hK hP hD hS 1 0 rfl rfl (i) (by omega) (by omega) (by omega) d_Wh_shiftDown_67 (fun H locs hP hD hS => ?_)
          have hP : va_P D cls0 [(h, .inr (0, [.ref a, .int (iZ (k : Int))])), (a, .inl (cI, n, .inl (upd g i (iZ ((T : Int) / 2 ^ pp)))))] H := hP
          have hD : va_D A [(h, .inr (0, [.ref a, .int (iZ (k : Int))])), (a, .inl (cI, n, .inl (upd g i (iZ ((T : Int) / 2 ^ pp)))))] := hD
          refine lv_iinc (v := iZ ((i : Int) + 1)) (lv' := [(5, .int (iZ ((i : Int) + 1))), (0, .ref h), (1, .int (iZ (b : Int))), (2, .int (iZ (w : Int))), (3, .int (iZ (pp : Int))), (4, .int (iZ (M : Int)))]) hx hb d_Wh_shiftDown_68 hl (k := 5) rfl (iZ_add _ _) (by decide) rfl (fun ls hl => ?_)
          refine lv_goto (tgt := 29) hx hb d_Wh_shiftDown_71 (by decide) ?_
          rw [show ((i : Int) + 1 : Int) = ((i + 1 : Nat) : Int) by omega] at hl
          exact ih (i + 1) (upd g i (iZ ((T : Int) / 2 ^ pp))) _ _ _ (by omega) (by omega) (fun x hx => by rw [pk_un (by omega)]; exact ig x (by omega)) (sd_step rv.1 hbw bpp iv (by rw [hT, hy1, hy0])) (hP.sub (ws' := [(h, .inr (0, [.ref a, .int (iZ (k : Int))])), (a, .inl (cI, n, .inl (upd g i (iZ ((T : Int) / 2 ^ pp)))))]) [0, 1] rfl) (hD.sub (ws' := [(h, .inr (0, [.ref a, .int (iZ (k : Int))])), (a, .inl (cI, n, .inl (upd g i (iZ ((T : Int) / 2 ^ pp)))))]) [0, 1] (by decide) rfl) hS (lv_sub hl [1, 2, 3, 4, 5, 0] rfl)
    exact L29 _ 0 f _ _ _ (Nat.lt_succ_self _) (Nat.zero_le _) (fun _ _ => rfl) (by rw [vV_0, pB_0, Nat.mod_one]) (hP.sub (ws' := [(h, .inr (0, [.ref a, .int (iZ (k : Int))])), (a, .inl (cI, n, .inl f))]) [0, 1] rfl) (hD.sub (ws' := [(h, .inr (0, [.ref a, .int (iZ (k : Int))])), (a, .inl (cI, n, .inl f))]) [0, 1] (by decide) rfl) hS (lv_sub hl [4, 5, 3, 2, 1, 0] rfl)
  · have hP9 : va_P D cls0 [(h, .inr (0, [.ref a, .int (iZ (k : Int))])), (a, .inl (cI, n, .inl f))] H := hP.sub [0, 1] rfl
    have hD9 : va_D A [(h, .inr (0, [.ref a, .int (iZ (k : Int))])), (a, .inl (cI, n, .inl f))] := hD.sub [0, 1] (by decide) rfl
    rw [hQ, ← hAe]
    refine r_v K (k, f) hS d_Wh_shiftDown_4 ?_ (fun t ht hv => ?_)
    · try dsimp only
      refine ⟨rfl, ?_, Nat.le_refl k⟩
      have q : b = 0 := by omega
      rw [q, Nat.pow_zero, Nat.div_one]; exact rv
    · exact ⟨by rw [ht]; exact hP9, va_K.moved hv hK, by rw [← hAe]; exact hD9⟩
