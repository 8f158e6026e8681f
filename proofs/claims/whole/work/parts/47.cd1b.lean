set_option maxHeartbeats 4000000 in
set_option maxRecDepth 100000 in
/-- foreseeSteps() -/
theorem c_Cd_foreseeSteps (l : Launch) (D : va_G) (hc : Nat) (h1 : Nat) (a1 : Nat) (k1 : Nat) (n1 : Nat) (f1 : Nat → Int32) (h2 : Nat) (a2 : Nat) (k2 : Nat) (n2 : Nat) (f2 : Nat → Int32) (h3 : Nat) (cI : ClassId) (xa : Int64) (xb : Int64) (xc : Int64) (xd : Int64) (vx : Nat) (vy : Nat) (sz : Nat) (r1 : Rp f1 k1 vx) (r2 : Rp f2 k2 vy) (hxy : vy ≤ vx) (hx0 : 0 < vx) (hk1 : k1 ≤ n1) (hk2 : k2 ≤ n2) (hn1 : n1 < 1000000) (hn2 : n2 < 1000000) : Met l y_Cd_foreseeSteps (wsB y_Cd_foreseeSteps b_Cd_foreseeSteps 15 none) ({ frames := 2, cells := 0, slots := 0, locals := 46 }) (va_Pc [.ref hc] (wPre D [(cI, .int)] [(hc, .inr (2, [.ref h1, .ref h2, .ref h3, .long xa, .long xb, .long xc, .long xd])), (h1, .inr (0, [.ref a1, .int (iZ (k1 : Int))])), (a1, .inl (cI, n1, .inl f1)), (h2, .inr (0, [.ref a2, .int (iZ (k2 : Int))])), (a2, .inl (cI, n2, .inl f2))] sz)) (va_QV (fun (v9 : Option Value) (u9 : Int × Int × Int × Int × Nat × Nat) => v9 = none ∧ (∃ (Pw : Nat) (high low : Int), 0 < Pw ∧ le_I vx vy Pw u9.1 u9.2.1 u9.2.2.1 u9.2.2.2.1 high low u9.2.2.2.2.1 u9.2.2.2.2.2)) (fun u9 => wPost D [(cI, .int)] [(hc, .inr (2, [.ref h1, .ref h2, .ref h3, .long xa, .long xb, .long xc, .long xd])), (h1, .inr (0, [.ref a1, .int (iZ (k1 : Int))])), (a1, .inl (cI, n1, .inl f1)), (h2, .inr (0, [.ref a2, .int (iZ (k2 : Int))])), (a2, .inl (cI, n2, .inl f2))] [(hc, .inr (2, [.ref h1, .ref h2, .ref h3, .long (lZ u9.1), .long (lZ u9.2.1), .long (lZ u9.2.2.1), .long (lZ u9.2.2.2.1)])), (h1, .inr (0, [.ref a1, .int (iZ (k1 : Int))])), (a1, .inl (cI, n1, .inl f1)), (h2, .inr (0, [.ref a2, .int (iZ (k2 : Int))])), (a2, .inl (cI, n2, .inl f2))] sz) (va_A [(hc, .inr (2, [.ref h1, .ref h2, .ref h3, .long xa, .long xb, .long xc, .long xd])), (h1, .inr (0, [.ref a1, .int (iZ (k1 : Int))])), (a1, .inl (cI, n1, .inl f1)), (h2, .inr (0, [.ref a2, .int (iZ (k2 : Int))])), (a2, .inl (cI, n2, .inl f2))] sz)) 0 0 (va_A [(hc, .inr (2, [.ref h1, .ref h2, .ref h3, .long xa, .long xb, .long xc, .long xd])), (h1, .inr (0, [.ref a1, .int (iZ (k1 : Int))])), (a1, .inl (cI, n1, .inl f1)), (h2, .inr (0, [.ref a2, .int (iZ (k2 : Int))])), (a2, .inl (cI, n2, .inl f2))] sz) := by
  refine met_enter (by decide +kernel) (Nat.le_of_ble_eq_true rfl) ?_
  intro p e s m args below meth c ls A R Q H locs K hin hAe hA hR hQ hP hK hD hS hl
  obtain ⟨hx, hb, hml, hrt, hlk, hts, hown, hno⟩ := id K
  have hl : lv_has ls 15 [(0, .ref hc)] := hl
  refine lv_iconst (v := iZ (0)) hx hb d_Cd_foreseeSteps_0 (by decide +kernel) ?_
  refine lv_aload_n hx hb d_Cd_foreseeSteps_1 rfl (lv_at hl 0 rfl) ?_
  refine va_get (D := D) (ci := 2) (v := .ref h1) (C := R_Cd) (T := F_Cd) (N := 7) hx hb hts i_Cd hown hK hP 0 rfl rfl 0 (by decide) (hts _ (big_in mw_106 rfl)) (fun _ h9 => h9) rfl d_Cd_foreseeSteps_2 ?_
  refine cv (n := 0) (wr := [(hc, .inr (2, [.ref h1, .ref h2, .ref h3, .long xa, .long xb, .long xc, .long xd])), (h2, .inr (0, [.ref a2, .int (iZ (k2 : Int))])), (a2, .inl (cI, n2, .inl f2))]) (w1 := (fun (u : Int) => [(h1, .inr (0, [.ref a1, .int (iZ (k1 : Int))])), (a1, .inl (cI, n1, .inl f1))])) (As := []) (rest := [.int (iZ 0)]) K hP hD hK hS hA hl.1 (c_Wh_bits l D h1 a1 k1 n1 f1 cI vx H.size r1 (by omega) (by omega)) [1, 2] [0, 3, 4] [0] rfl rfl rfl (by decide) (by decide) (by decide) 0 rfl rfl (big_in mw_434 rfl) (big_in mw_6 rfl) (big_in mw_431 rfl) (big_in mw_432 rfl) (big_in mw_433 rfl) rfl rfl (by decide +kernel) ⟨by rw [hR]; exact Nat.le_of_ble_eq_true rfl, by rw [hR]; exact Nat.le_of_ble_eq_true rfl⟩ rfl (Nat.le_of_ble_eq_true rfl) d_Cd_foreseeSteps_5 ⟨by rw [hR]; exact Nat.le_of_ble_eq_true rfl, by rw [hR]; exact Nat.le_of_ble_eq_true rfl⟩ rfl (fun v u H locs hp1 hP hD hS _ => ?_)
  obtain ⟨rb, rfl⟩ : ∃ z, z = u := ⟨_, rfl⟩
  obtain ⟨rfl, grb⟩ := hp1
  have hP : va_P D cls0 [(hc, .inr (2, [.ref h1, .ref h2, .ref h3, .long xa, .long xb, .long xc, .long xd])), (h2, .inr (0, [.ref a2, .int (iZ (k2 : Int))])), (a2, .inl (cI, n2, .inl f2)), (h1, .inr (0, [.ref a1, .int (iZ (k1 : Int))])), (a1, .inl (cI, n1, .inl f1))] H := hP
  have hD : va_D A [(hc, .inr (2, [.ref h1, .ref h2, .ref h3, .long xa, .long xb, .long xc, .long xd])), (h2, .inr (0, [.ref a2, .int (iZ (k2 : Int))])), (a2, .inl (cI, n2, .inl f2)), (h1, .inr (0, [.ref a1, .int (iZ (k1 : Int))])), (a1, .inl (cI, n1, .inl f1))] := hD
  show W p l e R s m args below meth c H locs _ _ Q (F0 m 8 ls [.int (iZ rb), .int (iZ 0)])
  obtain ⟨nb, hnb, rfl⟩ : ∃ x : Nat, x = bl vx ∧ rb = (x : Int) := ⟨_, rfl, grb⟩
  have bnb : nb ≤ 32 * k1 := by rw [hnb]; exact bl_lt.mpr (by rw [← pB_two]; exact r1.lt)
  refine lv_bipush (v := iZ (62)) hx hb d_Cd_foreseeSteps_8 (by decide +kernel) ?_
  refine zz_isub hx hb d_Cd_foreseeSteps_10 ?_
  refine cs (n := 2) (wr := [(hc, .inr (2, [.ref h1, .ref h2, .ref h3, .long xa, .long xb, .long xc, .long xd])), (h2, .inr (0, [.ref a2, .int (iZ (k2 : Int))])), (a2, .inl (cI, n2, .inl f2)), (h1, .inr (0, [.ref a1, .int (iZ (k1 : Int))])), (a1, .inl (cI, n1, .inl f1))]) (w1 := (fun (u : Int) => [])) (As := [.int (iZ 0), .int (iZ ((nb : Int) - 62))]) (rest := []) K hP hD hK hS hA hl.1 (c_jMath_max l D 0 ((nb : Int) - 62) H.size (by omega) (by omega)) [] [0, 1, 2, 3, 4] [] rfl rfl rfl (by decide) (by decide) (by decide) (big_in mw_49 rfl) (big_in mw_3 rfl) (big_in mw_439 rfl) (big_in mw_48 rfl) rfl rfl (by decide +kernel) ⟨by rw [hR]; exact Nat.le_of_ble_eq_true rfl, by rw [hR]; exact Nat.le_of_ble_eq_true rfl⟩ rfl (Nat.le_of_ble_eq_true rfl) d_Cd_foreseeSteps_11 ⟨by rw [hR]; exact Nat.le_of_ble_eq_true rfl, by rw [hR]; exact Nat.le_of_ble_eq_true rfl⟩ rfl (fun v u H locs hp2 hP hD hS _ => ?_)
  obtain ⟨rm, rfl⟩ : ∃ z, z = u := ⟨_, rfl⟩
  obtain ⟨rfl, gm⟩ := hp2
  have hP : va_P D cls0 [(hc, .inr (2, [.ref h1, .ref h2, .ref h3, .long xa, .long xb, .long xc, .long xd])), (h2, .inr (0, [.ref a2, .int (iZ (k2 : Int))])), (a2, .inl (cI, n2, .inl f2)), (h1, .inr (0, [.ref a1, .int (iZ (k1 : Int))])), (a1, .inl (cI, n1, .inl f1))] H := hP
  have hD : va_D A [(hc, .inr (2, [.ref h1, .ref h2, .ref h3, .long xa, .long xb, .long xc, .long xd])), (h2, .inr (0, [.ref a2, .int (iZ (k2 : Int))])), (a2, .inl (cI, n2, .inl f2)), (h1, .inr (0, [.ref a1, .int (iZ (k1 : Int))])), (a1, .inl (cI, n1, .inl f1))] := hD
  show W p l e R s m args below meth c H locs _ _ Q (F0 m 14 ls [.int (iZ rm)])
  obtain ⟨fr, hfr, rfl⟩ : ∃ x : Nat, x = nb - 62 ∧ rm = (x : Int) := ⟨_, rfl, by rw [gm]; split <;> omega⟩
  have hPp : 0 < 2 ^ fr := Nat.two_pow_pos _
  have bX : vx / 2 ^ fr < 4611686018427387904 := Nat.div_lt_of_lt_mul (by rw [show (4611686018427387904 : Nat) = 2 ^ 62 from rfl, ← Nat.pow_add]; refine Nat.lt_of_lt_of_le (bl_self vx) (Nat.pow_le_pow_right (by decide) (by omega)))
  have bY : vy / 2 ^ fr ≤ vx / 2 ^ fr := Nat.div_le_div_right hxy
  refine lv_istore_n (lv' := [(1, .int (iZ (fr : Int))), (0, .ref hc)]) hx hb d_Cd_foreseeSteps_14 rfl hl (by decide) rfl (fun ls hl => ?_)
  refine lv_aload_n hx hb d_Cd_foreseeSteps_15 rfl (lv_at hl 1 rfl) ?_
  refine va_get (D := D) (ci := 2) (v := .ref h1) (C := R_Cd) (T := F_Cd) (N := 7) hx hb hts i_Cd hown hK hP 0 rfl rfl 0 (by decide) (hts _ (big_in mw_106 rfl)) (fun _ h9 => h9) rfl d_Cd_foreseeSteps_16 ?_
  refine lv_iload_n hx hb d_Cd_foreseeSteps_19 rfl (lv_at hl 0 rfl) ?_
  refine cv (n := 1) (wr := [(hc, .inr (2, [.ref h1, .ref h2, .ref h3, .long xa, .long xb, .long xc, .long xd])), (h2, .inr (0, [.ref a2, .int (iZ (k2 : Int))])), (a2, .inl (cI, n2, .inl f2))]) (w1 := (fun (u : Nat) => [(h1, .inr (0, [.ref a1, .int (iZ (k1 : Int))])), (a1, .inl (cI, n1, .inl f1))])) (As := [.int (iZ (fr : Int))]) (rest := []) K hP hD hK hS hA hl.1 (c_Wh_bitsFrom l D h1 a1 k1 n1 f1 cI vx fr H.size r1 (by omega) (by omega) (by omega)) [3, 4] [0, 1, 2] [0] rfl rfl rfl (by decide) (by decide) (by decide) 0 rfl rfl (big_in mw_443 rfl) (big_in mw_6 rfl) (big_in mw_440 rfl) (big_in mw_441 rfl) (big_in mw_442 rfl) rfl rfl (by decide +kernel) ⟨by rw [hR]; exact Nat.le_of_ble_eq_true rfl, by rw [hR]; exact Nat.le_of_ble_eq_true rfl⟩ rfl (Nat.le_of_ble_eq_true rfl) d_Cd_foreseeSteps_20 ⟨by rw [hR]; exact Nat.le_of_ble_eq_true rfl, by rw [hR]; exact Nat.le_of_ble_eq_true rfl⟩ rfl (fun v u H locs hp3 hP hD hS _ => ?_)
  obtain ⟨hi, rfl⟩ : ∃ z, z = u := ⟨_, rfl⟩
  obtain ⟨rfl, ghi⟩ := hp3
  have hP : va_P D cls0 [(hc, .inr (2, [.ref h1, .ref h2, .ref h3, .long xa, .long xb, .long xc, .long xd])), (h2, .inr (0, [.ref a2, .int (iZ (k2 : Int))])), (a2, .inl (cI, n2, .inl f2)), (h1, .inr (0, [.ref a1, .int (iZ (k1 : Int))])), (a1, .inl (cI, n1, .inl f1))] H := hP
  have hD : va_D A [(hc, .inr (2, [.ref h1, .ref h2, .ref h3, .long xa, .long xb, .long xc, .long xd])), (h2, .inr (0, [.ref a2, .int (iZ (k2 : Int))])), (a2, .inl (cI, n2, .inl f2)), (h1, .inr (0, [.ref a1, .int (iZ (k1 : Int))])), (a1, .inl (cI, n1, .inl f1))] := hD
  show W p l e R s m args below meth c H locs _ _ Q (F0 m 23 ls [.long (lZ (hi : Int))])
  rw [Nat.mod_eq_of_lt (by omega)] at ghi
  refine lv_lstore_n (lv' := [(2, .long (lZ (hi : Int))), (1, .int (iZ (fr : Int))), (0, .ref hc)]) hx hb d_Cd_foreseeSteps_23 rfl hl (by decide) rfl (fun ls hl => ?_)
  refine lv_aload_n hx hb d_Cd_foreseeSteps_24 rfl (lv_at hl 2 rfl) ?_
  refine va_get (D := D) (ci := 2) (v := .ref h2) (C := R_Cd) (T := F_Cd) (N := 7) hx hb hts i_Cd hown hK hP 0 rfl rfl 1 (by decide) (hts _ (big_in mw_107 rfl)) (fun _ h9 => h9) rfl d_Cd_foreseeSteps_25 ?_
  refine lv_iload_n hx hb d_Cd_foreseeSteps_28 rfl (lv_at hl 1 rfl) ?_
  refine cv (n := 1) (wr := [(hc, .inr (2, [.ref h1, .ref h2, .ref h3, .long xa, .long xb, .long xc, .long xd])), (h1, .inr (0, [.ref a1, .int (iZ (k1 : Int))])), (a1, .inl (cI, n1, .inl f1))]) (w1 := (fun (u : Nat) => [(h2, .inr (0, [.ref a2, .int (iZ (k2 : Int))])), (a2, .inl (cI, n2, .inl f2))])) (As := [.int (iZ (fr : Int))]) (rest := []) K hP hD hK hS hA hl.1 (c_Wh_bitsFrom l D h2 a2 k2 n2 f2 cI vy fr H.size r2 (by omega) (by omega) (by omega)) [1, 2] [0, 3, 4] [0] rfl rfl rfl (by decide) (by decide) (by decide) 0 rfl rfl (big_in mw_443 rfl) (big_in mw_6 rfl) (big_in mw_440 rfl) (big_in mw_441 rfl) (big_in mw_442 rfl) rfl rfl (by decide +kernel) ⟨by rw [hR]; exact Nat.le_of_ble_eq_true rfl, by rw [hR]; exact Nat.le_of_ble_eq_true rfl⟩ rfl (Nat.le_of_ble_eq_true rfl) d_Cd_foreseeSteps_29 ⟨by rw [hR]; exact Nat.le_of_ble_eq_true rfl, by rw [hR]; exact Nat.le_of_ble_eq_true rfl⟩ rfl (fun v u H locs hp4 hP hD hS _ => ?_)
  obtain ⟨lw, rfl⟩ : ∃ z, z = u := ⟨_, rfl⟩
  obtain ⟨rfl, glw⟩ := hp4
  have hP : va_P D cls0 [(hc, .inr (2, [.ref h1, .ref h2, .ref h3, .long xa, .long xb, .long xc, .long xd])), (h1, .inr (0, [.ref a1, .int (iZ (k1 : Int))])), (a1, .inl (cI, n1, .inl f1)), (h2, .inr (0, [.ref a2, .int (iZ (k2 : Int))])), (a2, .inl (cI, n2, .inl f2))] H := hP
  have hD : va_D A [(hc, .inr (2, [.ref h1, .ref h2, .ref h3, .long xa, .long xb, .long xc, .long xd])), (h1, .inr (0, [.ref a1, .int (iZ (k1 : Int))])), (a1, .inl (cI, n1, .inl f1)), (h2, .inr (0, [.ref a2, .int (iZ (k2 : Int))])), (a2, .inl (cI, n2, .inl f2))] := hD
  show W p l e R s m args below meth c H locs _ _ Q (F0 m 32 ls [.long (lZ (lw : Int))])
  rw [Nat.mod_eq_of_lt (by omega)] at glw
  refine lv_lstore (lv' := [(4, .long (lZ (lw : Int))), (2, .long (lZ (hi : Int))), (1, .int (iZ (fr : Int))), (0, .ref hc)]) hx hb d_Cd_foreseeSteps_32 hl (by decide) rfl (fun ls hl => ?_)
  refine lv_aload_n hx hb d_Cd_foreseeSteps_34 rfl (lv_at hl 3 rfl) ?_
  refine lv_lconst (v := lZ (1)) hx hb d_Cd_foreseeSteps_35 (by decide +kernel) ?_
  refine va_put (D := D) (ci := 2) (v := .long (lZ 1)) (ty := .long) (C := R_Cd) (T := F_Cd) (N := 7) hx hb hts i_Cd t_Cd t_Cd_ok n_Cd hown hK hP hD hS 0 rfl rfl 3 (by decide) (hts _ (big_in mw_109 rfl)) (fun _ h9 => h9) rfl (by decide +kernel) rfl rfl (Nat.le_of_ble_eq_true rfl) d_Cd_foreseeSteps_36 (fun H locs hP hD hS => ?_)
  have hP : va_P D cls0 [(hc, .inr (2, [.ref h1, .ref h2, .ref h3, .long (lZ 1), .long xb, .long xc, .long xd])), (h1, .inr (0, [.ref a1, .int (iZ (k1 : Int))])), (a1, .inl (cI, n1, .inl f1)), (h2, .inr (0, [.ref a2, .int (iZ (k2 : Int))])), (a2, .inl (cI, n2, .inl f2))] H := hP
  have hD : va_D A [(hc, .inr (2, [.ref h1, .ref h2, .ref h3, .long (lZ 1), .long xb, .long xc, .long xd])), (h1, .inr (0, [.ref a1, .int (iZ (k1 : Int))])), (a1, .inl (cI, n1, .inl f1)), (h2, .inr (0, [.ref a2, .int (iZ (k2 : Int))])), (a2, .inl (cI, n2, .inl f2))] := hD
  refine lv_aload_n hx hb d_Cd_foreseeSteps_39 rfl (lv_at hl 3 rfl) ?_
  refine lv_lconst (v := lZ (0)) hx hb d_Cd_foreseeSteps_40 (by decide +kernel) ?_
  refine va_put (D := D) (ci := 2) (v := .long (lZ 0)) (ty := .long) (C := R_Cd) (T := F_Cd) (N := 7) hx hb hts i_Cd t_Cd t_Cd_ok n_Cd hown hK hP hD hS 0 rfl rfl 4 (by decide) (hts _ (big_in mw_110 rfl)) (fun _ h9 => h9) rfl (by decide +kernel) rfl rfl (Nat.le_of_ble_eq_true rfl) d_Cd_foreseeSteps_41 (fun H locs hP hD hS => ?_)
  have hP : va_P D cls0 [(hc, .inr (2, [.ref h1, .ref h2, .ref h3, .long (lZ 1), .long (lZ 0), .long xc, .long xd])), (h1, .inr (0, [.ref a1, .int (iZ (k1 : Int))])), (a1, .inl (cI, n1, .inl f1)), (h2, .inr (0, [.ref a2, .int (iZ (k2 : Int))])), (a2, .inl (cI, n2, .inl f2))] H := hP
  have hD : va_D A [(hc, .inr (2, [.ref h1, .ref h2, .ref h3, .long (lZ 1), .long (lZ 0), .long xc, .long xd])), (h1, .inr (0, [.ref a1, .int (iZ (k1 : Int))])), (a1, .inl (cI, n1, .inl f1)), (h2, .inr (0, [.ref a2, .int (iZ (k2 : Int))])), (a2, .inl (cI, n2, .inl f2))] := hD
  refine lv_aload_n hx hb d_Cd_foreseeSteps_44 rfl (lv_at hl 3 rfl) ?_
  refine lv_lconst (v := lZ (0)) hx hb d_Cd_foreseeSteps_45 (by decide +kernel) ?_
  refine va_put (D := D) (ci := 2) (v := .long (lZ 0)) (ty := .long) (C := R_Cd) (T := F_Cd) (N := 7) hx hb hts i_Cd t_Cd t_Cd_ok n_Cd hown hK hP hD hS 0 rfl rfl 5 (by decide) (hts _ (big_in mw_111 rfl)) (fun _ h9 => h9) rfl (by decide +kernel) rfl rfl (Nat.le_of_ble_eq_true rfl) d_Cd_foreseeSteps_46 (fun H locs hP hD hS => ?_)
  have hP : va_P D cls0 [(hc, .inr (2, [.ref h1, .ref h2, .ref h3, .long (lZ 1), .long (lZ 0), .long (lZ 0), .long xd])), (h1, .inr (0, [.ref a1, .int (iZ (k1 : Int))])), (a1, .inl (cI, n1, .inl f1)), (h2, .inr (0, [.ref a2, .int (iZ (k2 : Int))])), (a2, .inl (cI, n2, .inl f2))] H := hP
  have hD : va_D A [(hc, .inr (2, [.ref h1, .ref h2, .ref h3, .long (lZ 1), .long (lZ 0), .long (lZ 0), .long xd])), (h1, .inr (0, [.ref a1, .int (iZ (k1 : Int))])), (a1, .inl (cI, n1, .inl f1)), (h2, .inr (0, [.ref a2, .int (iZ (k2 : Int))])), (a2, .inl (cI, n2, .inl f2))] := hD
  refine lv_aload_n hx hb d_Cd_foreseeSteps_49 rfl (lv_at hl 3 rfl) ?_
  refine lv_lconst (v := lZ (1)) hx hb d_Cd_foreseeSteps_50 (by decide +kernel) ?_
  refine va_put (D := D) (ci := 2) (v := .long (lZ 1)) (ty := .long) (C := R_Cd) (T := F_Cd) (N := 7) hx hb hts i_Cd t_Cd t_Cd_ok n_Cd hown hK hP hD hS 0 rfl rfl 6 (by decide) (hts _ (big_in mw_112 rfl)) (fun _ h9 => h9) rfl (by decide +kernel) rfl rfl (Nat.le_of_ble_eq_true rfl) d_Cd_foreseeSteps_51 (fun H locs hP hD hS => ?_)
  have hP : va_P D cls0 [(hc, .inr (2, [.ref h1, .ref h2, .ref h3, .long (lZ 1), .long (lZ 0), .long (lZ 0), .long (lZ 1)])), (h1, .inr (0, [.ref a1, .int (iZ (k1 : Int))])), (a1, .inl (cI, n1, .inl f1)), (h2, .inr (0, [.ref a2, .int (iZ (k2 : Int))])), (a2, .inl (cI, n2, .inl f2))] H := hP
  have hD : va_D A [(hc, .inr (2, [.ref h1, .ref h2, .ref h3, .long (lZ 1), .long (lZ 0), .long (lZ 0), .long (lZ 1)])), (h1, .inr (0, [.ref a1, .int (iZ (k1 : Int))])), (a1, .inl (cI, n1, .inl f1)), (h2, .inr (0, [.ref a2, .int (iZ (k2 : Int))])), (a2, .inl (cI, n2, .inl f2))] := hD
  refine lv_iconst (v := iZ (0)) hx hb d_Cd_foreseeSteps_54 (by decide +kernel) ?_
  refine lv_istore (lv' := [(6, .int (iZ 0)), (4, .long (lZ (lw : Int))), (2, .long (lZ (hi : Int))), (1, .int (iZ (fr : Int))), (0, .ref hc)]) hx hb d_Cd_foreseeSteps_55 hl (by decide) rfl (fun ls hl => ?_)
  have L57 : ∀ (N : Nat) (i : Nat) (ma : Int) (mb : Int) (mc : Int) (md : Int) (hg : Int) (lo : Int) (ex : Nat) (ey : Nat) (H : Heap) (locs : List Loc) (ls : Array Slot), 64 - i < N → (i ≤ 64) → (le_I vx vy (2 ^ fr) ma mb mc md hg lo ex ey) → va_P D cls0 [(hc, .inr (2, [.ref h1, .ref h2, .ref h3, .long (lZ ma), .long (lZ mb), .long (lZ mc), .long (lZ md)])), (h1, .inr (0, [.ref a1, .int (iZ (k1 : Int))])), (a1, .inl (cI, n1, .inl f1)), (h2, .inr (0, [.ref a2, .int (iZ (k2 : Int))])), (a2, .inl (cI, n2, .inl f2))] H → va_D A [(hc, .inr (2, [.ref h1, .ref h2, .ref h3, .long (lZ ma), .long (lZ mb), .long (lZ mc), .long (lZ md)])), (h1, .inr (0, [.ref a1, .int (iZ (k1 : Int))])), (a1, .inl (cI, n1, .inl f1)), (h2, .inr (0, [.ref a2, .int (iZ (k2 : Int))])), (a2, .inl (cI, n2, .inl f2))] → va_S A s.heap H locs → lv_has ls 15 [(0, .ref hc), (2, .long (lZ hg)), (4, .long (lZ lo)), (6, .int (iZ (i : Int)))] → W p l e R s m args below meth c H locs 0 0 Q (F0 m 57 ls []) := by
    intro N
    induction N with
    | zero => intro i ma mb mc md hg lo ex ey H locs ls hN; exact absurd hN (Nat.not_lt_zero _)
    | succ N ih =>
      intro i ma mb mc md hg lo ex ey H locs ls hN ii il hP hD hS hl
      have hbd := le_bnd hPp il bX
      obtain ⟨-, -, -, b0, ⟨bma, bmb, bmc, bmd⟩, -⟩ := id il
      refine lv_iload hx hb d_Cd_foreseeSteps_57 (lv_at hl 3 rfl) ?_
      refine lv_bipush (v := iZ (64)) hx hb d_Cd_foreseeSteps_59 (by decide +kernel) ?_
      refine zz_icmp_ge (tgt := 238) hx hb d_Cd_foreseeSteps_61 (by decide) (by omega) (by omega) (fun c61 => ?_) (fun c61 => ?_)
      · have hP9 : va_P D cls0 [(hc, .inr (2, [.ref h1, .ref h2, .ref h3, .long (lZ ma), .long (lZ mb), .long (lZ mc), .long (lZ md)])), (h1, .inr (0, [.ref a1, .int (iZ (k1 : Int))])), (a1, .inl (cI, n1, .inl f1)), (h2, .inr (0, [.ref a2, .int (iZ (k2 : Int))])), (a2, .inl (cI, n2, .inl f2))] H := hP.sub [0, 1, 2, 3, 4] rfl
        have hD9 : va_D A [(hc, .inr (2, [.ref h1, .ref h2, .ref h3, .long (lZ ma), .long (lZ mb), .long (lZ mc), .long (lZ md)])), (h1, .inr (0, [.ref a1, .int (iZ (k1 : Int))])), (a1, .inl (cI, n1, .inl f1)), (h2, .inr (0, [.ref a2, .int (iZ (k2 : Int))])), (a2, .inl (cI, n2, .inl f2))] := hD.sub [0, 1, 2, 3, 4] (by decide) rfl
        rw [hQ, ← hAe]
        refine r_v K (ma, mb, mc, md, ex, ey) hS d_Cd_foreseeSteps_238 ?_ (fun t ht hv => ?_)
        · try dsimp only
          exact ⟨rfl, 2 ^ fr, hg, lo, hPp, il⟩
        · exact ⟨by rw [ht]; exact hP9, va_K.moved hv hK, by rw [← hAe]; exact hD9⟩
      · refine lv_lload hx hb d_Cd_foreseeSteps_64 (lv_at hl 2 rfl) ?_
        refine lv_aload_n hx hb d_Cd_foreseeSteps_66 rfl (lv_at hl 0 rfl) ?_
        refine va_get (D := D) (ci := 2) (v := .long (lZ mc)) (C := R_Cd) (T := F_Cd) (N := 7) hx hb hts i_Cd hown hK hP 0 rfl rfl 5 (by decide) (hts _ (big_in mw_111 rfl)) (fun _ h9 => h9) rfl d_Cd_foreseeSteps_67 ?_
        refine zz_ladd hx hb d_Cd_foreseeSteps_70 ?_
        refine lv_lconst (v := lZ (0)) hx hb d_Cd_foreseeSteps_71 (by decide +kernel) ?_
        refine zz_lcmp_le (tgt := 88) hx hb d_Cd_foreseeSteps_72 d_Cd_foreseeSteps_73 (by decide) (by omega) (by omega) (fun c72 => ?_) (fun c72 => ?_)
        · have hP9 : va_P D cls0 [(hc, .inr (2, [.ref h1, .ref h2, .ref h3, .long (lZ ma), .long (lZ mb), .long (lZ mc), .long (lZ md)])), (h1, .inr (0, [.ref a1, .int (iZ (k1 : Int))])), (a1, .inl (cI, n1, .inl f1)), (h2, .inr (0, [.ref a2, .int (iZ (k2 : Int))])), (a2, .inl (cI, n2, .inl f2))] H := hP.sub [0, 1, 2, 3, 4] rfl
          have hD9 : va_D A [(hc, .inr (2, [.ref h1, .ref h2, .ref h3, .long (lZ ma), .long (lZ mb), .long (lZ mc), .long (lZ md)])), (h1, .inr (0, [.ref a1, .int (iZ (k1 : Int))])), (a1, .inl (cI, n1, .inl f1)), (h2, .inr (0, [.ref a2, .int (iZ (k2 : Int))])), (a2, .inl (cI, n2, .inl f2))] := hD.sub [0, 1, 2, 3, 4] (by decide) rfl
          rw [hQ, ← hAe]
          refine r_v K (ma, mb, mc, md, ex, ey) hS d_Cd_foreseeSteps_88 ?_ (fun t ht hv => ?_)
          · try dsimp only
            exact ⟨rfl, 2 ^ fr, hg, lo, hPp, il⟩
          · exact ⟨by rw [ht]; exact hP9, va_K.moved hv hK, by rw [← hAe]; exact hD9⟩
        · refine lv_lload hx hb d_Cd_foreseeSteps_76 (lv_at hl 2 rfl) ?_
          refine lv_aload_n hx hb d_Cd_foreseeSteps_78 rfl (lv_at hl 0 rfl) ?_
          refine va_get (D := D) (ci := 2) (v := .long (lZ md)) (C := R_Cd) (T := F_Cd) (N := 7) hx hb hts i_Cd hown hK hP 0 rfl rfl 6 (by decide) (hts _ (big_in mw_112 rfl)) (fun _ h9 => h9) rfl d_Cd_foreseeSteps_79 ?_
          refine zz_ladd hx hb d_Cd_foreseeSteps_82 ?_
          refine lv_lconst (v := lZ (0)) hx hb d_Cd_foreseeSteps_83 (by decide +kernel) ?_
          refine zz_lcmp_gt (tgt := 89) hx hb d_Cd_foreseeSteps_84 d_Cd_foreseeSteps_85 (by decide) (by omega) (by omega) (fun c84 => ?_) (fun c84 => ?_)
          · refine lv_lload_n hx hb d_Cd_foreseeSteps_89 rfl (lv_at hl 1 rfl) ?_
            refine lv_aload_n hx hb d_Cd_foreseeSteps_90 rfl (lv_at hl 0 rfl) ?_
            refine va_get (D := D) (ci := 2) (v := .long (lZ ma)) (C := R_Cd) (T := F_Cd) (N := 7) hx hb hts i_Cd hown hK hP 0 rfl rfl 3 (by decide) (hts _ (big_in mw_109 rfl)) (fun _ h9 => h9) rfl d_Cd_foreseeSteps_91 ?_
            refine zz_ladd hx hb d_Cd_foreseeSteps_94 ?_
            refine lv_lload hx hb d_Cd_foreseeSteps_95 (lv_at hl 2 rfl) ?_
            refine lv_aload_n hx hb d_Cd_foreseeSteps_97 rfl (lv_at hl 0 rfl) ?_
            refine va_get (D := D) (ci := 2) (v := .long (lZ mc)) (C := R_Cd) (T := F_Cd) (N := 7) hx hb hts i_Cd hown hK hP 0 rfl rfl 5 (by decide) (hts _ (big_in mw_111 rfl)) (fun _ h9 => h9) rfl d_Cd_foreseeSteps_98 ?_
            refine zz_ladd hx hb d_Cd_foreseeSteps_101 ?_
            refine zz_ldiv hx hb d_Cd_foreseeSteps_102 (by omega) (by omega) ?_
            obtain ⟨t1, ht1⟩ : ∃ z : Int, z = (hg + ma) / (lo + mc) := ⟨_, rfl⟩
            rw [show ((hg + ma) / (lo + mc) : Int) = t1 by rw [ht1]]
            have bt1 : 0 ≤ t1 ∧ t1 ≤ hg + ma := by rw [ht1]; exact ⟨Int.ediv_nonneg (by omega) (by omega), Int.ediv_le_self _ (by omega)⟩
            refine lv_lstore (lv' := [(7, .long (lZ t1)), (0, .ref hc), (2, .long (lZ hg)), (4, .long (lZ lo)), (6, .int (iZ (i : Int)))]) hx hb d_Cd_foreseeSteps_103 hl (by decide) rfl (fun ls hl => ?_)
            refine lv_lload hx hb d_Cd_foreseeSteps_105 (lv_at hl 0 rfl) ?_
            refine lv_lload_n hx hb d_Cd_foreseeSteps_107 rfl (lv_at hl 2 rfl) ?_
            refine lv_aload_n hx hb d_Cd_foreseeSteps_108 rfl (lv_at hl 1 rfl) ?_
            refine va_get (D := D) (ci := 2) (v := .long (lZ mb)) (C := R_Cd) (T := F_Cd) (N := 7) hx hb hts i_Cd hown hK hP 0 rfl rfl 4 (by decide) (hts _ (big_in mw_110 rfl)) (fun _ h9 => h9) rfl d_Cd_foreseeSteps_109 ?_
            refine zz_ladd hx hb d_Cd_foreseeSteps_112 ?_
            refine lv_lload hx hb d_Cd_foreseeSteps_113 (lv_at hl 3 rfl) ?_
            refine lv_aload_n hx hb d_Cd_foreseeSteps_115 rfl (lv_at hl 1 rfl) ?_
            refine va_get (D := D) (ci := 2) (v := .long (lZ md)) (C := R_Cd) (T := F_Cd) (N := 7) hx hb hts i_Cd hown hK hP 0 rfl rfl 6 (by decide) (hts _ (big_in mw_112 rfl)) (fun _ h9 => h9) rfl d_Cd_foreseeSteps_116 ?_
            refine zz_ladd hx hb d_Cd_foreseeSteps_119 ?_
            refine zz_ldiv hx hb d_Cd_foreseeSteps_120 (by omega) (by omega) ?_
            obtain ⟨t2, ht2⟩ : ∃ z : Int, z = (hg + mb) / (lo + md) := ⟨_, rfl⟩
            rw [show ((hg + mb) / (lo + md) : Int) = t2 by rw [ht2]]
            have bt2 : 0 ≤ t2 ∧ t2 ≤ hg + mb := by rw [ht2]; exact ⟨Int.ediv_nonneg (by omega) (by omega), Int.ediv_le_self _ (by omega)⟩
            refine zz_lcmp_ne (tgt := 134) hx hb d_Cd_foreseeSteps_121 d_Cd_foreseeSteps_122 (by decide) (by omega) (by omega) (fun c121 => ?_) (fun c121 => ?_)
            · have hP9 : va_P D cls0 [(hc, .inr (2, [.ref h1, .ref h2, .ref h3, .long (lZ ma), .long (lZ mb), .long (lZ mc), .long (lZ md)])), (h1, .inr (0, [.ref a1, .int (iZ (k1 : Int))])), (a1, .inl (cI, n1, .inl f1)), (h2, .inr (0, [.ref a2, .int (iZ (k2 : Int))])), (a2, .inl (cI, n2, .inl f2))] H := hP.sub [0, 1, 2, 3, 4] rfl
              have hD9 : va_D A [(hc, .inr (2, [.ref h1, .ref h2, .ref h3, .long (lZ ma), .long (lZ mb), .long (lZ mc), .long (lZ md)])), (h1, .inr (0, [.ref a1, .int (iZ (k1 : Int))])), (a1, .inl (cI, n1, .inl f1)), (h2, .inr (0, [.ref a2, .int (iZ (k2 : Int))])), (a2, .inl (cI, n2, .inl f2))] := hD.sub [0, 1, 2, 3, 4] (by decide) rfl
              rw [hQ, ← hAe]
              refine r_v K (ma, mb, mc, md, ex, ey) hS d_Cd_foreseeSteps_134 ?_ (fun t ht hv => ?_)
              · try dsimp only
                exact ⟨rfl, 2 ^ fr, hg, lo, hPp, il⟩
              · exact ⟨by rw [ht]; exact hP9, va_K.moved hv hK, by rw [← hAe]; exact hD9⟩
            · refine lv_lload hx hb d_Cd_foreseeSteps_125 (lv_at hl 0 rfl) ?_
              refine lv_ldc2 (v := lZ (1073741824)) hx hb hown (hts _ (big_in mw_448 rfl)) d_Cd_foreseeSteps_127 ?_
              refine zz_lcmp_le (tgt := 135) hx hb d_Cd_foreseeSteps_130 d_Cd_foreseeSteps_131 (by decide) (by omega) (by omega) (fun c130 => ?_) (fun c130 => ?_)
              · have p1 := mulS (t := t1) (by omega) bmc
                have p2 := mulS (t := t1) (by omega) bmd
                refine lv_aload_n hx hb d_Cd_foreseeSteps_135 rfl (lv_at hl 1 rfl) ?_
                refine va_get (D := D) (ci := 2) (v := .long (lZ ma)) (C := R_Cd) (T := F_Cd) (N := 7) hx hb hts i_Cd hown hK hP 0 rfl rfl 3 (by decide) (hts _ (big_in mw_109 rfl)) (fun _ h9 => h9) rfl d_Cd_foreseeSteps_136 ?_
                refine lv_lload hx hb d_Cd_foreseeSteps_139 (lv_at hl 0 rfl) ?_
                refine lv_aload_n hx hb d_Cd_foreseeSteps_141 rfl (lv_at hl 1 rfl) ?_
                refine va_get (D := D) (ci := 2) (v := .long (lZ mc)) (C := R_Cd) (T := F_Cd) (N := 7) hx hb hts i_Cd hown hK hP 0 rfl rfl 5 (by decide) (hts _ (big_in mw_111 rfl)) (fun _ h9 => h9) rfl d_Cd_foreseeSteps_142 ?_
                refine zz_lmul hx hb d_Cd_foreseeSteps_145 ?_
                refine zz_lsub hx hb d_Cd_foreseeSteps_146 ?_
                refine lv_lstore (lv' := [(9, .long (lZ (ma - (t1 * mc)))), (7, .long (lZ t1)), (0, .ref hc), (2, .long (lZ hg)), (4, .long (lZ lo)), (6, .int (iZ (i : Int)))]) hx hb d_Cd_foreseeSteps_147 hl (by decide) rfl (fun ls hl => ?_)
                refine lv_aload_n hx hb d_Cd_foreseeSteps_149 rfl (lv_at hl 2 rfl) ?_
                refine va_get (D := D) (ci := 2) (v := .long (lZ mb)) (C := R_Cd) (T := F_Cd) (N := 7) hx hb hts i_Cd hown hK hP 0 rfl rfl 4 (by decide) (hts _ (big_in mw_110 rfl)) (fun _ h9 => h9) rfl d_Cd_foreseeSteps_150 ?_
                refine lv_lload hx hb d_Cd_foreseeSteps_153 (lv_at hl 1 rfl) ?_
                refine lv_aload_n hx hb d_Cd_foreseeSteps_155 rfl (lv_at hl 2 rfl) ?_
                refine va_get (D := D) (ci := 2) (v := .long (lZ md)) (C := R_Cd) (T := F_Cd) (N := 7) hx hb hts i_Cd hown hK hP 0 rfl rfl 6 (by decide) (hts _ (big_in mw_112 rfl)) (fun _ h9 => h9) rfl d_Cd_foreseeSteps_156 ?_
                refine zz_lmul hx hb d_Cd_foreseeSteps_159 ?_
                refine zz_lsub hx hb d_Cd_foreseeSteps_160 ?_
                refine lv_lstore (lv' := [(11, .long (lZ (mb - (t1 * md)))), (9, .long (lZ (ma - (t1 * mc)))), (7, .long (lZ t1)), (0, .ref hc), (2, .long (lZ hg)), (4, .long (lZ lo)), (6, .int (iZ (i : Int)))]) hx hb d_Cd_foreseeSteps_161 hl (by decide) rfl (fun ls hl => ?_)
                refine lv_lload hx hb d_Cd_foreseeSteps_163 (lv_at hl 1 rfl) ?_
                refine cs (n := 1) (wr := [(hc, .inr (2, [.ref h1, .ref h2, .ref h3, .long (lZ ma), .long (lZ mb), .long (lZ mc), .long (lZ md)])), (h1, .inr (0, [.ref a1, .int (iZ (k1 : Int))])), (a1, .inl (cI, n1, .inl f1)), (h2, .inr (0, [.ref a2, .int (iZ (k2 : Int))])), (a2, .inl (cI, n2, .inl f2))]) (w1 := (fun (u : Int) => [])) (As := [.long (lZ (ma - (t1 * mc)))]) (rest := []) K hP hD hK hS hA hl.1 (c_jMath_abs_JJ l D (ma - (t1 * mc)) H.size (by omega)) [] [0, 1, 2, 3, 4] [] rfl rfl rfl (by decide) (by decide) (by decide) (big_in mw_377 rfl) (big_in mw_3 rfl) (big_in mw_449 rfl) (big_in mw_376 rfl) rfl rfl (by decide +kernel) ⟨by rw [hR]; exact Nat.le_of_ble_eq_true rfl, by rw [hR]; exact Nat.le_of_ble_eq_true rfl⟩ rfl (Nat.le_of_ble_eq_true rfl) d_Cd_foreseeSteps_165 ⟨by rw [hR]; exact Nat.le_of_ble_eq_true rfl, by rw [hR]; exact Nat.le_of_ble_eq_true rfl⟩ rfl (fun v u H locs hp5 hP hD hS _ => ?_)
                obtain ⟨ra, rfl⟩ : ∃ z, z = u := ⟨_, rfl⟩
                obtain ⟨rfl, qra⟩ := hp5
                have hP : va_P D cls0 [(hc, .inr (2, [.ref h1, .ref h2, .ref h3, .long (lZ ma), .long (lZ mb), .long (lZ mc), .long (lZ md)])), (h1, .inr (0, [.ref a1, .int (iZ (k1 : Int))])), (a1, .inl (cI, n1, .inl f1)), (h2, .inr (0, [.ref a2, .int (iZ (k2 : Int))])), (a2, .inl (cI, n2, .inl f2))] H := hP
                have hD : va_D A [(hc, .inr (2, [.ref h1, .ref h2, .ref h3, .long (lZ ma), .long (lZ mb), .long (lZ mc), .long (lZ md)])), (h1, .inr (0, [.ref a1, .int (iZ (k1 : Int))])), (a1, .inl (cI, n1, .inl f1)), (h2, .inr (0, [.ref a2, .int (iZ (k2 : Int))])), (a2, .inl (cI, n2, .inl f2))] := hD
                show W p l e R s m args below meth c H locs _ _ Q (F0 m 168 ls [.long (lZ ra)])
                have gra : (ra = ma - t1 * mc ∨ ra = -(ma - t1 * mc)) ∧ 0 ≤ ra := by rw [qra]; split <;> omega
                clear qra
                refine lv_ldc2 (v := lZ (1073741824)) hx hb hown (hts _ (big_in mw_448 rfl)) d_Cd_foreseeSteps_168 ?_
                refine zz_lcmp_gt (tgt := 187) hx hb d_Cd_foreseeSteps_171 d_Cd_foreseeSteps_172 (by decide) (by omega) (by omega) (fun c171 => ?_) (fun c171 => ?_)
                · have hP9 : va_P D cls0 [(hc, .inr (2, [.ref h1, .ref h2, .ref h3, .long (lZ ma), .long (lZ mb), .long (lZ mc), .long (lZ md)])), (h1, .inr (0, [.ref a1, .int (iZ (k1 : Int))])), (a1, .inl (cI, n1, .inl f1)), (h2, .inr (0, [.ref a2, .int (iZ (k2 : Int))])), (a2, .inl (cI, n2, .inl f2))] H := hP.sub [0, 1, 2, 3, 4] rfl
                  have hD9 : va_D A [(hc, .inr (2, [.ref h1, .ref h2, .ref h3, .long (lZ ma), .long (lZ mb), .long (lZ mc), .long (lZ md)])), (h1, .inr (0, [.ref a1, .int (iZ (k1 : Int))])), (a1, .inl (cI, n1, .inl f1)), (h2, .inr (0, [.ref a2, .int (iZ (k2 : Int))])), (a2, .inl (cI, n2, .inl f2))] := hD.sub [0, 1, 2, 3, 4] (by decide) rfl
                  rw [hQ, ← hAe]
                  refine r_v K (ma, mb, mc, md, ex, ey) hS d_Cd_foreseeSteps_187 ?_ (fun t ht hv => ?_)
                  · try dsimp only
                    exact ⟨rfl, 2 ^ fr, hg, lo, hPp, il⟩
                  · exact ⟨by rw [ht]; exact hP9, va_K.moved hv hK, by rw [← hAe]; exact hD9⟩
                · refine lv_lload hx hb d_Cd_foreseeSteps_175 (lv_at hl 0 rfl) ?_
                  refine cs (n := 1) (wr := [(hc, .inr (2, [.ref h1, .ref h2, .ref h3, .long (lZ ma), .long (lZ mb), .long (lZ mc), .long (lZ md)])), (h1, .inr (0, [.ref a1, .int (iZ (k1 : Int))])), (a1, .inl (cI, n1, .inl f1)), (h2, .inr (0, [.ref a2, .int (iZ (k2 : Int))])), (a2, .inl (cI, n2, .inl f2))]) (w1 := (fun (u : Int) => [])) (As := [.long (lZ (mb - (t1 * md)))]) (rest := []) K hP hD hK hS hA hl.1 (c_jMath_abs_JJ l D (mb - (t1 * md)) H.size (by omega)) [] [0, 1, 2, 3, 4] [] rfl rfl rfl (by decide) (by decide) (by decide) (big_in mw_377 rfl) (big_in mw_3 rfl) (big_in mw_449 rfl) (big_in mw_376 rfl) rfl rfl (by decide +kernel) ⟨by rw [hR]; exact Nat.le_of_ble_eq_true rfl, by rw [hR]; exact Nat.le_of_ble_eq_true rfl⟩ rfl (Nat.le_of_ble_eq_true rfl) d_Cd_foreseeSteps_177 ⟨by rw [hR]; exact Nat.le_of_ble_eq_true rfl, by rw [hR]; exact Nat.le_of_ble_eq_true rfl⟩ rfl (fun v u H locs hp6 hP hD hS _ => ?_)
                  obtain ⟨rd, rfl⟩ : ∃ z, z = u := ⟨_, rfl⟩
                  obtain ⟨rfl, qrd⟩ := hp6
                  have hP : va_P D cls0 [(hc, .inr (2, [.ref h1, .ref h2, .ref h3, .long (lZ ma), .long (lZ mb), .long (lZ mc), .long (lZ md)])), (h1, .inr (0, [.ref a1, .int (iZ (k1 : Int))])), (a1, .inl (cI, n1, .inl f1)), (h2, .inr (0, [.ref a2, .int (iZ (k2 : Int))])), (a2, .inl (cI, n2, .inl f2))] H := hP
                  have hD : va_D A [(hc, .inr (2, [.ref h1, .ref h2, .ref h3, .long (lZ ma), .long (lZ mb), .long (lZ mc), .long (lZ md)])), (h1, .inr (0, [.ref a1, .int (iZ (k1 : Int))])), (a1, .inl (cI, n1, .inl f1)), (h2, .inr (0, [.ref a2, .int (iZ (k2 : Int))])), (a2, .inl (cI, n2, .inl f2))] := hD
                  show W p l e R s m args below meth c H locs _ _ Q (F0 m 180 ls [.long (lZ rd)])
                  have grd : (rd = mb - t1 * md ∨ rd = -(mb - t1 * md)) ∧ 0 ≤ rd := by rw [qrd]; split <;> omega
                  clear qrd
                  refine lv_ldc2 (v := lZ (1073741824)) hx hb hown (hts _ (big_in mw_448 rfl)) d_Cd_foreseeSteps_180 ?_
                  refine zz_lcmp_le (tgt := 188) hx hb d_Cd_foreseeSteps_183 d_Cd_foreseeSteps_184 (by decide) (by omega) (by omega) (fun c183 => ?_) (fun c183 => ?_)
                  · refine lv_aload_n hx hb d_Cd_foreseeSteps_188 rfl (lv_at hl 3 rfl) ?_
                    refine lv_aload_n hx hb d_Cd_foreseeSteps_189 rfl (lv_at hl 3 rfl) ?_
                    refine va_get (D := D) (ci := 2) (v := .long (lZ mc)) (C := R_Cd) (T := F_Cd) (N := 7) hx hb hts i_Cd hown hK hP 0 rfl rfl 5 (by decide) (hts _ (big_in mw_111 rfl)) (fun _ h9 => h9) rfl d_Cd_foreseeSteps_190 ?_
                    refine va_put (D := D) (ci := 2) (v := .long (lZ mc)) (ty := .long) (C := R_Cd) (T := F_Cd) (N := 7) hx hb hts i_Cd t_Cd t_Cd_ok n_Cd hown hK hP hD hS 0 rfl rfl 3 (by decide) (hts _ (big_in mw_109 rfl)) (fun _ h9 => h9) rfl (by decide +kernel) rfl rfl (Nat.le_of_ble_eq_true rfl) d_Cd_foreseeSteps_193 (fun H locs hP hD hS => ?_)
                    have hP : va_P D cls0 [(hc, .inr (2, [.ref h1, .ref h2, .ref h3, .long (lZ mc), .long (lZ mb), .long (lZ mc), .long (lZ md)])), (h1, .inr (0, [.ref a1, .int (iZ (k1 : Int))])), (a1, .inl (cI, n1, .inl f1)), (h2, .inr (0, [.ref a2, .int (iZ (k2 : Int))])), (a2, .inl (cI, n2, .inl f2))] H := hP
                    have hD : va_D A [(hc, .inr (2, [.ref h1, .ref h2, .ref h3, .long (lZ mc), .long (lZ mb), .long (lZ mc), .long (lZ md)])), (h1, .inr (0, [.ref a1, .int (iZ (k1 : Int))])), (a1, .inl (cI, n1, .inl f1)), (h2, .inr (0, [.ref a2, .int (iZ (k2 : Int))])), (a2, .inl (cI, n2, .inl f2))] := hD
                    refine lv_aload_n hx hb d_Cd_foreseeSteps_196 rfl (lv_at hl 3 rfl) ?_
                    refine lv_aload_n hx hb d_Cd_foreseeSteps_197 rfl (lv_at hl 3 rfl) ?_
                    refine va_get (D := D) (ci := 2) (v := .long (lZ md)) (C := R_Cd) (T := F_Cd) (N := 7) hx hb hts i_Cd hown hK hP 0 rfl rfl 6 (by decide) (hts _ (big_in mw_112 rfl)) (fun _ h9 => h9) rfl d_Cd_foreseeSteps_198 ?_
                    refine va_put (D := D) (ci := 2) (v := .long (lZ md)) (ty := .long) (C := R_Cd) (T := F_Cd) (N := 7) hx hb hts i_Cd t_Cd t_Cd_ok n_Cd hown hK hP hD hS 0 rfl rfl 4 (by decide) (hts _ (big_in mw_110 rfl)) (fun _ h9 => h9) rfl (by decide +kernel) rfl rfl (Nat.le_of_ble_eq_true rfl) d_Cd_foreseeSteps_201 (fun H locs hP hD hS => ?_)
                    have hP : va_P D cls0 [(hc, .inr (2, [.ref h1, .ref h2, .ref h3, .long (lZ mc), .long (lZ md), .long (lZ mc), .long (lZ md)])), (h1, .inr (0, [.ref a1, .int (iZ (k1 : Int))])), (a1, .inl (cI, n1, .inl f1)), (h2, .inr (0, [.ref a2, .int (iZ (k2 : Int))])), (a2, .inl (cI, n2, .inl f2))] H := hP
                    have hD : va_D A [(hc, .inr (2, [.ref h1, .ref h2, .ref h3, .long (lZ mc), .long (lZ md), .long (lZ mc), .long (lZ md)])), (h1, .inr (0, [.ref a1, .int (iZ (k1 : Int))])), (a1, .inl (cI, n1, .inl f1)), (h2, .inr (0, [.ref a2, .int (iZ (k2 : Int))])), (a2, .inl (cI, n2, .inl f2))] := hD
                    refine lv_aload_n hx hb d_Cd_foreseeSteps_204 rfl (lv_at hl 3 rfl) ?_
                    refine lv_lload hx hb d_Cd_foreseeSteps_205 (lv_at hl 1 rfl) ?_
                    refine va_put (D := D) (ci := 2) (v := .long (lZ (ma - (t1 * mc)))) (ty := .long) (C := R_Cd) (T := F_Cd) (N := 7) hx hb hts i_Cd t_Cd t_Cd_ok n_Cd hown hK hP hD hS 0 rfl rfl 5 (by decide) (hts _ (big_in mw_111 rfl)) (fun _ h9 => h9) rfl (by decide +kernel) rfl rfl (Nat.le_of_ble_eq_true rfl) d_Cd_foreseeSteps_207 (fun H locs hP hD hS => ?_)
                    have hP : va_P D cls0 [(hc, .inr (2, [.ref h1, .ref h2, .ref h3, .long (lZ mc), .long (lZ md), .long (lZ (ma - (t1 * mc))), .long (lZ md)])), (h1, .inr (0, [.ref a1, .int (iZ (k1 : Int))])), (a1, .inl (cI, n1, .inl f1)), (h2, .inr (0, [.ref a2, .int (iZ (k2 : Int))])), (a2, .inl (cI, n2, .inl f2))] H := hP
                    have hD : va_D A [(hc, .inr (2, [.ref h1, .ref h2, .ref h3, .long (lZ mc), .long (lZ md), .long (lZ (ma - (t1 * mc))), .long (lZ md)])), (h1, .inr (0, [.ref a1, .int (iZ (k1 : Int))])), (a1, .inl (cI, n1, .inl f1)), (h2, .inr (0, [.ref a2, .int (iZ (k2 : Int))])), (a2, .inl (cI, n2, .inl f2))] := hD
                    refine lv_aload_n hx hb d_Cd_foreseeSteps_210 rfl (lv_at hl 3 rfl) ?_
                    refine lv_lload hx hb d_Cd_foreseeSteps_211 (lv_at hl 0 rfl) ?_
                    refine va_put (D := D) (ci := 2) (v := .long (lZ (mb - (t1 * md)))) (ty := .long) (C := R_Cd) (T := F_Cd) (N := 7) hx hb hts i_Cd t_Cd t_Cd_ok n_Cd hown hK hP hD hS 0 rfl rfl 6 (by decide) (hts _ (big_in mw_112 rfl)) (fun _ h9 => h9) rfl (by decide +kernel) rfl rfl (Nat.le_of_ble_eq_true rfl) d_Cd_foreseeSteps_213 (fun H locs hP hD hS => ?_)
                    have hP : va_P D cls0 [(hc, .inr (2, [.ref h1, .ref h2, .ref h3, .long (lZ mc), .long (lZ md), .long (lZ (ma - (t1 * mc))), .long (lZ (mb - (t1 * md)))])), (h1, .inr (0, [.ref a1, .int (iZ (k1 : Int))])), (a1, .inl (cI, n1, .inl f1)), (h2, .inr (0, [.ref a2, .int (iZ (k2 : Int))])), (a2, .inl (cI, n2, .inl f2))] H := hP
                    have hD : va_D A [(hc, .inr (2, [.ref h1, .ref h2, .ref h3, .long (lZ mc), .long (lZ md), .long (lZ (ma - (t1 * mc))), .long (lZ (mb - (t1 * md)))])), (h1, .inr (0, [.ref a1, .int (iZ (k1 : Int))])), (a1, .inl (cI, n1, .inl f1)), (h2, .inr (0, [.ref a2, .int (iZ (k2 : Int))])), (a2, .inl (cI, n2, .inl f2))] := hD
                    refine lv_lload_n hx hb d_Cd_foreseeSteps_216 rfl (lv_at hl 4 rfl) ?_
                    refine lv_lload hx hb d_Cd_foreseeSteps_217 (lv_at hl 2 rfl) ?_
                    refine lv_lload hx hb d_Cd_foreseeSteps_219 (lv_at hl 5 rfl) ?_
                    refine zz_lmul hx hb d_Cd_foreseeSteps_221 ?_
                    refine zz_lsub hx hb d_Cd_foreseeSteps_222 ?_
                    refine lv_lstore (lv' := [(13, .long (lZ (hg - (t1 * lo)))), (11, .long (lZ (mb - (t1 * md)))), (9, .long (lZ (ma - (t1 * mc)))), (7, .long (lZ t1)), (0, .ref hc), (2, .long (lZ hg)), (4, .long (lZ lo)), (6, .int (iZ (i : Int)))]) hx hb d_Cd_foreseeSteps_223 hl (by decide) rfl (fun ls hl => ?_)
                    refine lv_lload hx hb d_Cd_foreseeSteps_225 (lv_at hl 6 rfl) ?_
                    refine lv_lstore_n (lv' := [(2, .long (lZ lo)), (13, .long (lZ (hg - (t1 * lo)))), (11, .long (lZ (mb - (t1 * md)))), (9, .long (lZ (ma - (t1 * mc)))), (7, .long (lZ t1)), (0, .ref hc), (4, .long (lZ lo)), (6, .int (iZ (i : Int)))]) hx hb d_Cd_foreseeSteps_227 rfl hl (by decide) rfl (fun ls hl => ?_)
                    refine lv_lload hx hb d_Cd_foreseeSteps_228 (lv_at hl 1 rfl) ?_
                    refine lv_lstore (lv' := [(4, .long (lZ (hg - (t1 * lo)))), (2, .long (lZ lo)), (13, .long (lZ (hg - (t1 * lo)))), (11, .long (lZ (mb - (t1 * md)))), (9, .long (lZ (ma - (t1 * mc)))), (7, .long (lZ t1)), (0, .ref hc), (6, .int (iZ (i : Int)))]) hx hb d_Cd_foreseeSteps_230 hl (by decide) rfl (fun ls hl => ?_)
                    refine lv_iinc (v := iZ ((i : Int) + 1)) (lv' := [(6, .int (iZ ((i : Int) + 1))), (4, .long (lZ (hg - (t1 * lo)))), (2, .long (lZ lo)), (13, .long (lZ (hg - (t1 * lo)))), (11, .long (lZ (mb - (t1 * md)))), (9, .long (lZ (ma - (t1 * mc)))), (7, .long (lZ t1)), (0, .ref hc)]) hx hb d_Cd_foreseeSteps_232 hl (k := 7) rfl (iZ_add _ _) (by decide) rfl (fun ls hl => ?_)
                    refine lv_goto (tgt := 57) hx hb d_Cd_foreseeSteps_235 (by decide) ?_
                    rw [show ((i : Int) + 1 : Int) = ((i + 1 : Nat) : Int) by omega] at hl
                    exact ih (i + 1) mc md (ma - (t1 * mc)) (mb - (t1 * md)) lo (hg - (t1 * lo)) ey (ex % ey) _ _ _ (by omega) (by omega) (le_step hPp il (by omega) (by omega) ht1 (by rw [c121, ht2]) (by omega) (by omega)) (hP.sub (ws' := [(hc, .inr (2, [.ref h1, .ref h2, .ref h3, .long (lZ mc), .long (lZ md), .long (lZ (ma - (t1 * mc))), .long (lZ (mb - (t1 * md)))])), (h1, .inr (0, [.ref a1, .int (iZ (k1 : Int))])), (a1, .inl (cI, n1, .inl f1)), (h2, .inr (0, [.ref a2, .int (iZ (k2 : Int))])), (a2, .inl (cI, n2, .inl f2))]) [0, 1, 2, 3, 4] rfl) (hD.sub (ws' := [(hc, .inr (2, [.ref h1, .ref h2, .ref h3, .long (lZ mc), .long (lZ md), .long (lZ (ma - (t1 * mc))), .long (lZ (mb - (t1 * md)))])), (h1, .inr (0, [.ref a1, .int (iZ (k1 : Int))])), (a1, .inl (cI, n1, .inl f1)), (h2, .inr (0, [.ref a2, .int (iZ (k2 : Int))])), (a2, .inl (cI, n2, .inl f2))]) [0, 1, 2, 3, 4] (by decide) rfl) hS (lv_sub hl [7, 2, 1, 0] rfl)
                  · have hP9 : va_P D cls0 [(hc, .inr (2, [.ref h1, .ref h2, .ref h3, .long (lZ ma), .long (lZ mb), .long (lZ mc), .long (lZ md)])), (h1, .inr (0, [.ref a1, .int (iZ (k1 : Int))])), (a1, .inl (cI, n1, .inl f1)), (h2, .inr (0, [.ref a2, .int (iZ (k2 : Int))])), (a2, .inl (cI, n2, .inl f2))] H := hP.sub [0, 1, 2, 3, 4] rfl
                    have hD9 : va_D A [(hc, .inr (2, [.ref h1, .ref h2, .ref h3, .long (lZ ma), .long (lZ mb), .long (lZ mc), .long (lZ md)])), (h1, .inr (0, [.ref a1, .int (iZ (k1 : Int))])), (a1, .inl (cI, n1, .inl f1)), (h2, .inr (0, [.ref a2, .int (iZ (k2 : Int))])), (a2, .inl (cI, n2, .inl f2))] := hD.sub [0, 1, 2, 3, 4] (by decide) rfl
                    rw [hQ, ← hAe]
                    refine r_v K (ma, mb, mc, md, ex, ey) hS d_Cd_foreseeSteps_187 ?_ (fun t ht hv => ?_)
                    · try dsimp only
                      exact ⟨rfl, 2 ^ fr, hg, lo, hPp, il⟩
                    · exact ⟨by rw [ht]; exact hP9, va_K.moved hv hK, by rw [← hAe]; exact hD9⟩
              · have hP9 : va_P D cls0 [(hc, .inr (2, [.ref h1, .ref h2, .ref h3, .long (lZ ma), .long (lZ mb), .long (lZ mc), .long (lZ md)])), (h1, .inr (0, [.ref a1, .int (iZ (k1 : Int))])), (a1, .inl (cI, n1, .inl f1)), (h2, .inr (0, [.ref a2, .int (iZ (k2 : Int))])), (a2, .inl (cI, n2, .inl f2))] H := hP.sub [0, 1, 2, 3, 4] rfl
                have hD9 : va_D A [(hc, .inr (2, [.ref h1, .ref h2, .ref h3, .long (lZ ma), .long (lZ mb), .long (lZ mc), .long (lZ md)])), (h1, .inr (0, [.ref a1, .int (iZ (k1 : Int))])), (a1, .inl (cI, n1, .inl f1)), (h2, .inr (0, [.ref a2, .int (iZ (k2 : Int))])), (a2, .inl (cI, n2, .inl f2))] := hD.sub [0, 1, 2, 3, 4] (by decide) rfl
                rw [hQ, ← hAe]
                refine r_v K (ma, mb, mc, md, ex, ey) hS d_Cd_foreseeSteps_134 ?_ (fun t ht hv => ?_)
                · try dsimp only
                  exact ⟨rfl, 2 ^ fr, hg, lo, hPp, il⟩
                · exact ⟨by rw [ht]; exact hP9, va_K.moved hv hK, by rw [← hAe]; exact hD9⟩
          · have hP9 : va_P D cls0 [(hc, .inr (2, [.ref h1, .ref h2, .ref h3, .long (lZ ma), .long (lZ mb), .long (lZ mc), .long (lZ md)])), (h1, .inr (0, [.ref a1, .int (iZ (k1 : Int))])), (a1, .inl (cI, n1, .inl f1)), (h2, .inr (0, [.ref a2, .int (iZ (k2 : Int))])), (a2, .inl (cI, n2, .inl f2))] H := hP.sub [0, 1, 2, 3, 4] rfl
            have hD9 : va_D A [(hc, .inr (2, [.ref h1, .ref h2, .ref h3, .long (lZ ma), .long (lZ mb), .long (lZ mc), .long (lZ md)])), (h1, .inr (0, [.ref a1, .int (iZ (k1 : Int))])), (a1, .inl (cI, n1, .inl f1)), (h2, .inr (0, [.ref a2, .int (iZ (k2 : Int))])), (a2, .inl (cI, n2, .inl f2))] := hD.sub [0, 1, 2, 3, 4] (by decide) rfl
            rw [hQ, ← hAe]
            refine r_v K (ma, mb, mc, md, ex, ey) hS d_Cd_foreseeSteps_88 ?_ (fun t ht hv => ?_)
            · try dsimp only
              exact ⟨rfl, 2 ^ fr, hg, lo, hPp, il⟩
            · exact ⟨by rw [ht]; exact hP9, va_K.moved hv hK, by rw [← hAe]; exact hD9⟩
  exact L57 _ 0 1 0 0 1 (hi : Int) (lw : Int) vx vy _ _ _ (Nat.lt_succ_self _) (by decide) (by rw [ghi, glw]; exact le_start hxy hx0) (hP.sub (ws' := [(hc, .inr (2, [.ref h1, .ref h2, .ref h3, .long (lZ 1), .long (lZ 0), .long (lZ 0), .long (lZ 1)])), (h1, .inr (0, [.ref a1, .int (iZ (k1 : Int))])), (a1, .inl (cI, n1, .inl f1)), (h2, .inr (0, [.ref a2, .int (iZ (k2 : Int))])), (a2, .inl (cI, n2, .inl f2))]) [0, 1, 2, 3, 4] rfl) (hD.sub (ws' := [(hc, .inr (2, [.ref h1, .ref h2, .ref h3, .long (lZ 1), .long (lZ 0), .long (lZ 0), .long (lZ 1)])), (h1, .inr (0, [.ref a1, .int (iZ (k1 : Int))])), (a1, .inl (cI, n1, .inl f1)), (h2, .inr (0, [.ref a2, .int (iZ (k2 : Int))])), (a2, .inl (cI, n2, .inl f2))]) [0, 1, 2, 3, 4] (by decide) rfl) hS (lv_sub hl [4, 2, 1, 0] rfl)
set_option maxHeartbeats 4000000 in
set_option maxRecDepth 100000 in
/-- makeSteps() -/
theorem c_Cd_makeSteps (l : Launch) (D : va_G) (hc : Nat) (h1 : Nat) (a1 : Nat) (k1 : Nat) (n1 : Nat) (f1 : Nat → Int32) (h2 : Nat) (a2 : Nat) (k2 : Nat) (n2 : Nat) (f2 : Nat → Int32) (h3 : Nat) (cI : ClassId) (ma : Int) (mb : Int) (mc : Int) (md : Int) (ex : Nat) (ey : Nat) (vx : Nat) (vy : Nat) (sz : Nat) (r1 : Rp f1 k1 vx) (r2 : Rp f2 k2 vy) (hxy : vy ≤ vx) (hx0 : 0 < vx) (hk1 : k1 ≤ n1) (hk2 : k2 ≤ n2) (hn1 : n1 < 1000000) (hn2 : n2 < 1000000) (hk12 : k1 ≤ n2) (hle : ∃ (Pw : Nat) (high low : Int), 0 < Pw ∧ le_I vx vy Pw ma mb mc md high low ex ey) : Met l y_Cd_makeSteps (wsB y_Cd_makeSteps b_Cd_makeSteps 11 none) ({ frames := 3, cells := 0, slots := 0, locals := 67 }) (va_Pc [.ref hc] (wPre D [(cI, .int)] [(hc, .inr (2, [.ref h1, .ref h2, .ref h3, .long (lZ ma), .long (lZ mb), .long (lZ mc), .long (lZ md)])), (h1, .inr (0, [.ref a1, .int (iZ (k1 : Int))])), (a1, .inl (cI, n1, .inl f1)), (h2, .inr (0, [.ref a2, .int (iZ (k2 : Int))])), (a2, .inl (cI, n2, .inl f2))] sz)) (va_QV (fun (v9 : Option Value) (u9 : Nat × (Nat → Int32) × Nat × (Nat → Int32)) => v9 = none ∧ (Rp u9.2.1 u9.1 ex) ∧ (Rp u9.2.2.2 u9.2.2.1 ey)) (fun u9 => wPost D [(cI, .int)] [(hc, .inr (2, [.ref h1, .ref h2, .ref h3, .long (lZ ma), .long (lZ mb), .long (lZ mc), .long (lZ md)])), (h1, .inr (0, [.ref a1, .int (iZ (k1 : Int))])), (a1, .inl (cI, n1, .inl f1)), (h2, .inr (0, [.ref a2, .int (iZ (k2 : Int))])), (a2, .inl (cI, n2, .inl f2))] [(hc, .inr (2, [.ref h1, .ref h2, .ref h3, .long (lZ ma), .long (lZ mb), .long (lZ mc), .long (lZ md)])), (h1, .inr (0, [.ref a1, .int (iZ (u9.1 : Int))])), (a1, .inl (cI, n1, .inl u9.2.1)), (h2, .inr (0, [.ref a2, .int (iZ (u9.2.2.1 : Int))])), (a2, .inl (cI, n2, .inl u9.2.2.2))] sz) (va_A [(hc, .inr (2, [.ref h1, .ref h2, .ref h3, .long (lZ ma), .long (lZ mb), .long (lZ mc), .long (lZ md)])), (h1, .inr (0, [.ref a1, .int (iZ (k1 : Int))])), (a1, .inl (cI, n1, .inl f1)), (h2, .inr (0, [.ref a2, .int (iZ (k2 : Int))])), (a2, .inl (cI, n2, .inl f2))] sz)) 0 0 (va_A [(hc, .inr (2, [.ref h1, .ref h2, .ref h3, .long (lZ ma), .long (lZ mb), .long (lZ mc), .long (lZ md)])), (h1, .inr (0, [.ref a1, .int (iZ (k1 : Int))])), (a1, .inl (cI, n1, .inl f1)), (h2, .inr (0, [.ref a2, .int (iZ (k2 : Int))])), (a2, .inl (cI, n2, .inl f2))] sz) := by
  refine met_enter (by decide +kernel) (Nat.le_of_ble_eq_true rfl) ?_
  intro p e s m args below meth c ls A R Q H locs K hin hAe hA hR hQ hP hK hD hS hl
  obtain ⟨hx, hb, hml, hrt, hlk, hts, hown, hno⟩ := id K
  have hl : lv_has ls 11 [(0, .ref hc)] := hl
  obtain ⟨Pw, high, low, hPw, le9⟩ := hle
  obtain ⟨⟨le1, le2⟩, -, lsg, -, ⟨bma, bmb, bmc, bmd⟩, ⟨lyx, lx0, lxX⟩, -⟩ := id le9
  refine lv_aload_n hx hb d_Cd_makeSteps_0 rfl (lv_at hl 0 rfl) ?_
  refine va_get (D := D) (ci := 2) (v := .ref h1) (C := R_Cd) (T := F_Cd) (N := 7) hx hb hts i_Cd hown hK hP 0 rfl rfl 0 (by decide) (hts _ (big_in mw_106 rfl)) (fun _ h9 => h9) rfl d_Cd_makeSteps_1 ?_
  refine va_get (D := D) (ci := 0) (v := .int (iZ (k1 : Int))) (C := R_Wh) (T := F_Wh) (N := 2) hx hb hts i_Wh hown hK hP 1 rfl rfl 1 (by decide) (hts _ (big_in mw_93 rfl)) (fun _ h9 => h9) rfl d_Cd_makeSteps_4 ?_
  refine lv_istore_n (lv' := [(1, .int (iZ (k1 : Int))), (0, .ref hc)]) hx hb d_Cd_makeSteps_7 rfl hl (by decide) rfl (fun ls hl => ?_)
  refine lv_aload_n hx hb d_Cd_makeSteps_8 rfl (lv_at hl 1 rfl) ?_
  refine va_get (D := D) (ci := 2) (v := .ref h2) (C := R_Cd) (T := F_Cd) (N := 7) hx hb hts i_Cd hown hK hP 0 rfl rfl 1 (by decide) (hts _ (big_in mw_107 rfl)) (fun _ h9 => h9) rfl d_Cd_makeSteps_9 ?_
  refine lv_iload_n hx hb d_Cd_makeSteps_12 rfl (lv_at hl 0 rfl) ?_
  refine cvN (n := 1) (wr := [(hc, .inr (2, [.ref h1, .ref h2, .ref h3, .long (lZ ma), .long (lZ mb), .long (lZ mc), .long (lZ md)])), (h1, .inr (0, [.ref a1, .int (iZ (k1 : Int))])), (a1, .inl (cI, n1, .inl f1))]) (w1 := (fun (u : Nat × (Nat → Int32)) => [(h2, .inr (0, [.ref a2, .int (iZ (u.1 : Int))])), (a2, .inl (cI, n2, .inl u.2))])) (As := [.int (iZ (k1 : Int))]) (rest := []) K hP hD hK hS hA hl.1 (c_Wh_widen l D h2 a2 k2 n2 f2 cI vy k1 H.size r2.1 (by omega) (by omega) (by omega)) [3, 4] [0, 1, 2] [0] rfl rfl rfl (by decide) (by decide) (by decide) 0 rfl rfl (big_in mw_457 rfl) (big_in mw_6 rfl) (big_in mw_454 rfl) (big_in mw_456 rfl) (big_in sp_5 rfl) rfl rfl (by decide +kernel) ⟨by rw [hR]; exact Nat.le_of_ble_eq_true rfl, by rw [hR]; exact Nat.le_of_ble_eq_true rfl⟩ rfl (Nat.le_of_ble_eq_true rfl) d_Cd_makeSteps_13 ⟨by rw [hR]; exact Nat.le_of_ble_eq_true rfl, by rw [hR]; exact Nat.le_of_ble_eq_true rfl⟩ rfl (fun v u H locs hp1 hP hD hS _ => ?_)
  obtain ⟨uw2, w2⟩ := u
  try dsimp only at hp1
  obtain ⟨rfl, eu, rw2⟩ := hp1
  have hP : va_P D cls0 [(hc, .inr (2, [.ref h1, .ref h2, .ref h3, .long (lZ ma), .long (lZ mb), .long (lZ mc), .long (lZ md)])), (h1, .inr (0, [.ref a1, .int (iZ (k1 : Int))])), (a1, .inl (cI, n1, .inl f1)), (h2, .inr (0, [.ref a2, .int (iZ (uw2 : Int))])), (a2, .inl (cI, n2, .inl w2))] H := hP
  have hD : va_D A [(hc, .inr (2, [.ref h1, .ref h2, .ref h3, .long (lZ ma), .long (lZ mb), .long (lZ mc), .long (lZ md)])), (h1, .inr (0, [.ref a1, .int (iZ (k1 : Int))])), (a1, .inl (cI, n1, .inl f1)), (h2, .inr (0, [.ref a2, .int (iZ (uw2 : Int))])), (a2, .inl (cI, n2, .inl w2))] := hD
  show W p l e R s m args below meth c H locs _ _ Q (F0 m 16 ls [])
  have hk21 : k2 ≤ k1 := by rw [r2.size, r1.size]; exact lm_mono hxy
  have eu2 : uw2 = k1 := by omega
  rw [eu2] at hP hD rw2
  refine lv_lconst (v := lZ (0)) hx hb d_Cd_makeSteps_16 (by decide +kernel) ?_
  refine lv_lstore_n (lv' := [(2, .long (lZ 0)), (1, .int (iZ (k1 : Int))), (0, .ref hc)]) hx hb d_Cd_makeSteps_17 rfl hl (by decide) rfl (fun ls hl => ?_)
  refine lv_lconst (v := lZ (0)) hx hb d_Cd_makeSteps_18 (by decide +kernel) ?_
  refine lv_lstore (lv' := [(4, .long (lZ 0)), (2, .long (lZ 0)), (1, .int (iZ (k1 : Int))), (0, .ref hc)]) hx hb d_Cd_makeSteps_19 hl (by decide) rfl (fun ls hl => ?_)
  refine lv_iconst (v := iZ (0)) hx hb d_Cd_makeSteps_21 (by decide +kernel) ?_
  refine lv_istore (lv' := [(6, .int (iZ 0)), (4, .long (lZ 0)), (2, .long (lZ 0)), (1, .int (iZ (k1 : Int))), (0, .ref hc)]) hx hb d_Cd_makeSteps_22 hl (by decide) rfl (fun ls hl => ?_)
  have L24 : ∀ (N : Nat) (i : Nat) (fi : Int) (se : Int) (g1 : Nat → Int32) (g2 : Nat → Int32) (H : Heap) (locs : List Loc) (ls : Array Slot), k1 - i < N → (i ≤ k1) → (-2147483648 ≤ fi ∧ fi ≤ 2147483648) → (-2147483648 ≤ se ∧ se ≤ 2147483648) → (∀ x, i ≤ x → g1 x = f1 x) → (∀ x, i ≤ x → g2 x = w2 x) → ((vV g1 i : Int) + fi * pB i = ma * vV f1 i + mb * vV w2 i) → ((vV g2 i : Int) + se * pB i = mc * vV f1 i + md * vV w2 i) → va_P D cls0 [(hc, .inr (2, [.ref h1, .ref h2, .ref h3, .long (lZ ma), .long (lZ mb), .long (lZ mc), .long (lZ md)])), (h1, .inr (0, [.ref a1, .int (iZ (k1 : Int))])), (a1, .inl (cI, n1, .inl g1)), (h2, .inr (0, [.ref a2, .int (iZ (k1 : Int))])), (a2, .inl (cI, n2, .inl g2))] H → va_D A [(hc, .inr (2, [.ref h1, .ref h2, .ref h3, .long (lZ ma), .long (lZ mb), .long (lZ mc), .long (lZ md)])), (h1, .inr (0, [.ref a1, .int (iZ (k1 : Int))])), (a1, .inl (cI, n1, .inl g1)), (h2, .inr (0, [.ref a2, .int (iZ (k1 : Int))])), (a2, .inl (cI, n2, .inl g2))] → va_S A s.heap H locs → lv_has ls 11 [(0, .ref hc), (1, .int (iZ (k1 : Int))), (2, .long (lZ fi)), (4, .long (lZ se)), (6, .int (iZ (i : Int)))] → W p l e R s m args below meth c H locs 0 0 Q (F0 m 24 ls []) := by
    intro N
    induction N with
    | zero => intro i fi se g1 g2 H locs ls hN; exact absurd hN (Nat.not_lt_zero _)
    | succ N ih =>
      intro i fi se g1 g2 H locs ls hN ii bf bs i1 i2 iv iw hP hD hS hl
      refine lv_iload hx hb d_Cd_makeSteps_24 (lv_at hl 4 rfl) ?_
      refine lv_iload_n hx hb d_Cd_makeSteps_26 rfl (lv_at hl 1 rfl) ?_
      refine zz_icmp_ge (tgt := 145) hx hb d_Cd_makeSteps_27 (by decide) (by omega) (by omega) (fun c27 => ?_) (fun c27 => ?_)
      · refine lv_aload_n hx hb d_Cd_makeSteps_145 rfl (lv_at hl 0 rfl) ?_
        refine va_get (D := D) (ci := 2) (v := .ref h1) (C := R_Cd) (T := F_Cd) (N := 7) hx hb hts i_Cd hown hK hP 0 rfl rfl 0 (by decide) (hts _ (big_in mw_106 rfl)) (fun _ h9 => h9) rfl d_Cd_makeSteps_146 ?_
        refine cvN (n := 0) (wr := [(hc, .inr (2, [.ref h1, .ref h2, .ref h3, .long (lZ ma), .long (lZ mb), .long (lZ mc), .long (lZ md)])), (h2, .inr (0, [.ref a2, .int (iZ (k1 : Int))])), (a2, .inl (cI, n2, .inl g2))]) (w1 := (fun (u : Nat) => [(h1, .inr (0, [.ref a1, .int (iZ (u : Int))])), (a1, .inl (cI, n1, .inl g1))])) (As := []) (rest := []) K hP hD hK hS hA hl.1 (c_Wh_trim l D h1 a1 k1 n1 g1 cI H.size (by omega) (by omega)) [1, 2] [0, 3, 4] [0] rfl rfl rfl (by decide) (by decide) (by decide) 0 rfl rfl (big_in mw_385 rfl) (big_in mw_6 rfl) (big_in mw_735 rfl) (big_in mw_384 rfl) (big_in sp_1 rfl) rfl rfl (by decide +kernel) ⟨by rw [hR]; exact Nat.le_of_ble_eq_true rfl, by rw [hR]; exact Nat.le_of_ble_eq_true rfl⟩ rfl (Nat.le_of_ble_eq_true rfl) d_Cd_makeSteps_149 ⟨by rw [hR]; exact Nat.le_of_ble_eq_true rfl, by rw [hR]; exact Nat.le_of_ble_eq_true rfl⟩ rfl (fun v u H locs hp2 hP hD hS _ => ?_)
        obtain ⟨u1, rfl⟩ : ∃ z, z = u := ⟨_, rfl⟩
        obtain ⟨rfl, t1, t2, t3⟩ := hp2
        have hP : va_P D cls0 [(hc, .inr (2, [.ref h1, .ref h2, .ref h3, .long (lZ ma), .long (lZ mb), .long (lZ mc), .long (lZ md)])), (h2, .inr (0, [.ref a2, .int (iZ (k1 : Int))])), (a2, .inl (cI, n2, .inl g2)), (h1, .inr (0, [.ref a1, .int (iZ (u1 : Int))])), (a1, .inl (cI, n1, .inl g1))] H := hP
        have hD : va_D A [(hc, .inr (2, [.ref h1, .ref h2, .ref h3, .long (lZ ma), .long (lZ mb), .long (lZ mc), .long (lZ md)])), (h2, .inr (0, [.ref a2, .int (iZ (k1 : Int))])), (a2, .inl (cI, n2, .inl g2)), (h1, .inr (0, [.ref a1, .int (iZ (u1 : Int))])), (a1, .inl (cI, n1, .inl g1))] := hD
        show W p l e R s m args below meth c H locs _ _ Q (F0 m 152 ls [])
        refine lv_aload_n hx hb d_Cd_makeSteps_152 rfl (lv_at hl 0 rfl) ?_
        refine va_get (D := D) (ci := 2) (v := .ref h2) (C := R_Cd) (T := F_Cd) (N := 7) hx hb hts i_Cd hown hK hP 0 rfl rfl 1 (by decide) (hts _ (big_in mw_107 rfl)) (fun _ h9 => h9) rfl d_Cd_makeSteps_153 ?_
        refine cvN (n := 0) (wr := [(hc, .inr (2, [.ref h1, .ref h2, .ref h3, .long (lZ ma), .long (lZ mb), .long (lZ mc), .long (lZ md)])), (h1, .inr (0, [.ref a1, .int (iZ (u1 : Int))])), (a1, .inl (cI, n1, .inl g1))]) (w1 := (fun (u : Nat) => [(h2, .inr (0, [.ref a2, .int (iZ (u : Int))])), (a2, .inl (cI, n2, .inl g2))])) (As := []) (rest := []) K hP hD hK hS hA hl.1 (c_Wh_trim l D h2 a2 k1 n2 g2 cI H.size (by omega) (by omega)) [1, 2] [0, 3, 4] [0] rfl rfl rfl (by decide) (by decide) (by decide) 0 rfl rfl (big_in mw_385 rfl) (big_in mw_6 rfl) (big_in mw_735 rfl) (big_in mw_384 rfl) (big_in sp_1 rfl) rfl rfl (by decide +kernel) ⟨by rw [hR]; exact Nat.le_of_ble_eq_true rfl, by rw [hR]; exact Nat.le_of_ble_eq_true rfl⟩ rfl (Nat.le_of_ble_eq_true rfl) d_Cd_makeSteps_156 ⟨by rw [hR]; exact Nat.le_of_ble_eq_true rfl, by rw [hR]; exact Nat.le_of_ble_eq_true rfl⟩ rfl (fun v u H locs hp3 hP hD hS _ => ?_)
        obtain ⟨u2, rfl⟩ : ∃ z, z = u := ⟨_, rfl⟩
        obtain ⟨rfl, t4, t5, t6⟩ := hp3
        have hP : va_P D cls0 [(hc, .inr (2, [.ref h1, .ref h2, .ref h3, .long (lZ ma), .long (lZ mb), .long (lZ mc), .long (lZ md)])), (h1, .inr (0, [.ref a1, .int (iZ (u1 : Int))])), (a1, .inl (cI, n1, .inl g1)), (h2, .inr (0, [.ref a2, .int (iZ (u2 : Int))])), (a2, .inl (cI, n2, .inl g2))] H := hP
        have hD : va_D A [(hc, .inr (2, [.ref h1, .ref h2, .ref h3, .long (lZ ma), .long (lZ mb), .long (lZ mc), .long (lZ md)])), (h1, .inr (0, [.ref a1, .int (iZ (u1 : Int))])), (a1, .inl (cI, n1, .inl g1)), (h2, .inr (0, [.ref a2, .int (iZ (u2 : Int))])), (a2, .inl (cI, n2, .inl g2))] := hD
        show W p l e R s m args below meth c H locs _ _ Q (F0 m 159 ls [])
        have hP9 : va_P D cls0 [(hc, .inr (2, [.ref h1, .ref h2, .ref h3, .long (lZ ma), .long (lZ mb), .long (lZ mc), .long (lZ md)])), (h1, .inr (0, [.ref a1, .int (iZ (u1 : Int))])), (a1, .inl (cI, n1, .inl g1)), (h2, .inr (0, [.ref a2, .int (iZ (u2 : Int))])), (a2, .inl (cI, n2, .inl g2))] H := hP.sub [0, 1, 2, 3, 4] rfl
        have hD9 : va_D A [(hc, .inr (2, [.ref h1, .ref h2, .ref h3, .long (lZ ma), .long (lZ mb), .long (lZ mc), .long (lZ md)])), (h1, .inr (0, [.ref a1, .int (iZ (u1 : Int))])), (a1, .inl (cI, n1, .inl g1)), (h2, .inr (0, [.ref a2, .int (iZ (u2 : Int))])), (a2, .inl (cI, n2, .inl g2))] := hD.sub [0, 1, 2, 3, 4] (by decide) rfl
        rw [hQ, ← hAe]
        refine r_v K (u1, g1, u2, g2) hS d_Cd_makeSteps_159 ?_ (fun t ht hv => ?_)
        · try dsimp only
          have ei : i = k1 := by omega
          subst ei
          rw [r1.1, rw2, ← le1] at iv
          rw [r1.1, rw2, ← le2] at iw
          have hvx := r1.lt
          exact ⟨rfl, Rp.trimmed (ms_end iv (by omega)) t1 t2 t3, Rp.trimmed (ms_end iw (by omega)) t4 t5 t6⟩
        · exact ⟨by rw [ht]; exact hP9, va_K.moved hv hK, by rw [← hAe]; exact hD9⟩
      · refine lv_aload_n hx hb d_Cd_makeSteps_30 rfl (lv_at hl 0 rfl) ?_
        refine va_get (D := D) (ci := 2) (v := .ref h1) (C := R_Cd) (T := F_Cd) (N := 7) hx hb hts i_Cd hown hK hP 0 rfl rfl 0 (by decide) (hts _ (big_in mw_106 rfl)) (fun _ h9 => h9) rfl d_Cd_makeSteps_31 ?_
        refine va_get (D := D) (ci := 0) (v := .ref a1) (C := R_Wh) (T := F_Wh) (N := 2) hx hb hts i_Wh hown hK hP 1 rfl rfl 0 (by decide) (hts _ (big_in mw_91 rfl)) (fun _ h9 => h9) rfl d_Cd_makeSteps_34 ?_
        refine lv_iload hx hb d_Cd_makeSteps_37 (lv_at hl 4 rfl) ?_
        refine zz_iald hx hb hK hP 2 0 rfl rfl (i) (by omega) (by omega) (by omega) d_Cd_makeSteps_39 ?_
        refine lv_i2l (v := (g1 i).toInt64) hx hb d_Cd_makeSteps_40 rfl ?_
        refine lv_ldc2 (v := 4294967295) hx hb hown (hts _ (big_in mw_734 rfl)) d_Cd_makeSteps_41 ?_
        refine zz_mask hx hb d_Cd_makeSteps_44 ?_
        have bw44 := uwZ (g1 i)
        refine lv_lstore (lv' := [(7, .long (lZ (uw (g1 i) : Int))), (0, .ref hc), (1, .int (iZ (k1 : Int))), (2, .long (lZ fi)), (4, .long (lZ se)), (6, .int (iZ (i : Int)))]) hx hb d_Cd_makeSteps_45 hl (by decide) rfl (fun ls hl => ?_)
        refine lv_aload_n hx hb d_Cd_makeSteps_47 rfl (lv_at hl 1 rfl) ?_
        refine va_get (D := D) (ci := 2) (v := .ref h2) (C := R_Cd) (T := F_Cd) (N := 7) hx hb hts i_Cd hown hK hP 0 rfl rfl 1 (by decide) (hts _ (big_in mw_107 rfl)) (fun _ h9 => h9) rfl d_Cd_makeSteps_48 ?_
        refine va_get (D := D) (ci := 0) (v := .ref a2) (C := R_Wh) (T := F_Wh) (N := 2) hx hb hts i_Wh hown hK hP 3 rfl rfl 0 (by decide) (hts _ (big_in mw_91 rfl)) (fun _ h9 => h9) rfl d_Cd_makeSteps_51 ?_
        refine lv_iload hx hb d_Cd_makeSteps_54 (lv_at hl 5 rfl) ?_
        refine zz_iald hx hb hK hP 4 0 rfl rfl (i) (by omega) (by omega) (by omega) d_Cd_makeSteps_56 ?_
        refine lv_i2l (v := (g2 i).toInt64) hx hb d_Cd_makeSteps_57 rfl ?_
        refine lv_ldc2 (v := 4294967295) hx hb hown (hts _ (big_in mw_734 rfl)) d_Cd_makeSteps_58 ?_
        refine zz_mask hx hb d_Cd_makeSteps_61 ?_
        have bw61 := uwZ (g2 i)
        refine lv_lstore (lv' := [(9, .long (lZ (uw (g2 i) : Int))), (7, .long (lZ (uw (g1 i) : Int))), (0, .ref hc), (1, .int (iZ (k1 : Int))), (2, .long (lZ fi)), (4, .long (lZ se)), (6, .int (iZ (i : Int)))]) hx hb d_Cd_makeSteps_62 hl (by decide) rfl (fun ls hl => ?_)
        refine lv_lload_n hx hb d_Cd_makeSteps_64 rfl (lv_at hl 4 rfl) ?_
        refine lv_aload_n hx hb d_Cd_makeSteps_65 rfl (lv_at hl 2 rfl) ?_
        refine va_get (D := D) (ci := 2) (v := .long (lZ ma)) (C := R_Cd) (T := F_Cd) (N := 7) hx hb hts i_Cd hown hK hP 0 rfl rfl 3 (by decide) (hts _ (big_in mw_109 rfl)) (fun _ h9 => h9) rfl d_Cd_makeSteps_66 ?_
        refine lv_lload hx hb d_Cd_makeSteps_69 (lv_at hl 1 rfl) ?_
        refine zz_lmul hx hb d_Cd_makeSteps_71 ?_
        refine lv_aload_n hx hb d_Cd_makeSteps_72 rfl (lv_at hl 2 rfl) ?_
        refine va_get (D := D) (ci := 2) (v := .long (lZ mb)) (C := R_Cd) (T := F_Cd) (N := 7) hx hb hts i_Cd hown hK hP 0 rfl rfl 4 (by decide) (hts _ (big_in mw_110 rfl)) (fun _ h9 => h9) rfl d_Cd_makeSteps_73 ?_
        refine lv_lload hx hb d_Cd_makeSteps_76 (lv_at hl 0 rfl) ?_
        refine zz_lmul hx hb d_Cd_makeSteps_78 ?_
        refine zz_ladd hx hb d_Cd_makeSteps_79 ?_
        refine zz_ladd hx hb d_Cd_makeSteps_80 ?_
        obtain ⟨F1, hF1⟩ : ∃ z : Int, z = fi + (ma * (uw (g1 i) : Int) + (mb * (uw (g2 i) : Int))) := ⟨_, rfl⟩
        rw [show (fi + (ma * (uw (g1 i) : Int) + (mb * (uw (g2 i) : Int))) : Int) = F1 by rw [hF1]]
        have bF1 := le_sum (by omega) bma bmb bw44 bw61
        refine lv_lstore_n (lv' := [(2, .long (lZ F1)), (9, .long (lZ (uw (g2 i) : Int))), (7, .long (lZ (uw (g1 i) : Int))), (0, .ref hc), (1, .int (iZ (k1 : Int))), (4, .long (lZ se)), (6, .int (iZ (i : Int)))]) hx hb d_Cd_makeSteps_81 rfl hl (by decide) rfl (fun ls hl => ?_)
        refine lv_lload hx hb d_Cd_makeSteps_82 (lv_at hl 5 rfl) ?_
        refine lv_aload_n hx hb d_Cd_makeSteps_84 rfl (lv_at hl 3 rfl) ?_
        refine va_get (D := D) (ci := 2) (v := .long (lZ mc)) (C := R_Cd) (T := F_Cd) (N := 7) hx hb hts i_Cd hown hK hP 0 rfl rfl 5 (by decide) (hts _ (big_in mw_111 rfl)) (fun _ h9 => h9) rfl d_Cd_makeSteps_85 ?_
        refine lv_lload hx hb d_Cd_makeSteps_88 (lv_at hl 2 rfl) ?_
        refine zz_lmul hx hb d_Cd_makeSteps_90 ?_
        refine lv_aload_n hx hb d_Cd_makeSteps_91 rfl (lv_at hl 3 rfl) ?_
        refine va_get (D := D) (ci := 2) (v := .long (lZ md)) (C := R_Cd) (T := F_Cd) (N := 7) hx hb hts i_Cd hown hK hP 0 rfl rfl 6 (by decide) (hts _ (big_in mw_112 rfl)) (fun _ h9 => h9) rfl d_Cd_makeSteps_92 ?_
        refine lv_lload hx hb d_Cd_makeSteps_95 (lv_at hl 1 rfl) ?_
        refine zz_lmul hx hb d_Cd_makeSteps_97 ?_
        refine zz_ladd hx hb d_Cd_makeSteps_98 ?_
        refine zz_ladd hx hb d_Cd_makeSteps_99 ?_
        obtain ⟨F2, hF2⟩ : ∃ z : Int, z = se + (mc * (uw (g1 i) : Int) + (md * (uw (g2 i) : Int))) := ⟨_, rfl⟩
        rw [show (se + (mc * (uw (g1 i) : Int) + (md * (uw (g2 i) : Int))) : Int) = F2 by rw [hF2]]
        have bF2 := le_sum (by omega) bmc bmd bw44 bw61
        refine lv_lstore (lv' := [(4, .long (lZ F2)), (2, .long (lZ F1)), (9, .long (lZ (uw (g2 i) : Int))), (7, .long (lZ (uw (g1 i) : Int))), (0, .ref hc), (1, .int (iZ (k1 : Int))), (6, .int (iZ (i : Int)))]) hx hb d_Cd_makeSteps_100 hl (by decide) rfl (fun ls hl => ?_)
        refine lv_aload_n hx hb d_Cd_makeSteps_102 rfl (lv_at hl 4 rfl) ?_
        refine va_get (D := D) (ci := 2) (v := .ref h1) (C := R_Cd) (T := F_Cd) (N := 7) hx hb hts i_Cd hown hK hP 0 rfl rfl 0 (by decide) (hts _ (big_in mw_106 rfl)) (fun _ h9 => h9) rfl d_Cd_makeSteps_103 ?_
        refine va_get (D := D) (ci := 0) (v := .ref a1) (C := R_Wh) (T := F_Wh) (N := 2) hx hb hts i_Wh hown hK hP 1 rfl rfl 0 (by decide) (hts _ (big_in mw_91 rfl)) (fun _ h9 => h9) rfl d_Cd_makeSteps_106 ?_
        refine lv_iload hx hb d_Cd_makeSteps_109 (lv_at hl 6 rfl) ?_
        refine lv_lload_n hx hb d_Cd_makeSteps_111 rfl (lv_at hl 1 rfl) ?_
        refine zz_l2i hx hb d_Cd_makeSteps_112 ?_
        refine zz_iast hx hb hK hP hD hS 2 0 rfl rfl (i) (by omega) (by omega) (by omega) d_Cd_makeSteps_113 (fun H locs hP hD hS => ?_)
        have hP : va_P D cls0 [(hc, .inr (2, [.ref h1, .ref h2, .ref h3, .long (lZ ma), .long (lZ mb), .long (lZ mc), .long (lZ md)])), (h1, .inr (0, [.ref a1, .int (iZ (k1 : Int))])), (a1, .inl (cI, n1, .inl (upd g1 i (iZ F1)))), (h2, .inr (0, [.ref a2, .int (iZ (k1 : Int))])), (a2, .inl (cI, n2, .inl g2))] H := hP
        have hD : va_D A [(hc, .inr (2, [.ref h1, .ref h2, .ref h3, .long (lZ ma), .long (lZ mb), .long (lZ mc), .long (lZ md)])), (h1, .inr (0, [.ref a1, .int (iZ (k1 : Int))])), (a1, .inl (cI, n1, .inl (upd g1 i (iZ F1)))), (h2, .inr (0, [.ref a2, .int (iZ (k1 : Int))])), (a2, .inl (cI, n2, .inl g2))] := hD
        refine lv_aload_n hx hb d_Cd_makeSteps_114 rfl (lv_at hl 4 rfl) ?_
        refine va_get (D := D) (ci := 2) (v := .ref h2) (C := R_Cd) (T := F_Cd) (N := 7) hx hb hts i_Cd hown hK hP 0 rfl rfl 1 (by decide) (hts _ (big_in mw_107 rfl)) (fun _ h9 => h9) rfl d_Cd_makeSteps_115 ?_
        refine va_get (D := D) (ci := 0) (v := .ref a2) (C := R_Wh) (T := F_Wh) (N := 2) hx hb hts i_Wh hown hK hP 3 rfl rfl 0 (by decide) (hts _ (big_in mw_91 rfl)) (fun _ h9 => h9) rfl d_Cd_makeSteps_118 ?_
        refine lv_iload hx hb d_Cd_makeSteps_121 (lv_at hl 6 rfl) ?_
        refine lv_lload hx hb d_Cd_makeSteps_123 (lv_at hl 0 rfl) ?_
        refine zz_l2i hx hb d_Cd_makeSteps_125 ?_
        refine zz_iast hx hb hK hP hD hS 4 0 rfl rfl (i) (by omega) (by omega) (by omega) d_Cd_makeSteps_126 (fun H locs hP hD hS => ?_)
        have hP : va_P D cls0 [(hc, .inr (2, [.ref h1, .ref h2, .ref h3, .long (lZ ma), .long (lZ mb), .long (lZ mc), .long (lZ md)])), (h1, .inr (0, [.ref a1, .int (iZ (k1 : Int))])), (a1, .inl (cI, n1, .inl (upd g1 i (iZ F1)))), (h2, .inr (0, [.ref a2, .int (iZ (k1 : Int))])), (a2, .inl (cI, n2, .inl (upd g2 i (iZ F2))))] H := hP
        have hD : va_D A [(hc, .inr (2, [.ref h1, .ref h2, .ref h3, .long (lZ ma), .long (lZ mb), .long (lZ mc), .long (lZ md)])), (h1, .inr (0, [.ref a1, .int (iZ (k1 : Int))])), (a1, .inl (cI, n1, .inl (upd g1 i (iZ F1)))), (h2, .inr (0, [.ref a2, .int (iZ (k1 : Int))])), (a2, .inl (cI, n2, .inl (upd g2 i (iZ F2))))] := hD
        refine lv_lload_n hx hb d_Cd_makeSteps_127 rfl (lv_at hl 1 rfl) ?_
        refine lv_bipush (v := iZ (32)) hx hb d_Cd_makeSteps_128 (by decide +kernel) ?_
        refine zz_lshr32 hx hb d_Cd_makeSteps_130 (by omega) ?_
        refine lv_lstore_n (lv' := [(2, .long (lZ (F1 / 4294967296))), (4, .long (lZ F2)), (9, .long (lZ (uw (g2 i) : Int))), (7, .long (lZ (uw (g1 i) : Int))), (0, .ref hc), (1, .int (iZ (k1 : Int))), (6, .int (iZ (i : Int)))]) hx hb d_Cd_makeSteps_131 rfl hl (by decide) rfl (fun ls hl => ?_)
        refine lv_lload hx hb d_Cd_makeSteps_132 (lv_at hl 1 rfl) ?_
        refine lv_bipush (v := iZ (32)) hx hb d_Cd_makeSteps_134 (by decide +kernel) ?_
        refine zz_lshr32 hx hb d_Cd_makeSteps_136 (by omega) ?_
        refine lv_lstore (lv' := [(4, .long (lZ (F2 / 4294967296))), (2, .long (lZ (F1 / 4294967296))), (9, .long (lZ (uw (g2 i) : Int))), (7, .long (lZ (uw (g1 i) : Int))), (0, .ref hc), (1, .int (iZ (k1 : Int))), (6, .int (iZ (i : Int)))]) hx hb d_Cd_makeSteps_137 hl (by decide) rfl (fun ls hl => ?_)
        refine lv_iinc (v := iZ ((i : Int) + 1)) (lv' := [(6, .int (iZ ((i : Int) + 1))), (4, .long (lZ (F2 / 4294967296))), (2, .long (lZ (F1 / 4294967296))), (9, .long (lZ (uw (g2 i) : Int))), (7, .long (lZ (uw (g1 i) : Int))), (0, .ref hc), (1, .int (iZ (k1 : Int)))]) hx hb d_Cd_makeSteps_139 hl (k := 6) rfl (iZ_add _ _) (by decide) rfl (fun ls hl => ?_)
        refine lv_goto (tgt := 24) hx hb d_Cd_makeSteps_142 (by decide) ?_
        rw [show ((i : Int) + 1 : Int) = ((i + 1 : Nat) : Int) by omega] at hl
        exact ih (i + 1) (F1 / 4294967296) (F2 / 4294967296) (upd g1 i (iZ F1)) (upd g2 i (iZ F2)) _ _ _ (by omega) (by omega) (by omega) (by omega) (fun x hx => by rw [pk_un (by omega)]; exact i1 x (by omega)) (fun x hx => by rw [pk_un (by omega)]; exact i2 x (by omega)) (ms_step iv (by rw [i1 i (Nat.le_refl i)]) (by rw [i2 i (Nat.le_refl i)]) hF1) (ms_step iw (by rw [i1 i (Nat.le_refl i)]) (by rw [i2 i (Nat.le_refl i)]) hF2) (hP.sub (ws' := [(hc, .inr (2, [.ref h1, .ref h2, .ref h3, .long (lZ ma), .long (lZ mb), .long (lZ mc), .long (lZ md)])), (h1, .inr (0, [.ref a1, .int (iZ (k1 : Int))])), (a1, .inl (cI, n1, .inl (upd g1 i (iZ F1)))), (h2, .inr (0, [.ref a2, .int (iZ (k1 : Int))])), (a2, .inl (cI, n2, .inl (upd g2 i (iZ F2))))]) [0, 1, 2, 3, 4] rfl) (hD.sub (ws' := [(hc, .inr (2, [.ref h1, .ref h2, .ref h3, .long (lZ ma), .long (lZ mb), .long (lZ mc), .long (lZ md)])), (h1, .inr (0, [.ref a1, .int (iZ (k1 : Int))])), (a1, .inl (cI, n1, .inl (upd g1 i (iZ F1)))), (h2, .inr (0, [.ref a2, .int (iZ (k1 : Int))])), (a2, .inl (cI, n2, .inl (upd g2 i (iZ F2))))]) [0, 1, 2, 3, 4] (by decide) rfl) hS (lv_sub hl [5, 6, 2, 1, 0] rfl)
  exact L24 _ 0 0 0 f1 w2 _ _ _ (Nat.lt_succ_self _) (Nat.zero_le _) (by decide) (by decide) (fun _ _ => rfl) (fun _ _ => rfl) (by simp [vV_0]) (by simp [vV_0]) (hP.sub (ws' := [(hc, .inr (2, [.ref h1, .ref h2, .ref h3, .long (lZ ma), .long (lZ mb), .long (lZ mc), .long (lZ md)])), (h1, .inr (0, [.ref a1, .int (iZ (k1 : Int))])), (a1, .inl (cI, n1, .inl f1)), (h2, .inr (0, [.ref a2, .int (iZ (k1 : Int))])), (a2, .inl (cI, n2, .inl w2))]) [0, 1, 2, 3, 4] rfl) (hD.sub (ws' := [(hc, .inr (2, [.ref h1, .ref h2, .ref h3, .long (lZ ma), .long (lZ mb), .long (lZ mc), .long (lZ md)])), (h1, .inr (0, [.ref a1, .int (iZ (k1 : Int))])), (a1, .inl (cI, n1, .inl f1)), (h2, .inr (0, [.ref a2, .int (iZ (k1 : Int))])), (a2, .inl (cI, n2, .inl w2))]) [0, 1, 2, 3, 4] (by decide) rfl) hS (lv_sub hl [4, 3, 2, 1, 0] rfl)
