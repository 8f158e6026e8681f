set_option maxHeartbeats 4000000 in
set_option maxRecDepth 100000 in
/-- divideBy(divisor, quotient) -/
theorem c_Wh_divideBy (l : Launch) (D : va_G) (h : Nat) (a : Nat) (k : Nat) (n : Nat) (f : Nat → Int32) (h2 : Nat) (a2 : Nat) (k2 : Nat) (n2 : Nat) (f2 : Nat → Int32) (h3 : Nat) (a3 : Nat) (q3 : Int32) (n3 : Nat) (f3 : Nat → Int32) (cI : ClassId) (v : Nat) (v2 : Nat) (sz : Nat) (r1 : Rp f k v) (r2 : Rp f2 k2 v2) (hv2 : 0 < v2) (hk : k + 2 ≤ n) (hk2 : k2 + 1 ≤ n2) (hk3 : k + 2 ≤ n3) (h2n : 2 ≤ n) (hn : n < 1000000) (hn2 : n2 < 1000000) (hn3 : n3 < 1000000) : Met l y_Wh_divideBy (wsB y_Wh_divideBy b_Wh_divideBy 8 none) ({ frames := 3, cells := 0, slots := 0, locals := 121 }) (va_Pc [.ref h, .ref h2, .ref h3] (wPre D [(cI, .int)] [(h, .inr (0, [.ref a, .int (iZ (k : Int))])), (a, .inl (cI, n, .inl f)), (h2, .inr (0, [.ref a2, .int (iZ (k2 : Int))])), (a2, .inl (cI, n2, .inl f2)), (h3, .inr (0, [.ref a3, .int q3])), (a3, .inl (cI, n3, .inl f3))] sz)) (va_QV (fun (v9 : Option Value) (u9 : Nat × (Nat → Int32) × Nat × (Nat → Int32) × Nat × (Nat → Int32)) => v9 = none ∧ (Rp u9.2.1 u9.1 (v % v2)) ∧ (Rp u9.2.2.2.1 u9.2.2.1 v2) ∧ (Rp u9.2.2.2.2.2 u9.2.2.2.2.1 (v / v2))) (fun u9 => wPost D [(cI, .int)] [(h, .inr (0, [.ref a, .int (iZ (k : Int))])), (a, .inl (cI, n, .inl f)), (h2, .inr (0, [.ref a2, .int (iZ (k2 : Int))])), (a2, .inl (cI, n2, .inl f2)), (h3, .inr (0, [.ref a3, .int q3])), (a3, .inl (cI, n3, .inl f3))] [(h, .inr (0, [.ref a, .int (iZ (u9.1 : Int))])), (a, .inl (cI, n, .inl u9.2.1)), (h2, .inr (0, [.ref a2, .int (iZ (u9.2.2.1 : Int))])), (a2, .inl (cI, n2, .inl u9.2.2.2.1)), (h3, .inr (0, [.ref a3, .int (iZ (u9.2.2.2.2.1 : Int))])), (a3, .inl (cI, n3, .inl u9.2.2.2.2.2))] sz) (va_A [(h, .inr (0, [.ref a, .int (iZ (k : Int))])), (a, .inl (cI, n, .inl f)), (h2, .inr (0, [.ref a2, .int (iZ (k2 : Int))])), (a2, .inl (cI, n2, .inl f2)), (h3, .inr (0, [.ref a3, .int q3])), (a3, .inl (cI, n3, .inl f3))] sz)) 0 0 (va_A [(h, .inr (0, [.ref a, .int (iZ (k : Int))])), (a, .inl (cI, n, .inl f)), (h2, .inr (0, [.ref a2, .int (iZ (k2 : Int))])), (a2, .inl (cI, n2, .inl f2)), (h3, .inr (0, [.ref a3, .int q3])), (a3, .inl (cI, n3, .inl f3))] sz) := by
  refine met_enter (by decide +kernel) (Nat.le_of_ble_eq_true rfl) ?_
  intro p e s m args below meth c ls A R Q H locs K hin hAe hA hR hQ hP hK hD hS hl
  obtain ⟨hx, hb, hml, hrt, hlk, hts, hown, hno⟩ := id K
  have hl : lv_has ls 8 [(0, .ref h), (1, .ref h2), (2, .ref h3)] := hl
  have hk20 : 0 < k2 := r2.pos.mp hv2
  refine lv_aload_n hx hb d_Wh_divideBy_0 rfl (lv_at hl 2 rfl) ?_
  refine lv_iconst (v := iZ (0)) hx hb d_Wh_divideBy_1 (by decide +kernel) ?_
  refine va_put (D := D) (ci := 0) (v := .int (iZ 0)) (ty := .int) (C := R_Wh) (T := F_Wh) (N := 2) hx hb hts i_Wh t_Wh t_Wh_ok n_Wh hown hK hP hD hS 4 rfl rfl 1 (by decide) (hts _ (big_in mw_94 rfl)) (fun _ h9 => h9) rfl (by decide +kernel) rfl rfl (Nat.le_of_ble_eq_true rfl) d_Wh_divideBy_2 (fun H locs hP hD hS => ?_)
  have hP : va_P D cls0 [(h, .inr (0, [.ref a, .int (iZ (k : Int))])), (a, .inl (cI, n, .inl f)), (h2, .inr (0, [.ref a2, .int (iZ (k2 : Int))])), (a2, .inl (cI, n2, .inl f2)), (h3, .inr (0, [.ref a3, .int (iZ 0)])), (a3, .inl (cI, n3, .inl f3))] H := hP
  have hD : va_D A [(h, .inr (0, [.ref a, .int (iZ (k : Int))])), (a, .inl (cI, n, .inl f)), (h2, .inr (0, [.ref a2, .int (iZ (k2 : Int))])), (a2, .inl (cI, n2, .inl f2)), (h3, .inr (0, [.ref a3, .int (iZ 0)])), (a3, .inl (cI, n3, .inl f3))] := hD
  refine lv_aload_n hx hb d_Wh_divideBy_5 rfl (lv_at hl 1 rfl) ?_
  refine va_get (D := D) (ci := 0) (v := .int (iZ (k2 : Int))) (C := R_Wh) (T := F_Wh) (N := 2) hx hb hts i_Wh hown hK hP 2 rfl rfl 1 (by decide) (hts _ (big_in mw_94 rfl)) (fun _ h9 => h9) rfl d_Wh_divideBy_6 ?_
  refine zz_if_eq (tgt := 20) hx hb d_Wh_divideBy_9 (by decide) (by omega) (fun c9 => False.elim (by omega)) (fun c9 => ?_)
  refine lv_aload_n hx hb d_Wh_divideBy_12 rfl (lv_at hl 0 rfl) ?_
  refine lv_aload_n hx hb d_Wh_divideBy_13 rfl (lv_at hl 1 rfl) ?_
  refine cv (n := 1) (wr := [(h3, .inr (0, [.ref a3, .int (iZ 0)])), (a3, .inl (cI, n3, .inl f3))]) (w1 := (fun (u : Int) => [(h, .inr (0, [.ref a, .int (iZ (k : Int))])), (a, .inl (cI, n, .inl f)), (h2, .inr (0, [.ref a2, .int (iZ (k2 : Int))])), (a2, .inl (cI, n2, .inl f2))])) (As := [.ref h2]) (rest := []) K hP hD hK hS hA hl.1 (c_Wh_against l D h a k n f h2 a2 k2 n2 f2 cI v v2 H.size r1 r2 (by omega) (by omega) (by omega) (by omega)) [0, 1, 2, 3] [4, 5] [0] rfl rfl rfl (by decide) (by decide) (by decide) 0 rfl rfl (big_in mw_397 rfl) (big_in mw_6 rfl) (big_in mw_740 rfl) (big_in mw_395 rfl) (big_in mw_396 rfl) rfl rfl (by decide +kernel) ⟨by rw [hR]; exact Nat.le_of_ble_eq_true rfl, by rw [hR]; exact Nat.le_of_ble_eq_true rfl⟩ rfl (Nat.le_of_ble_eq_true rfl) d_Wh_divideBy_14 ⟨by rw [hR]; exact Nat.le_of_ble_eq_true rfl, by rw [hR]; exact Nat.le_of_ble_eq_true rfl⟩ rfl (fun v u H locs hp1 hP hD hS _ => ?_)
  obtain ⟨rc, rfl⟩ : ∃ z, z = u := ⟨_, rfl⟩
  obtain ⟨rfl, gq⟩ := hp1
  have hP : va_P D cls0 [(h3, .inr (0, [.ref a3, .int (iZ 0)])), (a3, .inl (cI, n3, .inl f3)), (h, .inr (0, [.ref a, .int (iZ (k : Int))])), (a, .inl (cI, n, .inl f)), (h2, .inr (0, [.ref a2, .int (iZ (k2 : Int))])), (a2, .inl (cI, n2, .inl f2))] H := hP
  have hD : va_D A [(h3, .inr (0, [.ref a3, .int (iZ 0)])), (a3, .inl (cI, n3, .inl f3)), (h, .inr (0, [.ref a, .int (iZ (k : Int))])), (a, .inl (cI, n, .inl f)), (h2, .inr (0, [.ref a2, .int (iZ (k2 : Int))])), (a2, .inl (cI, n2, .inl f2))] := hD
  show W p l e R s m args below meth c H locs _ _ Q (F0 m 17 ls [.int (iZ rc)])
  obtain ⟨s0, s2⟩ : (rc < 0 ↔ (v : Int) < (v2 : Int)) ∧ (-1 ≤ rc ∧ rc ≤ 1) := by rw [gq]; exact ⟨cmpZ_lt, cmpZ_r _ _⟩
  clear gq
  refine zz_if_ge (tgt := 21) hx hb d_Wh_divideBy_17 (by decide) (by omega) (fun c17 => ?_) (fun c17 => ?_)
  · have hge : v2 ≤ v := by omega
    refine lv_aload_n hx hb d_Wh_divideBy_21 rfl (lv_at hl 1 rfl) ?_
    refine va_get (D := D) (ci := 0) (v := .int (iZ (k2 : Int))) (C := R_Wh) (T := F_Wh) (N := 2) hx hb hts i_Wh hown hK hP 4 rfl rfl 1 (by decide) (hts _ (big_in mw_94 rfl)) (fun _ h9 => h9) rfl d_Wh_divideBy_22 ?_
    refine lv_iconst (v := iZ (1)) hx hb d_Wh_divideBy_25 (by decide +kernel) ?_
    refine zz_icmp_ne (tgt := 54) hx hb d_Wh_divideBy_26 (by decide) (by omega) (by omega) (fun c26 => ?_) (fun c26 => ?_)
    · have hk1 : 2 ≤ k2 := by have := r2.pos; omega
      refine lv_aload_n hx hb d_Wh_divideBy_54 rfl (lv_at hl 1 rfl) ?_
      refine va_get (D := D) (ci := 0) (v := .ref a2) (C := R_Wh) (T := F_Wh) (N := 2) hx hb hts i_Wh hown hK hP 4 rfl rfl 0 (by decide) (hts _ (big_in mw_90 rfl)) (fun _ h9 => h9) rfl d_Wh_divideBy_55 ?_
      refine lv_aload_n hx hb d_Wh_divideBy_58 rfl (lv_at hl 1 rfl) ?_
      refine va_get (D := D) (ci := 0) (v := .int (iZ (k2 : Int))) (C := R_Wh) (T := F_Wh) (N := 2) hx hb hts i_Wh hown hK hP 4 rfl rfl 1 (by decide) (hts _ (big_in mw_94 rfl)) (fun _ h9 => h9) rfl d_Wh_divideBy_59 ?_
      refine lv_iconst (v := iZ (1)) hx hb d_Wh_divideBy_62 (by decide +kernel) ?_
      refine zz_isub hx hb d_Wh_divideBy_63 ?_
      refine zz_iald hx hb hK hP 5 0 rfl rfl (k2 - 1) (by omega) (by omega) (by omega) d_Wh_divideBy_64 ?_
      refine zz_raw ?_
      have br := i32r (f2 (k2 - 1))
      have bu := uw_toInt (f2 (k2 - 1))
      refine cs (n := 1) (wr := [(h3, .inr (0, [.ref a3, .int (iZ 0)])), (a3, .inl (cI, n3, .inl f3)), (h, .inr (0, [.ref a, .int (iZ (k : Int))])), (a, .inl (cI, n, .inl f)), (h2, .inr (0, [.ref a2, .int (iZ (k2 : Int))])), (a2, .inl (cI, n2, .inl f2))]) (w1 := (fun (u : Int) => [])) (As := [.int (iZ ((f2 (k2 - 1)).toInt))]) (rest := []) K hP hD hK hS hA hl.1 (c_jInt_numberOfLeadingZeros l D ((f2 (k2 - 1)).toInt) H.size (by omega)) [] [0, 1, 2, 3, 4, 5] [] rfl rfl rfl (by decide) (by decide) (by decide) (big_in mw_437 rfl) (big_in mw_18 rfl) (big_in mw_435 rfl) (big_in mw_436 rfl) rfl rfl (by decide +kernel) ⟨by rw [hR]; exact Nat.le_of_ble_eq_true rfl, by rw [hR]; exact Nat.le_of_ble_eq_true rfl⟩ rfl (Nat.le_of_ble_eq_true rfl) d_Wh_divideBy_65 ⟨by rw [hR]; exact Nat.le_of_ble_eq_true rfl, by rw [hR]; exact Nat.le_of_ble_eq_true rfl⟩ rfl (fun v u H locs hp2 hP hD hS _ => ?_)
      obtain ⟨rz, rfl⟩ : ∃ z, z = u := ⟨_, rfl⟩
      obtain ⟨rfl, gz⟩ := hp2
      have hP : va_P D cls0 [(h3, .inr (0, [.ref a3, .int (iZ 0)])), (a3, .inl (cI, n3, .inl f3)), (h, .inr (0, [.ref a, .int (iZ (k : Int))])), (a, .inl (cI, n, .inl f)), (h2, .inr (0, [.ref a2, .int (iZ (k2 : Int))])), (a2, .inl (cI, n2, .inl f2))] H := hP
      have hD : va_D A [(h3, .inr (0, [.ref a3, .int (iZ 0)])), (a3, .inl (cI, n3, .inl f3)), (h, .inr (0, [.ref a, .int (iZ (k : Int))])), (a, .inl (cI, n, .inl f)), (h2, .inr (0, [.ref a2, .int (iZ (k2 : Int))])), (a2, .inl (cI, n2, .inl f2))] := hD
      show W p l e R s m args below meth c H locs _ _ Q (F0 m 68 ls [.int (iZ rz)])
      obtain ⟨sb, hsb, rfl⟩ : ∃ x : Nat, x = 32 - bl (uw (f2 (k2 - 1))) ∧ rz = (x : Int) := ⟨_, rfl, by rw [gz, bu]; have : bl (uw (f2 (k2 - 1))) ≤ 32 := bl_lt.mpr (uw_lt _); omega⟩
      have nm := dv_norm r2 (by omega) hsb
      have bsb := nm.1
      refine lv_istore_n (lv' := [(3, .int (iZ (sb : Int))), (0, .ref h), (1, .ref h2), (2, .ref h3)]) hx hb d_Wh_divideBy_68 rfl hl (by decide) rfl (fun ls hl => ?_)
      refine lv_aload_n hx hb d_Wh_divideBy_69 rfl (lv_at hl 2 rfl) ?_
      refine lv_iload_n hx hb d_Wh_divideBy_70 rfl (lv_at hl 0 rfl) ?_
      refine cv (n := 1) (wr := [(h3, .inr (0, [.ref a3, .int (iZ 0)])), (a3, .inl (cI, n3, .inl f3)), (h, .inr (0, [.ref a, .int (iZ (k : Int))])), (a, .inl (cI, n, .inl f))]) (w1 := (fun (u : Nat × (Nat → Int32)) => [(h2, .inr (0, [.ref a2, .int (iZ (u.1 : Int))])), (a2, .inl (cI, n2, .inl u.2))])) (As := [.int (iZ (sb : Int))]) (rest := []) K hP hD hK hS hA hl.1 (c_Wh_shiftUp l D h2 a2 k2 n2 f2 cI v2 sb H.size r2 (by omega) (by omega) (by omega) (by omega)) [4, 5] [0, 1, 2, 3] [0] rfl rfl rfl (by decide) (by decide) (by decide) 0 rfl rfl (big_in mw_753 rfl) (big_in mw_6 rfl) (big_in mw_750 rfl) (big_in mw_751 rfl) (big_in mw_752 rfl) rfl rfl (by decide +kernel) ⟨by rw [hR]; exact Nat.le_of_ble_eq_true rfl, by rw [hR]; exact Nat.le_of_ble_eq_true rfl⟩ rfl (Nat.le_of_ble_eq_true rfl) d_Wh_divideBy_71 ⟨by rw [hR]; exact Nat.le_of_ble_eq_true rfl, by rw [hR]; exact Nat.le_of_ble_eq_true rfl⟩ rfl (fun v u H locs hp3 hP hD hS _ => ?_)
      obtain ⟨sd, d2⟩ := u
      try dsimp only at hp3
      obtain ⟨rfl, rd, rdn⟩ := hp3
      have hP : va_P D cls0 [(h3, .inr (0, [.ref a3, .int (iZ 0)])), (a3, .inl (cI, n3, .inl f3)), (h, .inr (0, [.ref a, .int (iZ (k : Int))])), (a, .inl (cI, n, .inl f)), (h2, .inr (0, [.ref a2, .int (iZ (sd : Int))])), (a2, .inl (cI, n2, .inl d2))] H := hP
      have hD : va_D A [(h3, .inr (0, [.ref a3, .int (iZ 0)])), (a3, .inl (cI, n3, .inl f3)), (h, .inr (0, [.ref a, .int (iZ (k : Int))])), (a, .inl (cI, n, .inl f)), (h2, .inr (0, [.ref a2, .int (iZ (sd : Int))])), (a2, .inl (cI, n2, .inl d2))] := hD
      show W p l e R s m args below meth c H locs _ _ Q (F0 m 74 ls [])
      obtain ⟨esd, htop⟩ := dv_size rd (by omega) nm.2.1 nm.2.2
      rw [esd] at hP hD rd
      refine lv_aload_n hx hb d_Wh_divideBy_74 rfl (lv_at hl 1 rfl) ?_
      refine lv_iload_n hx hb d_Wh_divideBy_75 rfl (lv_at hl 0 rfl) ?_
      refine cv (n := 1) (wr := [(h3, .inr (0, [.ref a3, .int (iZ 0)])), (a3, .inl (cI, n3, .inl f3)), (h2, .inr (0, [.ref a2, .int (iZ (k2 : Int))])), (a2, .inl (cI, n2, .inl d2))]) (w1 := (fun (u : Nat × (Nat → Int32)) => [(h, .inr (0, [.ref a, .int (iZ (u.1 : Int))])), (a, .inl (cI, n, .inl u.2))])) (As := [.int (iZ (sb : Int))]) (rest := []) K hP hD hK hS hA hl.1 (c_Wh_shiftUp l D h a k n f cI v sb H.size r1 (by omega) (by omega) (by omega) (by omega)) [2, 3] [0, 1, 4, 5] [0] rfl rfl rfl (by decide) (by decide) (by decide) 0 rfl rfl (big_in mw_753 rfl) (big_in mw_6 rfl) (big_in mw_750 rfl) (big_in mw_751 rfl) (big_in mw_752 rfl) rfl rfl (by decide +kernel) ⟨by rw [hR]; exact Nat.le_of_ble_eq_true rfl, by rw [hR]; exact Nat.le_of_ble_eq_true rfl⟩ rfl (Nat.le_of_ble_eq_true rfl) d_Wh_divideBy_76 ⟨by rw [hR]; exact Nat.le_of_ble_eq_true rfl, by rw [hR]; exact Nat.le_of_ble_eq_true rfl⟩ rfl (fun v u H locs hp4 hP hD hS _ => ?_)
      obtain ⟨s1, g0⟩ := u
      try dsimp only at hp4
      obtain ⟨rfl, rs1, rsn⟩ := hp4
      have hP : va_P D cls0 [(h3, .inr (0, [.ref a3, .int (iZ 0)])), (a3, .inl (cI, n3, .inl f3)), (h2, .inr (0, [.ref a2, .int (iZ (k2 : Int))])), (a2, .inl (cI, n2, .inl d2)), (h, .inr (0, [.ref a, .int (iZ (s1 : Int))])), (a, .inl (cI, n, .inl g0))] H := hP
      have hD : va_D A [(h3, .inr (0, [.ref a3, .int (iZ 0)])), (a3, .inl (cI, n3, .inl f3)), (h2, .inr (0, [.ref a2, .int (iZ (k2 : Int))])), (a2, .inl (cI, n2, .inl d2)), (h, .inr (0, [.ref a, .int (iZ (s1 : Int))])), (a, .inl (cI, n, .inl g0))] := hD
      show W p l e R s m args below meth c H locs _ _ Q (F0 m 79 ls [])
      have hs1 : s1 ≤ k + 1 := by rw [rs1.size]; refine lm_le.mpr ?_; rw [pB_s]; exact Nat.mul_lt_mul_of_lt_of_le r1.lt (Nat.le_of_lt (show 2 ^ sb < 4294967296 from Nat.lt_of_lt_of_le (Nat.pow_lt_pow_right (by decide) bsb) (by decide))) (by decide)
      refine lv_aload_n hx hb d_Wh_divideBy_79 rfl (lv_at hl 1 rfl) ?_
      refine lv_aload_n hx hb d_Wh_divideBy_80 rfl (lv_at hl 1 rfl) ?_
      refine va_get (D := D) (ci := 0) (v := .int (iZ (s1 : Int))) (C := R_Wh) (T := F_Wh) (N := 2) hx hb hts i_Wh hown hK hP 4 rfl rfl 1 (by decide) (hts _ (big_in mw_94 rfl)) (fun _ h9 => h9) rfl d_Wh_divideBy_81 ?_
      refine lv_iconst (v := iZ (1)) hx hb d_Wh_divideBy_84 (by decide +kernel) ?_
      refine zz_iadd hx hb d_Wh_divideBy_85 ?_
      refine cv (n := 1) (wr := [(h3, .inr (0, [.ref a3, .int (iZ 0)])), (a3, .inl (cI, n3, .inl f3)), (h2, .inr (0, [.ref a2, .int (iZ (k2 : Int))])), (a2, .inl (cI, n2, .inl d2))]) (w1 := (fun (u : Unit) => [(h, .inr (0, [.ref a, .int (iZ (s1 : Int))])), (a, .inl (cI, n, .inl g0))])) (As := [.int (iZ ((s1 : Int) + 1))]) (rest := []) K hP hD hK hS hA hl.1 (c_Wh_claim l D h a (iZ (s1 : Int)) n g0 cI ((s1 : Int) + 1) H.size (by omega) (by omega)) [4, 5] [0, 1, 2, 3] [0] rfl rfl rfl (by decide) (by decide) (by decide) 0 rfl rfl (big_in mw_406 rfl) (big_in mw_6 rfl) (big_in mw_403 rfl) (big_in mw_405 rfl) (big_in sp_2 rfl) rfl rfl (by decide +kernel) ⟨by rw [hR]; exact Nat.le_of_ble_eq_true rfl, by rw [hR]; exact Nat.le_of_ble_eq_true rfl⟩ rfl (Nat.le_of_ble_eq_true rfl) d_Wh_divideBy_86 ⟨by rw [hR]; exact Nat.le_of_ble_eq_true rfl, by rw [hR]; exact Nat.le_of_ble_eq_true rfl⟩ rfl (fun v u H locs hp5 hP hD hS _ => ?_)
      obtain rfl := hp5
      have hP : va_P D cls0 [(h3, .inr (0, [.ref a3, .int (iZ 0)])), (a3, .inl (cI, n3, .inl f3)), (h2, .inr (0, [.ref a2, .int (iZ (k2 : Int))])), (a2, .inl (cI, n2, .inl d2)), (h, .inr (0, [.ref a, .int (iZ (s1 : Int))])), (a, .inl (cI, n, .inl g0))] H := hP
      have hD : va_D A [(h3, .inr (0, [.ref a3, .int (iZ 0)])), (a3, .inl (cI, n3, .inl f3)), (h2, .inr (0, [.ref a2, .int (iZ (k2 : Int))])), (a2, .inl (cI, n2, .inl d2)), (h, .inr (0, [.ref a, .int (iZ (s1 : Int))])), (a, .inl (cI, n, .inl g0))] := hD
      show W p l e R s m args below meth c H locs _ _ Q (F0 m 89 ls [])
      refine lv_aload_n hx hb d_Wh_divideBy_89 rfl (lv_at hl 1 rfl) ?_
      refine va_get (D := D) (ci := 0) (v := .ref a) (C := R_Wh) (T := F_Wh) (N := 2) hx hb hts i_Wh hown hK hP 4 rfl rfl 0 (by decide) (hts _ (big_in mw_90 rfl)) (fun _ h9 => h9) rfl d_Wh_divideBy_90 ?_
      refine lv_aload_n hx hb d_Wh_divideBy_93 rfl (lv_at hl 1 rfl) ?_
      refine va_get (D := D) (ci := 0) (v := .int (iZ (s1 : Int))) (C := R_Wh) (T := F_Wh) (N := 2) hx hb hts i_Wh hown hK hP 4 rfl rfl 1 (by decide) (hts _ (big_in mw_94 rfl)) (fun _ h9 => h9) rfl d_Wh_divideBy_94 ?_
      refine lv_iconst (v := iZ (0)) hx hb d_Wh_divideBy_97 (by decide +kernel) ?_
      refine zz_iast hx hb hK hP hD hS 5 0 rfl rfl (s1) (by omega) (by omega) (by omega) d_Wh_divideBy_98 (fun H locs hP hD hS => ?_)
      have hP : va_P D cls0 [(h3, .inr (0, [.ref a3, .int (iZ 0)])), (a3, .inl (cI, n3, .inl f3)), (h2, .inr (0, [.ref a2, .int (iZ (k2 : Int))])), (a2, .inl (cI, n2, .inl d2)), (h, .inr (0, [.ref a, .int (iZ (s1 : Int))])), (a, .inl (cI, n, .inl (upd g0 s1 (iZ 0))))] H := hP
      have hD : va_D A [(h3, .inr (0, [.ref a3, .int (iZ 0)])), (a3, .inl (cI, n3, .inl f3)), (h2, .inr (0, [.ref a2, .int (iZ (k2 : Int))])), (a2, .inl (cI, n2, .inl d2)), (h, .inr (0, [.ref a, .int (iZ (s1 : Int))])), (a, .inl (cI, n, .inl (upd g0 s1 (iZ 0))))] := hD
      refine lv_aload_n hx hb d_Wh_divideBy_99 rfl (lv_at hl 1 rfl) ?_
      refine va_get (D := D) (ci := 0) (v := .int (iZ (s1 : Int))) (C := R_Wh) (T := F_Wh) (N := 2) hx hb hts i_Wh hown hK hP 4 rfl rfl 1 (by decide) (hts _ (big_in mw_94 rfl)) (fun _ h9 => h9) rfl d_Wh_divideBy_100 ?_
      refine lv_aload_n hx hb d_Wh_divideBy_103 rfl (lv_at hl 2 rfl) ?_
      refine va_get (D := D) (ci := 0) (v := .int (iZ (k2 : Int))) (C := R_Wh) (T := F_Wh) (N := 2) hx hb hts i_Wh hown hK hP 2 rfl rfl 1 (by decide) (hts _ (big_in mw_94 rfl)) (fun _ h9 => h9) rfl d_Wh_divideBy_104 ?_
      refine zz_isub hx hb d_Wh_divideBy_107 ?_
      refine lv_iconst (v := iZ (1)) hx hb d_Wh_divideBy_108 (by decide +kernel) ?_
      refine zz_iadd hx hb d_Wh_divideBy_109 ?_
      refine lv_istore (lv' := [(4, .int (iZ ((s1 : Int) - (k2 : Int) + 1))), (3, .int (iZ (sb : Int))), (0, .ref h), (1, .ref h2), (2, .ref h3)]) hx hb d_Wh_divideBy_110 hl (by decide) rfl (fun ls hl => ?_)
      refine lv_aload_n hx hb d_Wh_divideBy_112 rfl (lv_at hl 4 rfl) ?_
      refine lv_iload hx hb d_Wh_divideBy_113 (lv_at hl 0 rfl) ?_
      refine cv (n := 1) (wr := [(h2, .inr (0, [.ref a2, .int (iZ (k2 : Int))])), (a2, .inl (cI, n2, .inl d2)), (h, .inr (0, [.ref a, .int (iZ (s1 : Int))])), (a, .inl (cI, n, .inl (upd g0 s1 (iZ 0))))]) (w1 := (fun (u : Unit) => [(h3, .inr (0, [.ref a3, .int (iZ 0)])), (a3, .inl (cI, n3, .inl f3))])) (As := [.int (iZ ((s1 : Int) - (k2 : Int) + 1))]) (rest := []) K hP hD hK hS hA hl.1 (c_Wh_claim l D h3 a3 (iZ 0) n3 f3 cI ((s1 : Int) - (k2 : Int) + 1) H.size (by omega) (by omega)) [0, 1] [2, 3, 4, 5] [0] rfl rfl rfl (by decide) (by decide) (by decide) 0 rfl rfl (big_in mw_406 rfl) (big_in mw_6 rfl) (big_in mw_403 rfl) (big_in mw_405 rfl) (big_in sp_2 rfl) rfl rfl (by decide +kernel) ⟨by rw [hR]; exact Nat.le_of_ble_eq_true rfl, by rw [hR]; exact Nat.le_of_ble_eq_true rfl⟩ rfl (Nat.le_of_ble_eq_true rfl) d_Wh_divideBy_115 ⟨by rw [hR]; exact Nat.le_of_ble_eq_true rfl, by rw [hR]; exact Nat.le_of_ble_eq_true rfl⟩ rfl (fun v u H locs hp6 hP hD hS _ => ?_)
      obtain rfl := hp6
      have hP : va_P D cls0 [(h2, .inr (0, [.ref a2, .int (iZ (k2 : Int))])), (a2, .inl (cI, n2, .inl d2)), (h, .inr (0, [.ref a, .int (iZ (s1 : Int))])), (a, .inl (cI, n, .inl (upd g0 s1 (iZ 0)))), (h3, .inr (0, [.ref a3, .int (iZ 0)])), (a3, .inl (cI, n3, .inl f3))] H := hP
      have hD : va_D A [(h2, .inr (0, [.ref a2, .int (iZ (k2 : Int))])), (a2, .inl (cI, n2, .inl d2)), (h, .inr (0, [.ref a, .int (iZ (s1 : Int))])), (a, .inl (cI, n, .inl (upd g0 s1 (iZ 0)))), (h3, .inr (0, [.ref a3, .int (iZ 0)])), (a3, .inl (cI, n3, .inl f3))] := hD
      show W p l e R s m args below meth c H locs _ _ Q (F0 m 118 ls [])
      have hle : k2 ≤ s1 := by rw [rs1.size, (show k2 = lm (v2 * 2 ^ sb) from rd.size)]; exact lm_mono (Nat.mul_le_mul_right _ hge)
      have di := dv_init rs1 hle (by omega) (show pB (k2 - 1) ≤ v2 * 2 ^ sb by rw [pB_two]; exact Nat.le_trans (Nat.pow_le_pow_right (by decide) (by omega)) nm.2.1)
      have hDp : 0 < v2 * 2 ^ sb := Nat.mul_pos hv2 (Nat.two_pow_pos _)
      have hDP : v2 * 2 ^ sb < pB k2 := by rw [pB_two]; exact nm.2.2
      have hDP1 : v2 * 2 ^ sb < pB (k2 + 1) := Nat.lt_trans hDP (pB_lt (by omega))
      have hwin : ∀ (i : Nat) (g : Nat → Int32), vV g (i + 1 + k2) < v2 * 2 ^ sb * pB (i + 1) → vV (sh g i) (k2 + 1) < 4294967296 * vV d2 k2 := fun i g h => by rw [rd.1]; exact kd_window (X := vV g (i + 1 + k2)) (lo := vV g i) (pj := pB i) (by rw [show i + 1 + k2 = i + (k2 + 1) by omega, vV_sh]) (pB_pos i) (by rw [← pB_s]; exact h)
      refine lv_iload hx hb d_Wh_divideBy_118 (lv_at hl 0 rfl) ?_
      refine lv_iconst (v := iZ (1)) hx hb d_Wh_divideBy_120 (by decide +kernel) ?_
      refine zz_isub hx hb d_Wh_divideBy_121 ?_
      refine lv_istore (lv' := [(5, .int (iZ ((s1 : Int) - (k2 : Int) + 1 - 1))), (4, .int (iZ ((s1 : Int) - (k2 : Int) + 1))), (3, .int (iZ (sb : Int))), (0, .ref h), (1, .ref h2), (2, .ref h3)]) hx hb d_Wh_divideBy_122 hl (by decide) rfl (fun ls hl => ?_)
      have L124 : ∀ (N : Nat) (j : Nat) (g : Nat → Int32) (qf : Nat → Int32) (H : Heap) (locs : List Loc) (ls : Array Slot), j < N → (j ≤ s1 - k2 + 1) → (vV g (j + k2) < v2 * 2 ^ sb * pB j) → (v * 2 ^ sb = vV g (j + k2) + v2 * 2 ^ sb * pB j * vV (sh qf j) (s1 - k2 + 1 - j)) → va_P D cls0 [(h, .inr (0, [.ref a, .int (iZ (s1 : Int))])), (a, .inl (cI, n, .inl g)), (h2, .inr (0, [.ref a2, .int (iZ (k2 : Int))])), (a2, .inl (cI, n2, .inl d2)), (h3, .inr (0, [.ref a3, .int (iZ 0)])), (a3, .inl (cI, n3, .inl qf))] H → va_D A [(h, .inr (0, [.ref a, .int (iZ (s1 : Int))])), (a, .inl (cI, n, .inl g)), (h2, .inr (0, [.ref a2, .int (iZ (k2 : Int))])), (a2, .inl (cI, n2, .inl d2)), (h3, .inr (0, [.ref a3, .int (iZ 0)])), (a3, .inl (cI, n3, .inl qf))] → va_S A s.heap H locs → lv_has ls 8 [(0, .ref h), (1, .ref h2), (2, .ref h3), (3, .int (iZ (sb : Int))), (4, .int (iZ ((s1 : Int) - (k2 : Int) + 1))), (5, .int (iZ ((j : Int) - 1)))] → W p l e R s m args below meth c H locs 0 0 Q (F0 m 124 ls []) := by
        intro N
        induction N with
        | zero => intro j g qf H locs ls hN; exact absurd hN (Nat.not_lt_zero _)
        | succ N ih =>
          intro j g qf H locs ls hN ij iX iA hP hD hS hl
          refine lv_iload hx hb d_Wh_divideBy_124 (lv_at hl 5 rfl) ?_
          refine zz_if_lt (tgt := 179) hx hb d_Wh_divideBy_126 (by decide) (by omega) (fun c126 => ?_) (fun c126 => ?_)
          · refine lv_aload_n hx hb d_Wh_divideBy_179 rfl (lv_at hl 2 rfl) ?_
            refine lv_iload hx hb d_Wh_divideBy_180 (lv_at hl 4 rfl) ?_
            refine va_put (D := D) (ci := 0) (v := .int (iZ ((s1 : Int) - (k2 : Int) + 1))) (ty := .int) (C := R_Wh) (T := F_Wh) (N := 2) hx hb hts i_Wh t_Wh t_Wh_ok n_Wh hown hK hP hD hS 4 rfl rfl 1 (by decide) (hts _ (big_in mw_94 rfl)) (fun _ h9 => h9) rfl (by decide +kernel) rfl rfl (Nat.le_of_ble_eq_true rfl) d_Wh_divideBy_182 (fun H locs hP hD hS => ?_)
            have hP : va_P D cls0 [(h, .inr (0, [.ref a, .int (iZ (s1 : Int))])), (a, .inl (cI, n, .inl g)), (h2, .inr (0, [.ref a2, .int (iZ (k2 : Int))])), (a2, .inl (cI, n2, .inl d2)), (h3, .inr (0, [.ref a3, .int (iZ ((s1 : Int) - (k2 : Int) + 1))])), (a3, .inl (cI, n3, .inl qf))] H := hP
            have hD : va_D A [(h, .inr (0, [.ref a, .int (iZ (s1 : Int))])), (a, .inl (cI, n, .inl g)), (h2, .inr (0, [.ref a2, .int (iZ (k2 : Int))])), (a2, .inl (cI, n2, .inl d2)), (h3, .inr (0, [.ref a3, .int (iZ ((s1 : Int) - (k2 : Int) + 1))])), (a3, .inl (cI, n3, .inl qf))] := hD
            refine lv_aload_n hx hb d_Wh_divideBy_185 rfl (lv_at hl 2 rfl) ?_
            rw [show ((s1 : Int) - (k2 : Int) + 1 : Int) = ((s1 - k2 + 1 : Nat) : Int) by omega] at hP hD
            refine cv (n := 0) (wr := [(h, .inr (0, [.ref a, .int (iZ (s1 : Int))])), (a, .inl (cI, n, .inl g)), (h2, .inr (0, [.ref a2, .int (iZ (k2 : Int))])), (a2, .inl (cI, n2, .inl d2))]) (w1 := (fun (u : Nat) => [(h3, .inr (0, [.ref a3, .int (iZ (u : Int))])), (a3, .inl (cI, n3, .inl qf))])) (As := []) (rest := []) K hP hD hK hS hA hl.1 (c_Wh_trim l D h3 a3 (s1 - k2 + 1) n3 qf cI H.size (by omega) (by omega)) [4, 5] [0, 1, 2, 3] [0] rfl rfl rfl (by decide) (by decide) (by decide) 0 rfl rfl (big_in mw_385 rfl) (big_in mw_6 rfl) (big_in mw_382 rfl) (big_in mw_384 rfl) (big_in sp_1 rfl) rfl rfl (by decide +kernel) ⟨by rw [hR]; exact Nat.le_of_ble_eq_true rfl, by rw [hR]; exact Nat.le_of_ble_eq_true rfl⟩ rfl (Nat.le_of_ble_eq_true rfl) d_Wh_divideBy_186 ⟨by rw [hR]; exact Nat.le_of_ble_eq_true rfl, by rw [hR]; exact Nat.le_of_ble_eq_true rfl⟩ rfl (fun v u H locs hp7 hP hD hS _ => ?_)
            obtain ⟨u3, rfl⟩ : ∃ z, z = u := ⟨_, rfl⟩
            obtain ⟨rfl, t1, t2, t3⟩ := hp7
            have hP : va_P D cls0 [(h, .inr (0, [.ref a, .int (iZ (s1 : Int))])), (a, .inl (cI, n, .inl g)), (h2, .inr (0, [.ref a2, .int (iZ (k2 : Int))])), (a2, .inl (cI, n2, .inl d2)), (h3, .inr (0, [.ref a3, .int (iZ (u3 : Int))])), (a3, .inl (cI, n3, .inl qf))] H := hP
            have hD : va_D A [(h, .inr (0, [.ref a, .int (iZ (s1 : Int))])), (a, .inl (cI, n, .inl g)), (h2, .inr (0, [.ref a2, .int (iZ (k2 : Int))])), (a2, .inl (cI, n2, .inl d2)), (h3, .inr (0, [.ref a3, .int (iZ (u3 : Int))])), (a3, .inl (cI, n3, .inl qf))] := hD
            show W p l e R s m args below meth c H locs _ _ Q (F0 m 189 ls [])
            have ej : j = 0 := by omega
            subst ej
            have fin := dv_fin iX iA
            have x3 := Rp.trimmed fin.2 t1 t2 t3
            refine lv_aload_n hx hb d_Wh_divideBy_189 rfl (lv_at hl 0 rfl) ?_
            refine lv_aload_n hx hb d_Wh_divideBy_190 rfl (lv_at hl 1 rfl) ?_
            refine va_get (D := D) (ci := 0) (v := .int (iZ (k2 : Int))) (C := R_Wh) (T := F_Wh) (N := 2) hx hb hts i_Wh hown hK hP 2 rfl rfl 1 (by decide) (hts _ (big_in mw_94 rfl)) (fun _ h9 => h9) rfl d_Wh_divideBy_191 ?_
            refine va_put (D := D) (ci := 0) (v := .int (iZ (k2 : Int))) (ty := .int) (C := R_Wh) (T := F_Wh) (N := 2) hx hb hts i_Wh t_Wh t_Wh_ok n_Wh hown hK hP hD hS 0 rfl rfl 1 (by decide) (hts _ (big_in mw_94 rfl)) (fun _ h9 => h9) rfl (by decide +kernel) rfl rfl (Nat.le_of_ble_eq_true rfl) d_Wh_divideBy_194 (fun H locs hP hD hS => ?_)
            have hP : va_P D cls0 [(h, .inr (0, [.ref a, .int (iZ (k2 : Int))])), (a, .inl (cI, n, .inl g)), (h2, .inr (0, [.ref a2, .int (iZ (k2 : Int))])), (a2, .inl (cI, n2, .inl d2)), (h3, .inr (0, [.ref a3, .int (iZ (u3 : Int))])), (a3, .inl (cI, n3, .inl qf))] H := hP
            have hD : va_D A [(h, .inr (0, [.ref a, .int (iZ (k2 : Int))])), (a, .inl (cI, n, .inl g)), (h2, .inr (0, [.ref a2, .int (iZ (k2 : Int))])), (a2, .inl (cI, n2, .inl d2)), (h3, .inr (0, [.ref a3, .int (iZ (u3 : Int))])), (a3, .inl (cI, n3, .inl qf))] := hD
            refine lv_aload_n hx hb d_Wh_divideBy_197 rfl (lv_at hl 0 rfl) ?_
            refine cv (n := 0) (wr := [(h2, .inr (0, [.ref a2, .int (iZ (k2 : Int))])), (a2, .inl (cI, n2, .inl d2)), (h3, .inr (0, [.ref a3, .int (iZ (u3 : Int))])), (a3, .inl (cI, n3, .inl qf))]) (w1 := (fun (u : Nat) => [(h, .inr (0, [.ref a, .int (iZ (u : Int))])), (a, .inl (cI, n, .inl g))])) (As := []) (rest := []) K hP hD hK hS hA hl.1 (c_Wh_trim l D h a k2 n g cI H.size (by omega) (by omega)) [0, 1] [2, 3, 4, 5] [0] rfl rfl rfl (by decide) (by decide) (by decide) 0 rfl rfl (big_in mw_385 rfl) (big_in mw_6 rfl) (big_in mw_382 rfl) (big_in mw_384 rfl) (big_in sp_1 rfl) rfl rfl (by decide +kernel) ⟨by rw [hR]; exact Nat.le_of_ble_eq_true rfl, by rw [hR]; exact Nat.le_of_ble_eq_true rfl⟩ rfl (Nat.le_of_ble_eq_true rfl) d_Wh_divideBy_198 ⟨by rw [hR]; exact Nat.le_of_ble_eq_true rfl, by rw [hR]; exact Nat.le_of_ble_eq_true rfl⟩ rfl (fun v u H locs hp8 hP hD hS _ => ?_)
            obtain ⟨u1, rfl⟩ : ∃ z, z = u := ⟨_, rfl⟩
            obtain ⟨rfl, t4, t5, t6⟩ := hp8
            have hP : va_P D cls0 [(h2, .inr (0, [.ref a2, .int (iZ (k2 : Int))])), (a2, .inl (cI, n2, .inl d2)), (h3, .inr (0, [.ref a3, .int (iZ (u3 : Int))])), (a3, .inl (cI, n3, .inl qf)), (h, .inr (0, [.ref a, .int (iZ (u1 : Int))])), (a, .inl (cI, n, .inl g))] H := hP
            have hD : va_D A [(h2, .inr (0, [.ref a2, .int (iZ (k2 : Int))])), (a2, .inl (cI, n2, .inl d2)), (h3, .inr (0, [.ref a3, .int (iZ (u3 : Int))])), (a3, .inl (cI, n3, .inl qf)), (h, .inr (0, [.ref a, .int (iZ (u1 : Int))])), (a, .inl (cI, n, .inl g))] := hD
            show W p l e R s m args below meth c H locs _ _ Q (F0 m 201 ls [])
            have x0 := Rp.trimmed fin.1 t4 t5 t6
            refine lv_aload_n hx hb d_Wh_divideBy_201 rfl (lv_at hl 0 rfl) ?_
            refine lv_iload_n hx hb d_Wh_divideBy_202 rfl (lv_at hl 3 rfl) ?_
            refine cv (n := 1) (wr := [(h2, .inr (0, [.ref a2, .int (iZ (k2 : Int))])), (a2, .inl (cI, n2, .inl d2)), (h3, .inr (0, [.ref a3, .int (iZ (u3 : Int))])), (a3, .inl (cI, n3, .inl qf))]) (w1 := (fun (u : Nat × (Nat → Int32)) => [(h, .inr (0, [.ref a, .int (iZ (u.1 : Int))])), (a, .inl (cI, n, .inl u.2))])) (As := [.int (iZ (sb : Int))]) (rest := []) K hP hD hK hS hA hl.1 (c_Wh_shiftDown l D h a u1 n g cI (v * 2 ^ sb % (v2 * 2 ^ sb)) sb H.size x0 (by omega) (by omega) (by omega)) [4, 5] [0, 1, 2, 3] [0] rfl rfl rfl (by decide) (by decide) (by decide) 0 rfl rfl (big_in mw_776 rfl) (big_in mw_6 rfl) (big_in mw_773 rfl) (big_in mw_774 rfl) (big_in mw_775 rfl) rfl rfl (by decide +kernel) ⟨by rw [hR]; exact Nat.le_of_ble_eq_true rfl, by rw [hR]; exact Nat.le_of_ble_eq_true rfl⟩ rfl (Nat.le_of_ble_eq_true rfl) d_Wh_divideBy_203 ⟨by rw [hR]; exact Nat.le_of_ble_eq_true rfl, by rw [hR]; exact Nat.le_of_ble_eq_true rfl⟩ rfl (fun v u H locs hp9 hP hD hS _ => ?_)
            obtain ⟨u9, g9⟩ := u
            try dsimp only at hp9
            obtain ⟨rfl, x1, x1n⟩ := hp9
            have hP : va_P D cls0 [(h2, .inr (0, [.ref a2, .int (iZ (k2 : Int))])), (a2, .inl (cI, n2, .inl d2)), (h3, .inr (0, [.ref a3, .int (iZ (u3 : Int))])), (a3, .inl (cI, n3, .inl qf)), (h, .inr (0, [.ref a, .int (iZ (u9 : Int))])), (a, .inl (cI, n, .inl g9))] H := hP
            have hD : va_D A [(h2, .inr (0, [.ref a2, .int (iZ (k2 : Int))])), (a2, .inl (cI, n2, .inl d2)), (h3, .inr (0, [.ref a3, .int (iZ (u3 : Int))])), (a3, .inl (cI, n3, .inl qf)), (h, .inr (0, [.ref a, .int (iZ (u9 : Int))])), (a, .inl (cI, n, .inl g9))] := hD
            show W p l e R s m args below meth c H locs _ _ Q (F0 m 206 ls [])
            refine lv_aload_n hx hb d_Wh_divideBy_206 rfl (lv_at hl 1 rfl) ?_
            refine lv_iload_n hx hb d_Wh_divideBy_207 rfl (lv_at hl 3 rfl) ?_
            refine cv (n := 1) (wr := [(h3, .inr (0, [.ref a3, .int (iZ (u3 : Int))])), (a3, .inl (cI, n3, .inl qf)), (h, .inr (0, [.ref a, .int (iZ (u9 : Int))])), (a, .inl (cI, n, .inl g9))]) (w1 := (fun (u : Nat × (Nat → Int32)) => [(h2, .inr (0, [.ref a2, .int (iZ (u.1 : Int))])), (a2, .inl (cI, n2, .inl u.2))])) (As := [.int (iZ (sb : Int))]) (rest := []) K hP hD hK hS hA hl.1 (c_Wh_shiftDown l D h2 a2 k2 n2 d2 cI (v2 * 2 ^ sb) sb H.size rd (by omega) (by omega) (by omega)) [0, 1] [2, 3, 4, 5] [0] rfl rfl rfl (by decide) (by decide) (by decide) 0 rfl rfl (big_in mw_776 rfl) (big_in mw_6 rfl) (big_in mw_773 rfl) (big_in mw_774 rfl) (big_in mw_775 rfl) rfl rfl (by decide +kernel) ⟨by rw [hR]; exact Nat.le_of_ble_eq_true rfl, by rw [hR]; exact Nat.le_of_ble_eq_true rfl⟩ rfl (Nat.le_of_ble_eq_true rfl) d_Wh_divideBy_208 ⟨by rw [hR]; exact Nat.le_of_ble_eq_true rfl, by rw [hR]; exact Nat.le_of_ble_eq_true rfl⟩ rfl (fun v u H locs hp10 hP hD hS _ => ?_)
            obtain ⟨u8, g8⟩ := u
            try dsimp only at hp10
            obtain ⟨rfl, x2, x2n⟩ := hp10
            have hP : va_P D cls0 [(h3, .inr (0, [.ref a3, .int (iZ (u3 : Int))])), (a3, .inl (cI, n3, .inl qf)), (h, .inr (0, [.ref a, .int (iZ (u9 : Int))])), (a, .inl (cI, n, .inl g9)), (h2, .inr (0, [.ref a2, .int (iZ (u8 : Int))])), (a2, .inl (cI, n2, .inl g8))] H := hP
            have hD : va_D A [(h3, .inr (0, [.ref a3, .int (iZ (u3 : Int))])), (a3, .inl (cI, n3, .inl qf)), (h, .inr (0, [.ref a, .int (iZ (u9 : Int))])), (a, .inl (cI, n, .inl g9)), (h2, .inr (0, [.ref a2, .int (iZ (u8 : Int))])), (a2, .inl (cI, n2, .inl g8))] := hD
            show W p l e R s m args below meth c H locs _ _ Q (F0 m 211 ls [])
            have hP9 : va_P D cls0 [(h, .inr (0, [.ref a, .int (iZ (u9 : Int))])), (a, .inl (cI, n, .inl g9)), (h2, .inr (0, [.ref a2, .int (iZ (u8 : Int))])), (a2, .inl (cI, n2, .inl g8)), (h3, .inr (0, [.ref a3, .int (iZ (u3 : Int))])), (a3, .inl (cI, n3, .inl qf))] H := hP.sub [2, 3, 4, 5, 0, 1] rfl
            have hD9 : va_D A [(h, .inr (0, [.ref a, .int (iZ (u9 : Int))])), (a, .inl (cI, n, .inl g9)), (h2, .inr (0, [.ref a2, .int (iZ (u8 : Int))])), (a2, .inl (cI, n2, .inl g8)), (h3, .inr (0, [.ref a3, .int (iZ (u3 : Int))])), (a3, .inl (cI, n3, .inl qf))] := hD.sub [2, 3, 4, 5, 0, 1] (by decide) rfl
            rw [hQ, ← hAe]
            refine r_v K (u9, g9, u8, g8, u3, qf) hS d_Wh_divideBy_211 ?_ (fun t ht hv => ?_)
            · try dsimp only
              have fin := dv_fin iX iA
              have e1 : v * 2 ^ sb % (v2 * 2 ^ sb) / 2 ^ sb = v % v2 := by rw [Nat.mul_mod_mul_right, Nat.mul_div_cancel _ (Nat.two_pow_pos _)]
              have e2 : v2 * 2 ^ sb / 2 ^ sb = v2 := Nat.mul_div_cancel _ (Nat.two_pow_pos _)
              have e3 : v * 2 ^ sb / (v2 * 2 ^ sb) = v / v2 := Nat.mul_div_mul_right _ _ (Nat.two_pow_pos _)
              rw [e1] at x1
              rw [e2] at x2
              rw [e3] at x3
              exact ⟨rfl, x1, x2, x3⟩
            · exact ⟨by rw [ht]; exact hP9, va_K.moved hv hK, by rw [← hAe]; exact hD9⟩
          · refine lv_aload_n hx hb d_Wh_divideBy_129 rfl (lv_at hl 0 rfl) ?_
            refine lv_aload_n hx hb d_Wh_divideBy_130 rfl (lv_at hl 1 rfl) ?_
            refine lv_iload hx hb d_Wh_divideBy_131 (lv_at hl 5 rfl) ?_
            rw [show ((j : Int) - 1 : Int) = ((j - 1 : Nat) : Int) by omega]
            refine cv (n := 2) (wr := [(h3, .inr (0, [.ref a3, .int (iZ 0)])), (a3, .inl (cI, n3, .inl qf))]) (w1 := (fun (u : Nat) => [(h, .inr (0, [.ref a, .int (iZ (s1 : Int))])), (a, .inl (cI, n, .inl g)), (h2, .inr (0, [.ref a2, .int (iZ (k2 : Int))])), (a2, .inl (cI, n2, .inl d2))])) (As := [.ref h2, .int (iZ ((j - 1 : Nat) : Int))]) (rest := []) K hP hD hK hS hA hl.1 (c_Wh_guessLimb l D h a (iZ (s1 : Int)) n g h2 a2 k2 n2 d2 cI (j - 1) H.size (by omega) (by omega) (by omega) (by omega) (by omega) htop (hwin (j - 1) g (by rw [show j - 1 + 1 = j by omega]; exact iX))) [0, 1, 2, 3] [4, 5] [0] rfl rfl rfl (by decide) (by decide) (by decide) 0 rfl rfl (big_in mw_757 rfl) (big_in mw_6 rfl) (big_in mw_754 rfl) (big_in mw_756 rfl) (big_in sp_6 rfl) rfl rfl (by decide +kernel) ⟨by rw [hR]; exact Nat.le_of_ble_eq_true rfl, by rw [hR]; exact Nat.le_of_ble_eq_true rfl⟩ rfl (Nat.le_of_ble_eq_true rfl) d_Wh_divideBy_133 ⟨by rw [hR]; exact Nat.le_of_ble_eq_true rfl, by rw [hR]; exact Nat.le_of_ble_eq_true rfl⟩ rfl (fun v u H locs hp11 hP hD hS _ => ?_)
            obtain ⟨gs, rfl⟩ : ∃ z, z = u := ⟨_, rfl⟩
            obtain ⟨rfl, q1, q2, q3⟩ := hp11
            have hP : va_P D cls0 [(h3, .inr (0, [.ref a3, .int (iZ 0)])), (a3, .inl (cI, n3, .inl qf)), (h, .inr (0, [.ref a, .int (iZ (s1 : Int))])), (a, .inl (cI, n, .inl g)), (h2, .inr (0, [.ref a2, .int (iZ (k2 : Int))])), (a2, .inl (cI, n2, .inl d2))] H := hP
            have hD : va_D A [(h3, .inr (0, [.ref a3, .int (iZ 0)])), (a3, .inl (cI, n3, .inl qf)), (h, .inr (0, [.ref a, .int (iZ (s1 : Int))])), (a, .inl (cI, n, .inl g)), (h2, .inr (0, [.ref a2, .int (iZ (k2 : Int))])), (a2, .inl (cI, n2, .inl d2))] := hD
            show W p l e R s m args below meth c H locs _ _ Q (F0 m 136 ls [.long (lZ (gs : Int))])
            refine lv_lstore (lv' := [(6, .long (lZ (gs : Int))), (0, .ref h), (1, .ref h2), (2, .ref h3), (3, .int (iZ (sb : Int))), (4, .int (iZ ((s1 : Int) - (k2 : Int) + 1))), (5, .int (iZ ((j : Int) - 1)))]) hx hb d_Wh_divideBy_136 hl (by decide) rfl (fun ls hl => ?_)
            refine lv_aload_n hx hb d_Wh_divideBy_138 rfl (lv_at hl 1 rfl) ?_
            refine lv_aload_n hx hb d_Wh_divideBy_139 rfl (lv_at hl 2 rfl) ?_
            refine lv_lload hx hb d_Wh_divideBy_140 (lv_at hl 0 rfl) ?_
            refine lv_iload hx hb d_Wh_divideBy_142 (lv_at hl 6 rfl) ?_
            rw [show ((j : Int) - 1 : Int) = ((j - 1 : Nat) : Int) by omega]
            refine cv (n := 3) (wr := [(h3, .inr (0, [.ref a3, .int (iZ 0)])), (a3, .inl (cI, n3, .inl qf))]) (w1 := (fun (u : Int × (Nat → Int32)) => [(h, .inr (0, [.ref a, .int (iZ (s1 : Int))])), (a, .inl (cI, n, .inl u.2)), (h2, .inr (0, [.ref a2, .int (iZ (k2 : Int))])), (a2, .inl (cI, n2, .inl d2))])) (As := [.ref h2, .long (lZ (gs : Int)), .int (iZ ((j - 1 : Nat) : Int))]) (rest := []) K hP hD hK hS hA hl.1 (c_Wh_takeMultiple l D h a (iZ (s1 : Int)) n g h2 a2 k2 n2 d2 cI gs (j - 1) H.size (by omega) (by omega) (by omega) (by omega) (by omega)) [2, 3, 4, 5] [0, 1] [0] rfl rfl rfl (by decide) (by decide) (by decide) 0 rfl rfl (big_in mw_768 rfl) (big_in mw_6 rfl) (big_in mw_765 rfl) (big_in mw_767 rfl) (big_in sp_7 rfl) rfl rfl (by decide +kernel) ⟨by rw [hR]; exact Nat.le_of_ble_eq_true rfl, by rw [hR]; exact Nat.le_of_ble_eq_true rfl⟩ rfl (Nat.le_of_ble_eq_true rfl) d_Wh_divideBy_144 ⟨by rw [hR]; exact Nat.le_of_ble_eq_true rfl, by rw [hR]; exact Nat.le_of_ble_eq_true rfl⟩ rfl (fun v u H locs hp12 hP hD hS _ => ?_)
            obtain ⟨r5, g5⟩ := u
            try dsimp only at hp12
            obtain ⟨rfl, w5r, w5a, w5b⟩ := hp12
            have hP : va_P D cls0 [(h3, .inr (0, [.ref a3, .int (iZ 0)])), (a3, .inl (cI, n3, .inl qf)), (h, .inr (0, [.ref a, .int (iZ (s1 : Int))])), (a, .inl (cI, n, .inl g5)), (h2, .inr (0, [.ref a2, .int (iZ (k2 : Int))])), (a2, .inl (cI, n2, .inl d2))] H := hP
            have hD : va_D A [(h3, .inr (0, [.ref a3, .int (iZ 0)])), (a3, .inl (cI, n3, .inl qf)), (h, .inr (0, [.ref a, .int (iZ (s1 : Int))])), (a, .inl (cI, n, .inl g5)), (h2, .inr (0, [.ref a2, .int (iZ (k2 : Int))])), (a2, .inl (cI, n2, .inl d2))] := hD
            show W p l e R s m args below meth c H locs _ _ Q (F0 m 147 ls [.int (iZ r5)])
            rw [rd.1] at q1 q2 w5b
            have tk := dv_take hDp (Nat.le_of_lt hDP1) q1 q2 w5r (vV_lt _ _) w5b
            refine zz_if_eq (tgt := 163) hx hb d_Wh_divideBy_147 (by decide) (by omega) (fun c147 => ?_) (fun c147 => ?_)
            · have ej : j = j - 1 + 1 := by omega
              rw [ej] at iX iA
              obtain ⟨w1, w2⟩ := tk.1 (by omega)
              rw [show ((gs : Int) : Int) = ((vV (sh g (j - 1)) (k2 + 1) / (v2 * 2 ^ sb) : Nat) : Int) by rw [← w1]] at hl
              have nx := dv_step (g2 := g5) (qf := qf) (U := vV (sh g (j - 1)) (k2 + 1)) (i := j - 1) hDp hDP (by omega) rfl iX iA (fun x hx => w5a x (Or.inl hx)) w2
              refine lv_aload_n hx hb d_Wh_divideBy_163 rfl (lv_at hl 3 rfl) ?_
              refine va_get (D := D) (ci := 0) (v := .ref a3) (C := R_Wh) (T := F_Wh) (N := 2) hx hb hts i_Wh hown hK hP 0 rfl rfl 0 (by decide) (hts _ (big_in mw_90 rfl)) (fun _ h9 => h9) rfl d_Wh_divideBy_164 ?_
              refine lv_iload hx hb d_Wh_divideBy_167 (lv_at hl 6 rfl) ?_
              refine lv_lload hx hb d_Wh_divideBy_169 (lv_at hl 0 rfl) ?_
              refine zz_l2i hx hb d_Wh_divideBy_171 ?_
              refine zz_iast hx hb hK hP hD hS 1 0 rfl rfl (j - 1) (by omega) (by omega) (by omega) d_Wh_divideBy_172 (fun H locs hP hD hS => ?_)
              have hP : va_P D cls0 [(h3, .inr (0, [.ref a3, .int (iZ 0)])), (a3, .inl (cI, n3, .inl (upd qf (j - 1) (iZ ((vV (sh g (j - 1)) (k2 + 1) / (v2 * 2 ^ sb) : Nat) : Int))))), (h, .inr (0, [.ref a, .int (iZ (s1 : Int))])), (a, .inl (cI, n, .inl g5)), (h2, .inr (0, [.ref a2, .int (iZ (k2 : Int))])), (a2, .inl (cI, n2, .inl d2))] H := hP
              have hD : va_D A [(h3, .inr (0, [.ref a3, .int (iZ 0)])), (a3, .inl (cI, n3, .inl (upd qf (j - 1) (iZ ((vV (sh g (j - 1)) (k2 + 1) / (v2 * 2 ^ sb) : Nat) : Int))))), (h, .inr (0, [.ref a, .int (iZ (s1 : Int))])), (a, .inl (cI, n, .inl g5)), (h2, .inr (0, [.ref a2, .int (iZ (k2 : Int))])), (a2, .inl (cI, n2, .inl d2))] := hD
              refine lv_iinc (v := iZ ((j : Int) - 1 - 1)) (lv' := [(5, .int (iZ ((j : Int) - 1 - 1))), (6, .long (lZ ((vV (sh g (j - 1)) (k2 + 1) / (v2 * 2 ^ sb) : Nat) : Int))), (0, .ref h), (1, .ref h2), (2, .ref h3), (3, .int (iZ (sb : Int))), (4, .int (iZ ((s1 : Int) - (k2 : Int) + 1)))]) hx hb d_Wh_divideBy_173 hl (k := 6) rfl (iZ_add _ _) (by decide) rfl (fun ls hl => ?_)
              refine lv_goto (tgt := 124) hx hb d_Wh_divideBy_176 (by decide) ?_
              rw [show ((j : Int) - 1 - 1 : Int) = ((j - 1 : Nat) : Int) - 1 by omega] at hl
              exact ih (j - 1) g5 (upd qf (j - 1) (iZ ((vV (sh g (j - 1)) (k2 + 1) / (v2 * 2 ^ sb) : Nat) : Int))) _ _ _ (by omega) (by omega) nx.1 nx.2 (hP.sub (ws' := [(h, .inr (0, [.ref a, .int (iZ (s1 : Int))])), (a, .inl (cI, n, .inl g5)), (h2, .inr (0, [.ref a2, .int (iZ (k2 : Int))])), (a2, .inl (cI, n2, .inl d2)), (h3, .inr (0, [.ref a3, .int (iZ 0)])), (a3, .inl (cI, n3, .inl (upd qf (j - 1) (iZ ((vV (sh g (j - 1)) (k2 + 1) / (v2 * 2 ^ sb) : Nat) : Int)))))]) [2, 3, 4, 5, 0, 1] rfl) (hD.sub (ws' := [(h, .inr (0, [.ref a, .int (iZ (s1 : Int))])), (a, .inl (cI, n, .inl g5)), (h2, .inr (0, [.ref a2, .int (iZ (k2 : Int))])), (a2, .inl (cI, n2, .inl d2)), (h3, .inr (0, [.ref a3, .int (iZ 0)])), (a3, .inl (cI, n3, .inl (upd qf (j - 1) (iZ ((vV (sh g (j - 1)) (k2 + 1) / (v2 * 2 ^ sb) : Nat) : Int)))))]) [2, 3, 4, 5, 0, 1] (by decide) rfl) hS (lv_sub hl [2, 3, 4, 5, 6, 0] rfl)
            · refine lv_lload hx hb d_Wh_divideBy_150 (lv_at hl 0 rfl) ?_
              refine lv_lconst (v := lZ (1)) hx hb d_Wh_divideBy_152 (by decide +kernel) ?_
              refine zz_lsub hx hb d_Wh_divideBy_153 ?_
              refine lv_lstore (lv' := [(6, .long (lZ ((gs : Int) - 1))), (0, .ref h), (1, .ref h2), (2, .ref h3), (3, .int (iZ (sb : Int))), (4, .int (iZ ((s1 : Int) - (k2 : Int) + 1))), (5, .int (iZ ((j : Int) - 1)))]) hx hb d_Wh_divideBy_154 hl (by decide) rfl (fun ls hl => ?_)
              refine lv_aload_n hx hb d_Wh_divideBy_156 rfl (lv_at hl 1 rfl) ?_
              refine lv_aload_n hx hb d_Wh_divideBy_157 rfl (lv_at hl 2 rfl) ?_
              refine lv_iload hx hb d_Wh_divideBy_158 (lv_at hl 6 rfl) ?_
              rw [show ((j : Int) - 1 : Int) = ((j - 1 : Nat) : Int) by omega]
              refine cv (n := 2) (wr := [(h3, .inr (0, [.ref a3, .int (iZ 0)])), (a3, .inl (cI, n3, .inl qf))]) (w1 := (fun (u : (Nat → Int32)) => [(h, .inr (0, [.ref a, .int (iZ (s1 : Int))])), (a, .inl (cI, n, .inl u)), (h2, .inr (0, [.ref a2, .int (iZ (k2 : Int))])), (a2, .inl (cI, n2, .inl d2))])) (As := [.ref h2, .int (iZ ((j - 1 : Nat) : Int))]) (rest := []) K hP hD hK hS hA hl.1 (c_Wh_giveBack l D h a (iZ (s1 : Int)) n g5 h2 a2 k2 n2 d2 cI (j - 1) H.size (by omega) (by omega) (by omega) (by omega)) [2, 3, 4, 5] [0, 1] [0] rfl rfl rfl (by decide) (by decide) (by decide) 0 rfl rfl (big_in mw_772 rfl) (big_in mw_6 rfl) (big_in mw_769 rfl) (big_in mw_771 rfl) (big_in sp_8 rfl) rfl rfl (by decide +kernel) ⟨by rw [hR]; exact Nat.le_of_ble_eq_true rfl, by rw [hR]; exact Nat.le_of_ble_eq_true rfl⟩ rfl (Nat.le_of_ble_eq_true rfl) d_Wh_divideBy_160 ⟨by rw [hR]; exact Nat.le_of_ble_eq_true rfl, by rw [hR]; exact Nat.le_of_ble_eq_true rfl⟩ rfl (fun v u H locs hp13 hP hD hS _ => ?_)
              obtain ⟨g6, rfl⟩ : ∃ z, z = u := ⟨_, rfl⟩
              obtain ⟨rfl, w6a, w6b⟩ := hp13
              have hP : va_P D cls0 [(h3, .inr (0, [.ref a3, .int (iZ 0)])), (a3, .inl (cI, n3, .inl qf)), (h, .inr (0, [.ref a, .int (iZ (s1 : Int))])), (a, .inl (cI, n, .inl g6)), (h2, .inr (0, [.ref a2, .int (iZ (k2 : Int))])), (a2, .inl (cI, n2, .inl d2))] H := hP
              have hD : va_D A [(h3, .inr (0, [.ref a3, .int (iZ 0)])), (a3, .inl (cI, n3, .inl qf)), (h, .inr (0, [.ref a, .int (iZ (s1 : Int))])), (a, .inl (cI, n, .inl g6)), (h2, .inr (0, [.ref a2, .int (iZ (k2 : Int))])), (a2, .inl (cI, n2, .inl d2))] := hD
              show W p l e R s m args below meth c H locs _ _ Q (F0 m 163 ls [])
              have ej : j = j - 1 + 1 := by omega
              rw [ej] at iX iA
              obtain ⟨w1, w2⟩ := tk.2 (by omega)
              have ww : gs - 1 = vV (sh g (j - 1)) (k2 + 1) / (v2 * 2 ^ sb) := by rw [w1]; exact Nat.add_sub_cancel _ _
              have w0 : 1 ≤ gs := by rw [w1]; exact Nat.le_add_left _ _
              rw [show ((gs : Int) - 1 : Int) = ((vV (sh g (j - 1)) (k2 + 1) / (v2 * 2 ^ sb) : Nat) : Int) by rw [← ww]; exact (Int.natCast_sub w0).symm] at hl
              have nx := dv_step (g2 := g6) (qf := qf) (U := vV (sh g (j - 1)) (k2 + 1)) (i := j - 1) hDp hDP (by omega) rfl iX iA (fun x hx => by rw [w6a x (Or.inl hx)]; exact w5a x (Or.inl hx)) (by rw [w6b, rd.1]; exact w2)
              refine lv_aload_n hx hb d_Wh_divideBy_163 rfl (lv_at hl 3 rfl) ?_
              refine va_get (D := D) (ci := 0) (v := .ref a3) (C := R_Wh) (T := F_Wh) (N := 2) hx hb hts i_Wh hown hK hP 0 rfl rfl 0 (by decide) (hts _ (big_in mw_90 rfl)) (fun _ h9 => h9) rfl d_Wh_divideBy_164 ?_
              refine lv_iload hx hb d_Wh_divideBy_167 (lv_at hl 6 rfl) ?_
              refine lv_lload hx hb d_Wh_divideBy_169 (lv_at hl 0 rfl) ?_
              refine zz_l2i hx hb d_Wh_divideBy_171 ?_
              refine zz_iast hx hb hK hP hD hS 1 0 rfl rfl (j - 1) (by omega) (by omega) (by omega) d_Wh_divideBy_172 (fun H locs hP hD hS => ?_)
              have hP : va_P D cls0 [(h3, .inr (0, [.ref a3, .int (iZ 0)])), (a3, .inl (cI, n3, .inl (upd qf (j - 1) (iZ ((vV (sh g (j - 1)) (k2 + 1) / (v2 * 2 ^ sb) : Nat) : Int))))), (h, .inr (0, [.ref a, .int (iZ (s1 : Int))])), (a, .inl (cI, n, .inl g6)), (h2, .inr (0, [.ref a2, .int (iZ (k2 : Int))])), (a2, .inl (cI, n2, .inl d2))] H := hP
              have hD : va_D A [(h3, .inr (0, [.ref a3, .int (iZ 0)])), (a3, .inl (cI, n3, .inl (upd qf (j - 1) (iZ ((vV (sh g (j - 1)) (k2 + 1) / (v2 * 2 ^ sb) : Nat) : Int))))), (h, .inr (0, [.ref a, .int (iZ (s1 : Int))])), (a, .inl (cI, n, .inl g6)), (h2, .inr (0, [.ref a2, .int (iZ (k2 : Int))])), (a2, .inl (cI, n2, .inl d2))] := hD
              refine lv_iinc (v := iZ ((j : Int) - 1 - 1)) (lv' := [(5, .int (iZ ((j : Int) - 1 - 1))), (6, .long (lZ ((vV (sh g (j - 1)) (k2 + 1) / (v2 * 2 ^ sb) : Nat) : Int))), (0, .ref h), (1, .ref h2), (2, .ref h3), (3, .int (iZ (sb : Int))), (4, .int (iZ ((s1 : Int) - (k2 : Int) + 1)))]) hx hb d_Wh_divideBy_173 hl (k := 6) rfl (iZ_add _ _) (by decide) rfl (fun ls hl => ?_)
              refine lv_goto (tgt := 124) hx hb d_Wh_divideBy_176 (by decide) ?_
              rw [show ((j : Int) - 1 - 1 : Int) = ((j - 1 : Nat) : Int) - 1 by omega] at hl
              exact ih (j - 1) g6 (upd qf (j - 1) (iZ ((vV (sh g (j - 1)) (k2 + 1) / (v2 * 2 ^ sb) : Nat) : Int))) _ _ _ (by omega) (by omega) nx.1 nx.2 (hP.sub (ws' := [(h, .inr (0, [.ref a, .int (iZ (s1 : Int))])), (a, .inl (cI, n, .inl g6)), (h2, .inr (0, [.ref a2, .int (iZ (k2 : Int))])), (a2, .inl (cI, n2, .inl d2)), (h3, .inr (0, [.ref a3, .int (iZ 0)])), (a3, .inl (cI, n3, .inl (upd qf (j - 1) (iZ ((vV (sh g (j - 1)) (k2 + 1) / (v2 * 2 ^ sb) : Nat) : Int)))))]) [2, 3, 4, 5, 0, 1] rfl) (hD.sub (ws' := [(h, .inr (0, [.ref a, .int (iZ (s1 : Int))])), (a, .inl (cI, n, .inl g6)), (h2, .inr (0, [.ref a2, .int (iZ (k2 : Int))])), (a2, .inl (cI, n2, .inl d2)), (h3, .inr (0, [.ref a3, .int (iZ 0)])), (a3, .inl (cI, n3, .inl (upd qf (j - 1) (iZ ((vV (sh g (j - 1)) (k2 + 1) / (v2 * 2 ^ sb) : Nat) : Int)))))]) [2, 3, 4, 5, 0, 1] (by decide) rfl) hS (lv_sub hl [2, 3, 4, 5, 6, 0] rfl)
      rw [show ((s1 : Int) - (k2 : Int) + 1 - 1 : Int) = ((s1 - k2 + 1 : Nat) : Int) - 1 by omega] at hl
      exact L124 _ (s1 - k2 + 1) (upd g0 s1 (iZ 0)) f3 _ _ _ (Nat.lt_succ_self _) (Nat.le_refl _) (by rw [di.1]; exact di.2) (by rw [di.1, Nat.sub_self, vV_0, Nat.mul_zero, Nat.add_zero]) (hP.sub (ws' := [(h, .inr (0, [.ref a, .int (iZ (s1 : Int))])), (a, .inl (cI, n, .inl (upd g0 s1 (iZ 0)))), (h2, .inr (0, [.ref a2, .int (iZ (k2 : Int))])), (a2, .inl (cI, n2, .inl d2)), (h3, .inr (0, [.ref a3, .int (iZ 0)])), (a3, .inl (cI, n3, .inl f3))]) [2, 3, 0, 1, 4, 5] rfl) (hD.sub (ws' := [(h, .inr (0, [.ref a, .int (iZ (s1 : Int))])), (a, .inl (cI, n, .inl (upd g0 s1 (iZ 0)))), (h2, .inr (0, [.ref a2, .int (iZ (k2 : Int))])), (a2, .inl (cI, n2, .inl d2)), (h3, .inr (0, [.ref a3, .int (iZ 0)])), (a3, .inl (cI, n3, .inl f3))]) [2, 3, 0, 1, 4, 5] (by decide) rfl) hS (lv_sub hl [3, 4, 5, 2, 1, 0] rfl)
    · have hk1 : k2 = 1 := by omega
      have e2v : uw (f2 0) = v2 := by have := r2.1; rw [hk1, vV_s, vV_0, pB_0] at this; omega
      refine lv_aload_n hx hb d_Wh_divideBy_29 rfl (lv_at hl 2 rfl) ?_
      refine lv_aload_n hx hb d_Wh_divideBy_30 rfl (lv_at hl 0 rfl) ?_
      refine cv (n := 1) (wr := [(h2, .inr (0, [.ref a2, .int (iZ (k2 : Int))])), (a2, .inl (cI, n2, .inl f2))]) (w1 := (fun (u : (Nat → Int32)) => [(h3, .inr (0, [.ref a3, .int (iZ (k : Int))])), (a3, .inl (cI, n3, .inl u)), (h, .inr (0, [.ref a, .int (iZ (k : Int))])), (a, .inl (cI, n, .inl f))])) (As := [.ref h]) (rest := []) K hP hD hK hS hA hl.1 (c_Wh_become l D h3 a3 (iZ 0) n3 f3 h a k n f cI H.size (by omega) (by omega) (by omega) (by omega)) [0, 1, 2, 3] [4, 5] [0] rfl rfl rfl (by decide) (by decide) (by decide) 0 rfl rfl (big_in mw_402 rfl) (big_in mw_6 rfl) (big_in mw_741 rfl) (big_in mw_400 rfl) (big_in mw_401 rfl) rfl rfl (by decide +kernel) ⟨by rw [hR]; exact Nat.le_of_ble_eq_true rfl, by rw [hR]; exact Nat.le_of_ble_eq_true rfl⟩ rfl (Nat.le_of_ble_eq_true rfl) d_Wh_divideBy_31 ⟨by rw [hR]; exact Nat.le_of_ble_eq_true rfl, by rw [hR]; exact Nat.le_of_ble_eq_true rfl⟩ rfl (fun v u H locs hp14 hP hD hS _ => ?_)
      obtain ⟨gb, rfl⟩ : ∃ z, z = u := ⟨_, rfl⟩
      obtain ⟨rfl, pb⟩ := hp14
      have hP : va_P D cls0 [(h2, .inr (0, [.ref a2, .int (iZ (k2 : Int))])), (a2, .inl (cI, n2, .inl f2)), (h3, .inr (0, [.ref a3, .int (iZ (k : Int))])), (a3, .inl (cI, n3, .inl gb)), (h, .inr (0, [.ref a, .int (iZ (k : Int))])), (a, .inl (cI, n, .inl f))] H := hP
      have hD : va_D A [(h2, .inr (0, [.ref a2, .int (iZ (k2 : Int))])), (a2, .inl (cI, n2, .inl f2)), (h3, .inr (0, [.ref a3, .int (iZ (k : Int))])), (a3, .inl (cI, n3, .inl gb)), (h, .inr (0, [.ref a, .int (iZ (k : Int))])), (a, .inl (cI, n, .inl f))] := hD
      show W p l e R s m args below meth c H locs _ _ Q (F0 m 34 ls [])
      refine lv_aload_n hx hb d_Wh_divideBy_34 rfl (lv_at hl 0 rfl) ?_
      refine lv_aload_n hx hb d_Wh_divideBy_35 rfl (lv_at hl 2 rfl) ?_
      refine lv_aload_n hx hb d_Wh_divideBy_36 rfl (lv_at hl 1 rfl) ?_
      refine va_get (D := D) (ci := 0) (v := .ref a2) (C := R_Wh) (T := F_Wh) (N := 2) hx hb hts i_Wh hown hK hP 0 rfl rfl 0 (by decide) (hts _ (big_in mw_90 rfl)) (fun _ h9 => h9) rfl d_Wh_divideBy_37 ?_
      refine lv_iconst (v := iZ (0)) hx hb d_Wh_divideBy_40 (by decide +kernel) ?_
      refine zz_iald hx hb hK hP 1 0 rfl rfl (0) (by omega) (by omega) (by omega) d_Wh_divideBy_41 ?_
      refine lv_i2l (v := (f2 0).toInt64) hx hb d_Wh_divideBy_42 rfl ?_
      refine lv_ldc2 (v := 4294967295) hx hb hown (hts _ (big_in mw_398 rfl)) d_Wh_divideBy_43 ?_
      refine zz_mask hx hb d_Wh_divideBy_46 ?_
      have bw46 := uwZ (f2 0)
      rw [show ((uw (f2 0) : Int) : Int) = ((uw (f2 0) : Nat) : Int) by omega]
      refine cv (n := 1) (wr := [(h2, .inr (0, [.ref a2, .int (iZ (k2 : Int))])), (a2, .inl (cI, n2, .inl f2)), (h, .inr (0, [.ref a, .int (iZ (k : Int))])), (a, .inl (cI, n, .inl f))]) (w1 := (fun (u : Nat × (Nat → Int32)) => [(h3, .inr (0, [.ref a3, .int (iZ (u.1 : Int))])), (a3, .inl (cI, n3, .inl u.2))])) (As := [.long (lZ ((uw (f2 0) : Nat) : Int))]) (rest := [.ref h]) K hP hD hK hS hA hl.1 (c_Wh_divideByLimb l D h3 a3 k n3 gb cI v (uw (f2 0)) H.size (r1.congr pb) (by omega) (uw_lt _) (by omega) (by omega)) [2, 3] [0, 1, 4, 5] [0] rfl rfl rfl (by decide) (by decide) (by decide) 0 rfl rfl (big_in mw_745 rfl) (big_in mw_6 rfl) (big_in mw_742 rfl) (big_in mw_743 rfl) (big_in mw_744 rfl) rfl rfl (by decide +kernel) ⟨by rw [hR]; exact Nat.le_of_ble_eq_true rfl, by rw [hR]; exact Nat.le_of_ble_eq_true rfl⟩ rfl (Nat.le_of_ble_eq_true rfl) d_Wh_divideBy_47 ⟨by rw [hR]; exact Nat.le_of_ble_eq_true rfl, by rw [hR]; exact Nat.le_of_ble_eq_true rfl⟩ rfl (fun v u H locs hp15 hP hD hS _ => ?_)
      obtain ⟨ul, gl⟩ := u
      try dsimp only at hp15
      obtain ⟨rfl, dl1, dl2⟩ := hp15
      have hP : va_P D cls0 [(h2, .inr (0, [.ref a2, .int (iZ (k2 : Int))])), (a2, .inl (cI, n2, .inl f2)), (h, .inr (0, [.ref a, .int (iZ (k : Int))])), (a, .inl (cI, n, .inl f)), (h3, .inr (0, [.ref a3, .int (iZ (ul : Int))])), (a3, .inl (cI, n3, .inl gl))] H := hP
      have hD : va_D A [(h2, .inr (0, [.ref a2, .int (iZ (k2 : Int))])), (a2, .inl (cI, n2, .inl f2)), (h, .inr (0, [.ref a, .int (iZ (k : Int))])), (a, .inl (cI, n, .inl f)), (h3, .inr (0, [.ref a3, .int (iZ (ul : Int))])), (a3, .inl (cI, n3, .inl gl))] := hD
      show W p l e R s m args below meth c H locs _ _ Q (F0 m 50 ls [.long (lZ ((v % (uw (f2 0)) : Nat) : Int)), .ref h])
      rw [show (((v % (uw (f2 0)) : Nat) : Int) : Int) = ((v % uw (f2 0) : Nat) : Int) by omega]
      refine cv (n := 1) (wr := [(h2, .inr (0, [.ref a2, .int (iZ (k2 : Int))])), (a2, .inl (cI, n2, .inl f2)), (h3, .inr (0, [.ref a3, .int (iZ (ul : Int))])), (a3, .inl (cI, n3, .inl gl))]) (w1 := (fun (u : Nat × (Nat → Int32)) => [(h, .inr (0, [.ref a, .int (iZ (u.1 : Int))])), (a, .inl (cI, n, .inl u.2))])) (As := [.long (lZ ((v % uw (f2 0) : Nat) : Int))]) (rest := []) K hP hD hK hS hA hl.1 (c_Wh_becomeLong l D h a (iZ (k : Int)) n f cI (v % uw (f2 0)) H.size (by have := Nat.mod_lt v (show 0 < uw (f2 0) by omega); have := uw_lt (f2 0); omega) (by omega) (by omega)) [2, 3] [0, 1, 4, 5] [0] rfl rfl rfl (by decide) (by decide) (by decide) 0 rfl rfl (big_in mw_381 rfl) (big_in mw_6 rfl) (big_in mw_749 rfl) (big_in mw_379 rfl) (big_in mw_380 rfl) rfl rfl (by decide +kernel) ⟨by rw [hR]; exact Nat.le_of_ble_eq_true rfl, by rw [hR]; exact Nat.le_of_ble_eq_true rfl⟩ rfl (Nat.le_of_ble_eq_true rfl) d_Wh_divideBy_50 ⟨by rw [hR]; exact Nat.le_of_ble_eq_true rfl, by rw [hR]; exact Nat.le_of_ble_eq_true rfl⟩ rfl (fun v u H locs hp16 hP hD hS _ => ?_)
      obtain ⟨ub, gbl⟩ := u
      try dsimp only at hp16
      obtain ⟨rfl, bl1, bl2⟩ := hp16
      have hP : va_P D cls0 [(h2, .inr (0, [.ref a2, .int (iZ (k2 : Int))])), (a2, .inl (cI, n2, .inl f2)), (h3, .inr (0, [.ref a3, .int (iZ (ul : Int))])), (a3, .inl (cI, n3, .inl gl)), (h, .inr (0, [.ref a, .int (iZ (ub : Int))])), (a, .inl (cI, n, .inl gbl))] H := hP
      have hD : va_D A [(h2, .inr (0, [.ref a2, .int (iZ (k2 : Int))])), (a2, .inl (cI, n2, .inl f2)), (h3, .inr (0, [.ref a3, .int (iZ (ul : Int))])), (a3, .inl (cI, n3, .inl gl)), (h, .inr (0, [.ref a, .int (iZ (ub : Int))])), (a, .inl (cI, n, .inl gbl))] := hD
      show W p l e R s m args below meth c H locs _ _ Q (F0 m 53 ls [])
      have hP9 : va_P D cls0 [(h, .inr (0, [.ref a, .int (iZ (ub : Int))])), (a, .inl (cI, n, .inl gbl)), (h2, .inr (0, [.ref a2, .int (iZ (k2 : Int))])), (a2, .inl (cI, n2, .inl f2)), (h3, .inr (0, [.ref a3, .int (iZ (ul : Int))])), (a3, .inl (cI, n3, .inl gl))] H := hP.sub [4, 5, 0, 1, 2, 3] rfl
      have hD9 : va_D A [(h, .inr (0, [.ref a, .int (iZ (ub : Int))])), (a, .inl (cI, n, .inl gbl)), (h2, .inr (0, [.ref a2, .int (iZ (k2 : Int))])), (a2, .inl (cI, n2, .inl f2)), (h3, .inr (0, [.ref a3, .int (iZ (ul : Int))])), (a3, .inl (cI, n3, .inl gl))] := hD.sub [4, 5, 0, 1, 2, 3] (by decide) rfl
      rw [hQ, ← hAe]
      refine r_v K (ub, gbl, k2, f2, ul, gl) hS d_Wh_divideBy_53 ?_ (fun t ht hv => ?_)
      · try dsimp only
        refine ⟨rfl, ?_, r2, ?_⟩
        · rw [← e2v]; exact bl1
        · rw [← e2v]; exact dl1
      · exact ⟨by rw [ht]; exact hP9, va_K.moved hv hK, by rw [← hAe]; exact hD9⟩
  · rw [show (0 : Int) = (0 : Int) by omega] at hP hD
    have hP9 : va_P D cls0 [(h, .inr (0, [.ref a, .int (iZ (k : Int))])), (a, .inl (cI, n, .inl f)), (h2, .inr (0, [.ref a2, .int (iZ (k2 : Int))])), (a2, .inl (cI, n2, .inl f2)), (h3, .inr (0, [.ref a3, .int (iZ (0 : Int))])), (a3, .inl (cI, n3, .inl f3))] H := hP.sub [2, 3, 4, 5, 0, 1] rfl
    have hD9 : va_D A [(h, .inr (0, [.ref a, .int (iZ (k : Int))])), (a, .inl (cI, n, .inl f)), (h2, .inr (0, [.ref a2, .int (iZ (k2 : Int))])), (a2, .inl (cI, n2, .inl f2)), (h3, .inr (0, [.ref a3, .int (iZ (0 : Int))])), (a3, .inl (cI, n3, .inl f3))] := hD.sub [2, 3, 4, 5, 0, 1] (by decide) rfl
    rw [hQ, ← hAe]
    refine r_v K (k, f, k2, f2, 0, f3) hS d_Wh_divideBy_20 ?_ (fun t ht hv => ?_)
    · try dsimp only
      have hlt : v < v2 := by omega
      refine ⟨rfl, ?_, r2, ?_⟩
      · rw [Nat.mod_eq_of_lt hlt]; exact r1
      · rw [Nat.div_eq_of_lt hlt]; exact Rp.zero
    · exact ⟨by rw [ht]; exact hP9, va_K.moved hv hK, by rw [← hAe]; exact hD9⟩
