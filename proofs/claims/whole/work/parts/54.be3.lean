/-! BENCH: powers, exponents, nearest multiples -/
theorem bl_pow (v m : Nat) : v ^ m < 2 ^ (bl v * m + 1) := by
  have h := Nat.pow_le_pow_left (Nat.le_of_lt (bl_self v)) m
  rw [← Nat.pow_mul] at h
  exact Nat.lt_of_le_of_lt h (Nat.pow_lt_pow_right (by decide) (by omega))
theorem lm_pow (v m : Nat) : lm (v ^ m) ≤ bl v * m / 32 + 1 := by
  apply lm_le.mpr
  refine Nat.lt_of_lt_of_le (bl_pow v m) ?_
  rw [pB_two]
  exact Nat.pow_le_pow_right (by decide) (by omega)
theorem ra_fit {v t ro m : Nat} (h : (((bl v : Int) - 1) * (t : Int)) < 32 * (ro : Int)) (ht : t ≤ 1000) (hm : m ≤ t) : lm (v ^ m) ≤ ro + 33 := by
  refine Nat.le_trans (lm_pow v m) ?_
  have h1 : (((bl v * t : Nat) : Int)) < 32 * (ro : Int) + (t : Int) := by
    rw [Int.sub_mul, Int.one_mul] at h
    rw [Int.natCast_mul]
    omega
  have h2 : bl v * m ≤ bl v * t := Nat.mul_le_mul_left _ hm
  omega
theorem ra_fit2 {v t ro m : Nat} (h : (((bl v : Int) - 1) * (t : Int)) < 32 * (ro : Int)) (ht : t ≤ 1000) (hm : 2 * m ≤ t) : 2 * lm (v ^ m) ≤ ro + 35 := by
  have h0 := lm_pow v m
  have h1 : (((bl v * t : Nat) : Int)) < 32 * (ro : Int) + (t : Int) := by
    rw [Int.sub_mul, Int.one_mul] at h
    rw [Int.natCast_mul]
    omega
  have h2 : bl v * (2 * m) ≤ bl v * t := Nat.mul_le_mul_left _ hm
  rw [Nat.mul_left_comm] at h2
  omega
theorem ra_fit3 {v t ro m : Nat} (h : (((bl v : Int) - 1) * (t : Int)) < 32 * (ro : Int)) (ht : t ≤ 1000) (hm : m + 1 ≤ t) : lm (v ^ m) + lm v ≤ ro + 35 := by
  have h0 := lm_pow v m
  have h5 := lm_pow v 1
  rw [Nat.pow_one, Nat.mul_one] at h5
  have h1 : (((bl v * t : Nat) : Int)) < 32 * (ro : Int) + (t : Int) := by
    rw [Int.sub_mul, Int.one_mul] at h
    rw [Int.natCast_mul]
    omega
  have h2 : bl v * (m + 1) ≤ bl v * t := Nat.mul_le_mul_left _ hm
  rw [Nat.mul_add, Nat.mul_one] at h2
  omega
theorem half_pow {t j : Nat} (hj : 0 < j) : t / 2 ^ (j - 1) / 2 = t / 2 ^ j := by
  rw [Nat.div_div_eq_div_mul, ← Nat.pow_succ]
  congr 2; omega
theorem pw_sq (v m : Nat) : v ^ m * v ^ m = v ^ (2 * m) := by rw [← Nat.pow_add]; congr 1; omega
theorem pw_bit1 {v t j : Nat} (hj : 0 < j) (hb : t / 2 ^ (j - 1) % 2 = 1) : v ^ (2 * (t / 2 ^ j)) * v = v ^ (t / 2 ^ (j - 1)) := by
  rw [← Nat.pow_succ]; congr 1
  have := half_pow (t := t) hj
  omega
theorem pw_bit0 {v t j : Nat} (hj : 0 < j) (hb : t / 2 ^ (j - 1) % 2 = 0) : v ^ (2 * (t / 2 ^ j)) = v ^ (t / 2 ^ (j - 1)) := by
  congr 1
  have := half_pow (t := t) hj
  omega
theorem ra_b {b t : Nat} (hb : b ≤ 32768) (ht : t ≤ 1000) : -100000 ≤ ((b : Int) - 1) * (t : Int) ∧ ((b : Int) - 1) * (t : Int) < 100000000 := by
  have h1 : b * t ≤ 32768 * 1000 := Nat.mul_le_mul hb ht
  rw [Int.sub_mul, Int.one_mul, ← Int.natCast_mul]
  omega
set_option maxHeartbeats 4000000 in
set_option maxRecDepth 100000 in
/-- raise(power, base, times, room) -/
theorem c_Be_raise (l : Launch) (D : va_G) (hB : Nat) (hc : Nat) (hm : Nat) (hz : Nat) (hw : Nat) (az : Nat) (qz : Int32) (fz : Nat → Int32) (h1 : Nat) (a1 : Nat) (q1 : Int32) (f1 : Nat → Int32) (h4 : Nat) (a4 : Nat) (k4 : Nat) (f4 : Nat → Int32) (n : Nat) (cI : ClassId) (v4 : Nat) (tm : Nat) (ro : Nat) (sz : Nat) (r4 : Rp f4 k4 v4) (hk4 : k4 ≤ ro) (htm : tm ≤ 1000) (hro : ro ≤ 1024) (hr0 : 0 < ro) (hfit : ro + 100 ≤ n) (hn : n ≤ 2240) : Met l y_Be_raise (wsB y_Be_raise b_Be_raise 6 (some .boolean)) ({ frames := 3, cells := 0, slots := 0, locals := 121 }) (va_Pc [.ref hB, .ref h1, .ref h4, .int (iZ (tm : Int)), .int (iZ (ro : Int))] (wPre D [(cI, .int)] [(hB, .inr (3, [.ref hc, .ref hm, .ref hz, .ref hw])), (hz, .inr (0, [.ref az, .int qz])), (az, .inl (cI, n, .inl fz)), (h1, .inr (0, [.ref a1, .int q1])), (a1, .inl (cI, n, .inl f1)), (h4, .inr (0, [.ref a4, .int (iZ (k4 : Int))])), (a4, .inl (cI, n, .inl f4))] sz)) (va_QV (fun (v_9 : Option Value) (u_9 : Int × Int32 × (Nat → Int32) × Int32 × (Nat → Int32)) => v_9 = some (.int (iZ u_9.1)) ∧ ((u_9.1 = 0 ∧ 32 * (ro : Int) ≤ ((bl v4 : Int) - 1) * (tm : Int)) ∨ (u_9.1 = 1 ∧ ∃ u2 : Nat, u_9.2.2.2.1 = iZ (u2 : Int) ∧ Rp u_9.2.2.2.2 u2 (v4 ^ tm) ∧ u2 ≤ ro + 33))) (fun u_9 => wPost D [(cI, .int)] [(hB, .inr (3, [.ref hc, .ref hm, .ref hz, .ref hw])), (hz, .inr (0, [.ref az, .int qz])), (az, .inl (cI, n, .inl fz)), (h1, .inr (0, [.ref a1, .int q1])), (a1, .inl (cI, n, .inl f1)), (h4, .inr (0, [.ref a4, .int (iZ (k4 : Int))])), (a4, .inl (cI, n, .inl f4))] [(hB, .inr (3, [.ref hc, .ref hm, .ref hz, .ref hw])), (hz, .inr (0, [.ref az, .int u_9.2.1])), (az, .inl (cI, n, .inl u_9.2.2.1)), (h1, .inr (0, [.ref a1, .int u_9.2.2.2.1])), (a1, .inl (cI, n, .inl u_9.2.2.2.2)), (h4, .inr (0, [.ref a4, .int (iZ (k4 : Int))])), (a4, .inl (cI, n, .inl f4))] sz) (va_A [(hB, .inr (3, [.ref hc, .ref hm, .ref hz, .ref hw])), (hz, .inr (0, [.ref az, .int qz])), (az, .inl (cI, n, .inl fz)), (h1, .inr (0, [.ref a1, .int q1])), (a1, .inl (cI, n, .inl f1)), (h4, .inr (0, [.ref a4, .int (iZ (k4 : Int))])), (a4, .inl (cI, n, .inl f4))] sz)) 0 0 (va_A [(hB, .inr (3, [.ref hc, .ref hm, .ref hz, .ref hw])), (hz, .inr (0, [.ref az, .int qz])), (az, .inl (cI, n, .inl fz)), (h1, .inr (0, [.ref a1, .int q1])), (a1, .inl (cI, n, .inl f1)), (h4, .inr (0, [.ref a4, .int (iZ (k4 : Int))])), (a4, .inl (cI, n, .inl f4))] sz) := by
  refine met_enter (by decide +kernel) (Nat.le_of_ble_eq_true rfl) ?_
  intro p e s m args below meth c ls A R Q H locs K hin hAe hA hR hQ hP hK hD hS hl
  obtain ⟨hx, hb, hml, hrt, hlk, hts, hown, hno⟩ := id K
  have hl : lv_has ls 6 [(0, .ref hB), (1, .ref h1), (2, .ref h4), (3, .int (iZ (tm : Int))), (4, .int (iZ (ro : Int)))] := hl
  refine lv_aload_n hx hb d_Be_raise_0 rfl (lv_at hl 2 rfl) ?_
  refine cv (n := 0) (wr := [(hB, .inr (3, [.ref hc, .ref hm, .ref hz, .ref hw])), (hz, .inr (0, [.ref az, .int qz])), (az, .inl (cI, n, .inl fz)), (h1, .inr (0, [.ref a1, .int q1])), (a1, .inl (cI, n, .inl f1))]) (w1 := (fun (u : Int) => [(h4, .inr (0, [.ref a4, .int (iZ (k4 : Int))])), (a4, .inl (cI, n, .inl f4))])) (As := []) (rest := []) K hP hD hK hS hA hl.1 (c_Wh_bits l D h4 a4 k4 n f4 cI v4 H.size r4 (by omega) (by omega)) [5, 6] [0, 1, 2, 3, 4] [0] rfl rfl rfl (by decide) (by decide) (by decide) 0 rfl rfl (big_in mw_434 rfl) (big_in mw_6 rfl) (big_in mw_922 rfl) (big_in mw_432 rfl) (big_in mw_433 rfl) rfl rfl (by decide +kernel) ⟨by rw [hR]; exact Nat.le_of_ble_eq_true rfl, by rw [hR]; exact Nat.le_of_ble_eq_true rfl⟩ rfl (Nat.le_of_ble_eq_true rfl) d_Be_raise_1 ⟨by rw [hR]; exact Nat.le_of_ble_eq_true rfl, by rw [hR]; exact Nat.le_of_ble_eq_true rfl⟩ rfl (fun v u H locs hp1 hP hD hS _ => ?_)
  obtain ⟨rb_, rfl⟩ : ∃ z, z = u := ⟨_, rfl⟩
  obtain ⟨rfl, gb_⟩ := hp1
  have hP : va_P D cls0 [(hB, .inr (3, [.ref hc, .ref hm, .ref hz, .ref hw])), (hz, .inr (0, [.ref az, .int qz])), (az, .inl (cI, n, .inl fz)), (h1, .inr (0, [.ref a1, .int q1])), (a1, .inl (cI, n, .inl f1)), (h4, .inr (0, [.ref a4, .int (iZ (k4 : Int))])), (a4, .inl (cI, n, .inl f4))] H := hP
  have hD : va_D A [(hB, .inr (3, [.ref hc, .ref hm, .ref hz, .ref hw])), (hz, .inr (0, [.ref az, .int qz])), (az, .inl (cI, n, .inl fz)), (h1, .inr (0, [.ref a1, .int q1])), (a1, .inl (cI, n, .inl f1)), (h4, .inr (0, [.ref a4, .int (iZ (k4 : Int))])), (a4, .inl (cI, n, .inl f4))] := hD
  show W p l e R s m args below meth c H locs _ _ Q (F0 m 4 ls [.int (iZ rb_)])
  subst gb_
  have hbb : bl v4 ≤ 32768 := by have q := bl_le_lm v4; rw [← r4.size] at q; omega
  refine lv_iconst (v := iZ (1)) hx hb d_Be_raise_4 (by decide +kernel) ?_
  refine zz_isub hx hb d_Be_raise_5 ?_
  refine lv_iload_n hx hb d_Be_raise_6 rfl (lv_at hl 3 rfl) ?_
  refine zz_imul hx hb d_Be_raise_7 ?_
  refine lv_bipush (v := iZ (32)) hx hb d_Be_raise_8 (by decide +kernel) ?_
  refine lv_iload hx hb d_Be_raise_10 (lv_at hl 4 rfl) ?_
  refine zz_imul hx hb d_Be_raise_12 ?_
  obtain ⟨pp, hpp⟩ : ∃ z : Int, z = ((bl v4 : Int) - 1) * (tm : Int) := ⟨_, rfl⟩
  rw [← hpp]
  have bpp : -100000 ≤ pp ∧ pp < 100000000 := by rw [hpp]; exact ra_b hbb htm
  refine zz_icmp_lt (tgt := 18) hx hb d_Be_raise_13 (by decide) (by omega) (by omega) (fun c13 => ?_) (fun c13 => ?_)
  · refine lv_aload_n hx hb d_Be_raise_18 rfl (lv_at hl 1 rfl) ?_
    refine lv_lconst (v := lZ (1)) hx hb d_Be_raise_19 (by decide +kernel) ?_
    refine cv (n := 1) (wr := [(hB, .inr (3, [.ref hc, .ref hm, .ref hz, .ref hw])), (hz, .inr (0, [.ref az, .int qz])), (az, .inl (cI, n, .inl fz)), (h4, .inr (0, [.ref a4, .int (iZ (k4 : Int))])), (a4, .inl (cI, n, .inl f4))]) (w1 := (fun (u : Nat × (Nat → Int32)) => [(h1, .inr (0, [.ref a1, .int (iZ (u.1 : Int))])), (a1, .inl (cI, n, .inl u.2))])) (As := [.long (lZ 1)]) (rest := []) K hP hD hK hS hA hl.1 (c_Wh_becomeLong l D h1 a1 q1 n f1 cI 1 H.size (by omega) (by omega) (by omega)) [3, 4] [0, 1, 2, 5, 6] [0] rfl rfl rfl (by decide) (by decide) (by decide) 0 rfl rfl (big_in mw_381 rfl) (big_in mw_6 rfl) (big_in mw_923 rfl) (big_in mw_379 rfl) (big_in mw_380 rfl) rfl rfl (by decide +kernel) ⟨by rw [hR]; exact Nat.le_of_ble_eq_true rfl, by rw [hR]; exact Nat.le_of_ble_eq_true rfl⟩ rfl (Nat.le_of_ble_eq_true rfl) d_Be_raise_20 ⟨by rw [hR]; exact Nat.le_of_ble_eq_true rfl, by rw [hR]; exact Nat.le_of_ble_eq_true rfl⟩ rfl (fun v u H locs hp2 hP hD hS _ => ?_)
    obtain ⟨ub, gc⟩ := u
    try dsimp only at hp2
    obtain ⟨rfl, b1, b2⟩ := hp2
    have hP : va_P D cls0 [(hB, .inr (3, [.ref hc, .ref hm, .ref hz, .ref hw])), (hz, .inr (0, [.ref az, .int qz])), (az, .inl (cI, n, .inl fz)), (h4, .inr (0, [.ref a4, .int (iZ (k4 : Int))])), (a4, .inl (cI, n, .inl f4)), (h1, .inr (0, [.ref a1, .int (iZ (ub : Int))])), (a1, .inl (cI, n, .inl gc))] H := hP
    have hD : va_D A [(hB, .inr (3, [.ref hc, .ref hm, .ref hz, .ref hw])), (hz, .inr (0, [.ref az, .int qz])), (az, .inl (cI, n, .inl fz)), (h4, .inr (0, [.ref a4, .int (iZ (k4 : Int))])), (a4, .inl (cI, n, .inl f4)), (h1, .inr (0, [.ref a1, .int (iZ (ub : Int))])), (a1, .inl (cI, n, .inl gc))] := hD
    show W p l e R s m args below meth c H locs _ _ Q (F0 m 23 ls [])
    have hfc : ((bl v4 : Int) - 1) * (tm : Int) < 32 * (ro : Int) := by rw [← hpp]; omega
    refine lv_bipush (v := iZ (31)) hx hb d_Be_raise_23 (by decide +kernel) ?_
    refine lv_iload_n hx hb d_Be_raise_25 rfl (lv_at hl 3 rfl) ?_
    refine cs (n := 1) (wr := [(hB, .inr (3, [.ref hc, .ref hm, .ref hz, .ref hw])), (hz, .inr (0, [.ref az, .int qz])), (az, .inl (cI, n, .inl fz)), (h4, .inr (0, [.ref a4, .int (iZ (k4 : Int))])), (a4, .inl (cI, n, .inl f4)), (h1, .inr (0, [.ref a1, .int (iZ (ub : Int))])), (a1, .inl (cI, n, .inl gc))]) (w1 := (fun (u : Int) => [])) (As := [.int (iZ (tm : Int))]) (rest := [.int (iZ 31)]) K hP hD hK hS hA hl.1 (c_jInt_numberOfLeadingZeros l D (tm : Int) H.size (by omega)) [] [0, 1, 2, 3, 4, 5, 6] [] rfl rfl rfl (by decide) (by decide) (by decide) (big_in mw_437 rfl) (big_in mw_18 rfl) (big_in mw_924 rfl) (big_in mw_436 rfl) rfl rfl (by decide +kernel) ⟨by rw [hR]; exact Nat.le_of_ble_eq_true rfl, by rw [hR]; exact Nat.le_of_ble_eq_true rfl⟩ rfl (Nat.le_of_ble_eq_true rfl) d_Be_raise_26 ⟨by rw [hR]; exact Nat.le_of_ble_eq_true rfl, by rw [hR]; exact Nat.le_of_ble_eq_true rfl⟩ rfl (fun v u H locs hp3 hP hD hS _ => ?_)
    obtain ⟨rl, rfl⟩ : ∃ z, z = u := ⟨_, rfl⟩
    obtain ⟨rfl, gl⟩ := hp3
    have hP : va_P D cls0 [(hB, .inr (3, [.ref hc, .ref hm, .ref hz, .ref hw])), (hz, .inr (0, [.ref az, .int qz])), (az, .inl (cI, n, .inl fz)), (h4, .inr (0, [.ref a4, .int (iZ (k4 : Int))])), (a4, .inl (cI, n, .inl f4)), (h1, .inr (0, [.ref a1, .int (iZ (ub : Int))])), (a1, .inl (cI, n, .inl gc))] H := hP
    have hD : va_D A [(hB, .inr (3, [.ref hc, .ref hm, .ref hz, .ref hw])), (hz, .inr (0, [.ref az, .int qz])), (az, .inl (cI, n, .inl fz)), (h4, .inr (0, [.ref a4, .int (iZ (k4 : Int))])), (a4, .inl (cI, n, .inl f4)), (h1, .inr (0, [.ref a1, .int (iZ (ub : Int))])), (a1, .inl (cI, n, .inl gc))] := hD
    show W p l e R s m args below meth c H locs _ _ Q (F0 m 29 ls [.int (iZ rl), .int (iZ 31)])
    have erl : rl = 32 - (bl tm : Int) := by rw [gl, show ((tm : Int) % 4294967296).toNat = tm by omega]
    subst erl
    refine zz_isub hx hb d_Be_raise_29 ?_
    refine lv_istore (lv' := [(5, .int (iZ (31 - (32 - (bl tm : Int))))), (0, .ref hB), (1, .ref h1), (2, .ref h4), (3, .int (iZ (tm : Int))), (4, .int (iZ (ro : Int)))]) hx hb d_Be_raise_30 hl (by decide) rfl (fun ls hl => ?_)
    have L32 : ∀ (N : Nat) (j : Nat) (kp : Nat) (gp : Nat → Int32) (qy : Int32) (gy : Nat → Int32) (H : Heap) (locs : List Loc) (ls : Array Slot), j < N → (j ≤ 10) → (Rp gp kp (v4 ^ (tm / 2 ^ j))) → va_P D cls0 [(hB, .inr (3, [.ref hc, .ref hm, .ref hz, .ref hw])), (hz, .inr (0, [.ref az, .int qy])), (az, .inl (cI, n, .inl gy)), (h1, .inr (0, [.ref a1, .int (iZ (kp : Int))])), (a1, .inl (cI, n, .inl gp)), (h4, .inr (0, [.ref a4, .int (iZ (k4 : Int))])), (a4, .inl (cI, n, .inl f4))] H → va_D A [(hB, .inr (3, [.ref hc, .ref hm, .ref hz, .ref hw])), (hz, .inr (0, [.ref az, .int qy])), (az, .inl (cI, n, .inl gy)), (h1, .inr (0, [.ref a1, .int (iZ (kp : Int))])), (a1, .inl (cI, n, .inl gp)), (h4, .inr (0, [.ref a4, .int (iZ (k4 : Int))])), (a4, .inl (cI, n, .inl f4))] → va_S A s.heap H locs → lv_has ls 6 [(0, .ref hB), (1, .ref h1), (2, .ref h4), (3, .int (iZ (tm : Int))), (4, .int (iZ (ro : Int))), (5, .int (iZ ((j : Int) - 1)))] → W p l e R s m args below meth c H locs 0 0 Q (F0 m 32 ls []) := by
      intro N
      induction N with
      | zero => intro j kp gp qy gy H locs ls hN; exact absurd hN (Nat.not_lt_zero _)
      | succ N ih =>
        intro j kp gp qy gy H locs ls hN ij ip hP hD hS hl
        refine lv_iload hx hb d_Be_raise_32 (lv_at hl 5 rfl) ?_
        refine zz_if_lt (tgt := 86) hx hb d_Be_raise_34 (by decide) (by omega) (fun c34 => ?_) (fun c34 => ?_)
        · refine lv_iconst (v := iZ (1)) hx hb d_Be_raise_86 (by decide +kernel) ?_
          have hP9 : va_P D cls0 [(hB, .inr (3, [.ref hc, .ref hm, .ref hz, .ref hw])), (hz, .inr (0, [.ref az, .int qy])), (az, .inl (cI, n, .inl gy)), (h1, .inr (0, [.ref a1, .int (iZ (kp : Int))])), (a1, .inl (cI, n, .inl gp)), (h4, .inr (0, [.ref a4, .int (iZ (k4 : Int))])), (a4, .inl (cI, n, .inl f4))] H := hP.sub [0, 1, 2, 3, 4, 5, 6] rfl
          have hD9 : va_D A [(hB, .inr (3, [.ref hc, .ref hm, .ref hz, .ref hw])), (hz, .inr (0, [.ref az, .int qy])), (az, .inl (cI, n, .inl gy)), (h1, .inr (0, [.ref a1, .int (iZ (kp : Int))])), (a1, .inl (cI, n, .inl gp)), (h4, .inr (0, [.ref a4, .int (iZ (k4 : Int))])), (a4, .inl (cI, n, .inl f4))] := hD.sub [0, 1, 2, 3, 4, 5, 6] (by decide) rfl
          rw [hQ, ← hAe]
          refine r_z (v := (iZ 1)) K (1, qy, gy, iZ (kp : Int), gp) hS rfl d_Be_raise_87 ?_ (fun t ht hv => ?_)
          · try dsimp only
            have ej : j = 0 := by omega
            subst ej
            rw [Nat.pow_zero, Nat.div_one] at ip
            exact ⟨rfl, Or.inr ⟨rfl, kp, rfl, ip, by rw [ip.size]; exact ra_fit hfc htm (Nat.le_refl _)⟩⟩
          · exact ⟨by rw [ht]; exact hP9, va_K.moved hv hK, by rw [← hAe]; exact hD9⟩
        · have hm0 := half_pow (t := tm) (j := j) (by omega)
          have hq0 : tm / 2 ^ (j - 1) ≤ tm := Nat.div_le_self _ _
          have hf2 : 2 * kp ≤ ro + 35 := by have q := ra_fit2 hfc htm (m := tm / 2 ^ j) (by omega); rw [← ip.size] at q; exact q
          refine lv_aload_n hx hb d_Be_raise_37 rfl (lv_at hl 0 rfl) ?_
          refine va_get (D := D) (ci := 3) (v := .ref hz) (C := R_Be) (T := F_Be) (N := 4) hx hb hts i_Be hown hK hP 0 rfl rfl 2 (by decide) (hts _ (big_in mw_132 rfl)) (fun _ h9 => h9) rfl d_Be_raise_38 ?_
          refine lv_aload_n hx hb d_Be_raise_41 rfl (lv_at hl 1 rfl) ?_
          refine lv_aload_n hx hb d_Be_raise_42 rfl (lv_at hl 1 rfl) ?_
          refine cv (n := 2) (wr := [(hB, .inr (3, [.ref hc, .ref hm, .ref hz, .ref hw])), (h4, .inr (0, [.ref a4, .int (iZ (k4 : Int))])), (a4, .inl (cI, n, .inl f4))]) (w1 := (fun (u : Nat × (Nat → Int32)) => [(hz, .inr (0, [.ref az, .int (iZ (u.1 : Int))])), (az, .inl (cI, n, .inl u.2)), (h1, .inr (0, [.ref a1, .int (iZ (kp : Int))])), (a1, .inl (cI, n, .inl gp))])) (As := [.ref h1, .ref h1]) (rest := []) K hP hD hK hS hA hl.1 (c_Wh_productSq l D hz az qy n gy h1 a1 kp n gp cI (v4 ^ (tm / 2 ^ j)) H.size ip (by omega) (by omega) (by omega) (by omega)) [1, 2, 3, 4] [0, 5, 6] [0] rfl rfl rfl (by decide) (by decide) (by decide) 0 rfl rfl (big_in mw_854 rfl) (big_in mw_6 rfl) (big_in mw_851 rfl) (big_in mw_852 rfl) (big_in mw_853 rfl) rfl rfl (by decide +kernel) ⟨by rw [hR]; exact Nat.le_of_ble_eq_true rfl, by rw [hR]; exact Nat.le_of_ble_eq_true rfl⟩ rfl (Nat.le_of_ble_eq_true rfl) d_Be_raise_43 ⟨by rw [hR]; exact Nat.le_of_ble_eq_true rfl, by rw [hR]; exact Nat.le_of_ble_eq_true rfl⟩ rfl (fun v u H locs hp4 hP hD hS _ => ?_)
          obtain ⟨us, gs⟩ := u
          try dsimp only at hp4
          obtain ⟨rfl, n1, n2⟩ := hp4
          have hP : va_P D cls0 [(hB, .inr (3, [.ref hc, .ref hm, .ref hz, .ref hw])), (h4, .inr (0, [.ref a4, .int (iZ (k4 : Int))])), (a4, .inl (cI, n, .inl f4)), (hz, .inr (0, [.ref az, .int (iZ (us : Int))])), (az, .inl (cI, n, .inl gs)), (h1, .inr (0, [.ref a1, .int (iZ (kp : Int))])), (a1, .inl (cI, n, .inl gp))] H := hP
          have hD : va_D A [(hB, .inr (3, [.ref hc, .ref hm, .ref hz, .ref hw])), (h4, .inr (0, [.ref a4, .int (iZ (k4 : Int))])), (a4, .inl (cI, n, .inl f4)), (hz, .inr (0, [.ref az, .int (iZ (us : Int))])), (az, .inl (cI, n, .inl gs)), (h1, .inr (0, [.ref a1, .int (iZ (kp : Int))])), (a1, .inl (cI, n, .inl gp))] := hD
          show W p l e R s m args below meth c H locs _ _ Q (F0 m 46 ls [])
          refine lv_aload_n hx hb d_Be_raise_46 rfl (lv_at hl 1 rfl) ?_
          refine lv_aload_n hx hb d_Be_raise_47 rfl (lv_at hl 0 rfl) ?_
          refine va_get (D := D) (ci := 3) (v := .ref hz) (C := R_Be) (T := F_Be) (N := 4) hx hb hts i_Be hown hK hP 0 rfl rfl 2 (by decide) (hts _ (big_in mw_132 rfl)) (fun _ h9 => h9) rfl d_Be_raise_48 ?_
          refine cv (n := 1) (wr := [(hB, .inr (3, [.ref hc, .ref hm, .ref hz, .ref hw])), (h4, .inr (0, [.ref a4, .int (iZ (k4 : Int))])), (a4, .inl (cI, n, .inl f4))]) (w1 := (fun (u : (Nat → Int32)) => [(h1, .inr (0, [.ref a1, .int (iZ (us : Int))])), (a1, .inl (cI, n, .inl u)), (hz, .inr (0, [.ref az, .int (iZ (us : Int))])), (az, .inl (cI, n, .inl gs))])) (As := [.ref hz]) (rest := []) K hP hD hK hS hA hl.1 (c_Wh_become l D h1 a1 (iZ (kp : Int)) n gp hz az us n gs cI H.size (by omega) (by omega) (by omega) (by omega)) [5, 6, 3, 4] [0, 1, 2] [0] rfl rfl rfl (by decide) (by decide) (by decide) 0 rfl rfl (big_in mw_402 rfl) (big_in mw_6 rfl) (big_in mw_785 rfl) (big_in mw_400 rfl) (big_in mw_401 rfl) rfl rfl (by decide +kernel) ⟨by rw [hR]; exact Nat.le_of_ble_eq_true rfl, by rw [hR]; exact Nat.le_of_ble_eq_true rfl⟩ rfl (Nat.le_of_ble_eq_true rfl) d_Be_raise_51 ⟨by rw [hR]; exact Nat.le_of_ble_eq_true rfl, by rw [hR]; exact Nat.le_of_ble_eq_true rfl⟩ rfl (fun v u H locs hp5 hP hD hS _ => ?_)
          obtain ⟨gb1, rfl⟩ : ∃ z, z = u := ⟨_, rfl⟩
          obtain ⟨rfl, pb1⟩ := hp5
          have hP : va_P D cls0 [(hB, .inr (3, [.ref hc, .ref hm, .ref hz, .ref hw])), (h4, .inr (0, [.ref a4, .int (iZ (k4 : Int))])), (a4, .inl (cI, n, .inl f4)), (h1, .inr (0, [.ref a1, .int (iZ (us : Int))])), (a1, .inl (cI, n, .inl gb1)), (hz, .inr (0, [.ref az, .int (iZ (us : Int))])), (az, .inl (cI, n, .inl gs))] H := hP
          have hD : va_D A [(hB, .inr (3, [.ref hc, .ref hm, .ref hz, .ref hw])), (h4, .inr (0, [.ref a4, .int (iZ (k4 : Int))])), (a4, .inl (cI, n, .inl f4)), (h1, .inr (0, [.ref a1, .int (iZ (us : Int))])), (a1, .inl (cI, n, .inl gb1)), (hz, .inr (0, [.ref az, .int (iZ (us : Int))])), (az, .inl (cI, n, .inl gs))] := hD
          show W p l e R s m args below meth c H locs _ _ Q (F0 m 54 ls [])
          have rp1 := n1.congr pb1
          rw [pw_sq] at rp1
          refine lv_iload_n hx hb d_Be_raise_54 rfl (lv_at hl 3 rfl) ?_
          refine lv_iload hx hb d_Be_raise_55 (lv_at hl 5 rfl) ?_
          refine zz_iushr (n := j - 1) hx hb d_Be_raise_57 (by omega) (by omega) (by omega) ?_
          rw [show ((tm : Int) / 2 ^ (j - 1) : Int) = ((tm / 2 ^ (j - 1) : Nat) : Int) by simp]
          refine lv_iconst (v := iZ (1)) hx hb d_Be_raise_58 (by decide +kernel) ?_
          refine zz_iand1 hx hb d_Be_raise_59 ?_
          obtain ⟨bt, hbt⟩ : ∃ x : Nat, x = tm / 2 ^ (j - 1) % 2 := ⟨_, rfl⟩
          rw [show (((uw (iZ ((tm / 2 ^ (j - 1) : Nat) : Int)) % 2 : Nat) : Int) : Int) = (bt : Int) by rw [hbt, uw_of_nat (Nat.lt_of_le_of_lt (Nat.div_le_self _ _) (by omega))]]
          refine zz_if_eq (tgt := 80) hx hb d_Be_raise_60 (by decide) (by omega) (fun c60 => ?_) (fun c60 => ?_)
          · refine lv_iinc (v := iZ ((j : Int) - 1 - 1)) (lv' := [(5, .int (iZ ((j : Int) - 1 - 1))), (0, .ref hB), (1, .ref h1), (2, .ref h4), (3, .int (iZ (tm : Int))), (4, .int (iZ (ro : Int)))]) hx hb d_Be_raise_80 hl (k := 5) rfl (iZ_add _ _) (by decide) rfl (fun ls hl => ?_)
            refine lv_goto (tgt := 32) hx hb d_Be_raise_83 (by decide) ?_
            rw [show ((j : Int) - 1 - 1 : Int) = ((j - 1 : Nat) : Int) - 1 by omega] at hl
            exact ih (j - 1) us gb1 (iZ (us : Int)) gs _ _ _ (by omega) (by omega) (by rw [← pw_bit0 (by omega) (by omega)]; exact rp1) (hP.sub (ws' := [(hB, .inr (3, [.ref hc, .ref hm, .ref hz, .ref hw])), (hz, .inr (0, [.ref az, .int (iZ (us : Int))])), (az, .inl (cI, n, .inl gs)), (h1, .inr (0, [.ref a1, .int (iZ (us : Int))])), (a1, .inl (cI, n, .inl gb1)), (h4, .inr (0, [.ref a4, .int (iZ (k4 : Int))])), (a4, .inl (cI, n, .inl f4))]) [0, 5, 6, 3, 4, 1, 2] rfl) (hD.sub (ws' := [(hB, .inr (3, [.ref hc, .ref hm, .ref hz, .ref hw])), (hz, .inr (0, [.ref az, .int (iZ (us : Int))])), (az, .inl (cI, n, .inl gs)), (h1, .inr (0, [.ref a1, .int (iZ (us : Int))])), (a1, .inl (cI, n, .inl gb1)), (h4, .inr (0, [.ref a4, .int (iZ (k4 : Int))])), (a4, .inl (cI, n, .inl f4))]) [0, 5, 6, 3, 4, 1, 2] (by decide) rfl) hS (lv_sub hl [1, 2, 3, 4, 5, 0] rfl)
          · refine lv_aload_n hx hb d_Be_raise_63 rfl (lv_at hl 0 rfl) ?_
            refine va_get (D := D) (ci := 3) (v := .ref hz) (C := R_Be) (T := F_Be) (N := 4) hx hb hts i_Be hown hK hP 0 rfl rfl 2 (by decide) (hts _ (big_in mw_132 rfl)) (fun _ h9 => h9) rfl d_Be_raise_64 ?_
            refine lv_aload_n hx hb d_Be_raise_67 rfl (lv_at hl 1 rfl) ?_
            refine lv_aload_n hx hb d_Be_raise_68 rfl (lv_at hl 2 rfl) ?_
            refine cv (n := 2) (wr := [(hB, .inr (3, [.ref hc, .ref hm, .ref hz, .ref hw]))]) (w1 := (fun (u : Nat × (Nat → Int32)) => [(hz, .inr (0, [.ref az, .int (iZ (u.1 : Int))])), (az, .inl (cI, n, .inl u.2)), (h1, .inr (0, [.ref a1, .int (iZ (us : Int))])), (a1, .inl (cI, n, .inl gb1)), (h4, .inr (0, [.ref a4, .int (iZ (k4 : Int))])), (a4, .inl (cI, n, .inl f4))])) (As := [.ref h1, .ref h4]) (rest := []) K hP hD hK hS hA hl.1 (c_Wh_productOf l D hz az (iZ (us : Int)) n gs h1 a1 us n gb1 h4 a4 k4 n f4 cI (v4 ^ (2 * (tm / 2 ^ j))) v4 H.size rp1 (by omega) (by omega) r4 (by omega) (by omega) (by omega) (by have q := ra_fit3 hfc htm (m := 2 * (tm / 2 ^ j)) (by omega); rw [← r4.size, ← rp1.size] at q; omega)) [5, 6, 3, 4, 1, 2] [0] [0] rfl rfl rfl (by decide) (by decide) (by decide) 0 rfl rfl (big_in mw_854 rfl) (big_in mw_6 rfl) (big_in mw_851 rfl) (big_in mw_852 rfl) (big_in mw_853 rfl) rfl rfl (by decide +kernel) ⟨by rw [hR]; exact Nat.le_of_ble_eq_true rfl, by rw [hR]; exact Nat.le_of_ble_eq_true rfl⟩ rfl (Nat.le_of_ble_eq_true rfl) d_Be_raise_69 ⟨by rw [hR]; exact Nat.le_of_ble_eq_true rfl, by rw [hR]; exact Nat.le_of_ble_eq_true rfl⟩ rfl (fun v u H locs hp6 hP hD hS _ => ?_)
            obtain ⟨ut, gt⟩ := u
            try dsimp only at hp6
            obtain ⟨rfl, n3, n4⟩ := hp6
            have hP : va_P D cls0 [(hB, .inr (3, [.ref hc, .ref hm, .ref hz, .ref hw])), (hz, .inr (0, [.ref az, .int (iZ (ut : Int))])), (az, .inl (cI, n, .inl gt)), (h1, .inr (0, [.ref a1, .int (iZ (us : Int))])), (a1, .inl (cI, n, .inl gb1)), (h4, .inr (0, [.ref a4, .int (iZ (k4 : Int))])), (a4, .inl (cI, n, .inl f4))] H := hP
            have hD : va_D A [(hB, .inr (3, [.ref hc, .ref hm, .ref hz, .ref hw])), (hz, .inr (0, [.ref az, .int (iZ (ut : Int))])), (az, .inl (cI, n, .inl gt)), (h1, .inr (0, [.ref a1, .int (iZ (us : Int))])), (a1, .inl (cI, n, .inl gb1)), (h4, .inr (0, [.ref a4, .int (iZ (k4 : Int))])), (a4, .inl (cI, n, .inl f4))] := hD
            show W p l e R s m args below meth c H locs _ _ Q (F0 m 72 ls [])
            refine lv_aload_n hx hb d_Be_raise_72 rfl (lv_at hl 1 rfl) ?_
            refine lv_aload_n hx hb d_Be_raise_73 rfl (lv_at hl 0 rfl) ?_
            refine va_get (D := D) (ci := 3) (v := .ref hz) (C := R_Be) (T := F_Be) (N := 4) hx hb hts i_Be hown hK hP 0 rfl rfl 2 (by decide) (hts _ (big_in mw_132 rfl)) (fun _ h9 => h9) rfl d_Be_raise_74 ?_
            refine cv (n := 1) (wr := [(hB, .inr (3, [.ref hc, .ref hm, .ref hz, .ref hw])), (h4, .inr (0, [.ref a4, .int (iZ (k4 : Int))])), (a4, .inl (cI, n, .inl f4))]) (w1 := (fun (u : (Nat → Int32)) => [(h1, .inr (0, [.ref a1, .int (iZ (ut : Int))])), (a1, .inl (cI, n, .inl u)), (hz, .inr (0, [.ref az, .int (iZ (ut : Int))])), (az, .inl (cI, n, .inl gt))])) (As := [.ref hz]) (rest := []) K hP hD hK hS hA hl.1 (c_Wh_become l D h1 a1 (iZ (us : Int)) n gb1 hz az ut n gt cI H.size (by have q := ra_fit3 hfc htm (m := 2 * (tm / 2 ^ j)) (by omega); rw [← r4.size, ← rp1.size] at q; omega) (by have q := ra_fit3 hfc htm (m := 2 * (tm / 2 ^ j)) (by omega); rw [← r4.size, ← rp1.size] at q; omega) (by omega) (by omega)) [3, 4, 1, 2] [0, 5, 6] [0] rfl rfl rfl (by decide) (by decide) (by decide) 0 rfl rfl (big_in mw_402 rfl) (big_in mw_6 rfl) (big_in mw_785 rfl) (big_in mw_400 rfl) (big_in mw_401 rfl) rfl rfl (by decide +kernel) ⟨by rw [hR]; exact Nat.le_of_ble_eq_true rfl, by rw [hR]; exact Nat.le_of_ble_eq_true rfl⟩ rfl (Nat.le_of_ble_eq_true rfl) d_Be_raise_77 ⟨by rw [hR]; exact Nat.le_of_ble_eq_true rfl, by rw [hR]; exact Nat.le_of_ble_eq_true rfl⟩ rfl (fun v u H locs hp7 hP hD hS _ => ?_)
            obtain ⟨gb2, rfl⟩ : ∃ z, z = u := ⟨_, rfl⟩
            obtain ⟨rfl, pb2⟩ := hp7
            have hP : va_P D cls0 [(hB, .inr (3, [.ref hc, .ref hm, .ref hz, .ref hw])), (h4, .inr (0, [.ref a4, .int (iZ (k4 : Int))])), (a4, .inl (cI, n, .inl f4)), (h1, .inr (0, [.ref a1, .int (iZ (ut : Int))])), (a1, .inl (cI, n, .inl gb2)), (hz, .inr (0, [.ref az, .int (iZ (ut : Int))])), (az, .inl (cI, n, .inl gt))] H := hP
            have hD : va_D A [(hB, .inr (3, [.ref hc, .ref hm, .ref hz, .ref hw])), (h4, .inr (0, [.ref a4, .int (iZ (k4 : Int))])), (a4, .inl (cI, n, .inl f4)), (h1, .inr (0, [.ref a1, .int (iZ (ut : Int))])), (a1, .inl (cI, n, .inl gb2)), (hz, .inr (0, [.ref az, .int (iZ (ut : Int))])), (az, .inl (cI, n, .inl gt))] := hD
            show W p l e R s m args below meth c H locs _ _ Q (F0 m 80 ls [])
            refine lv_iinc (v := iZ ((j : Int) - 1 - 1)) (lv' := [(5, .int (iZ ((j : Int) - 1 - 1))), (0, .ref hB), (1, .ref h1), (2, .ref h4), (3, .int (iZ (tm : Int))), (4, .int (iZ (ro : Int)))]) hx hb d_Be_raise_80 hl (k := 5) rfl (iZ_add _ _) (by decide) rfl (fun ls hl => ?_)
            refine lv_goto (tgt := 32) hx hb d_Be_raise_83 (by decide) ?_
            rw [show ((j : Int) - 1 - 1 : Int) = ((j - 1 : Nat) : Int) - 1 by omega] at hl
            exact ih (j - 1) ut gb2 (iZ (ut : Int)) gt _ _ _ (by omega) (by omega) (by rw [← pw_bit1 (by omega) (by omega)]; exact n3.congr pb2) (hP.sub (ws' := [(hB, .inr (3, [.ref hc, .ref hm, .ref hz, .ref hw])), (hz, .inr (0, [.ref az, .int (iZ (ut : Int))])), (az, .inl (cI, n, .inl gt)), (h1, .inr (0, [.ref a1, .int (iZ (ut : Int))])), (a1, .inl (cI, n, .inl gb2)), (h4, .inr (0, [.ref a4, .int (iZ (k4 : Int))])), (a4, .inl (cI, n, .inl f4))]) [0, 5, 6, 3, 4, 1, 2] rfl) (hD.sub (ws' := [(hB, .inr (3, [.ref hc, .ref hm, .ref hz, .ref hw])), (hz, .inr (0, [.ref az, .int (iZ (ut : Int))])), (az, .inl (cI, n, .inl gt)), (h1, .inr (0, [.ref a1, .int (iZ (ut : Int))])), (a1, .inl (cI, n, .inl gb2)), (h4, .inr (0, [.ref a4, .int (iZ (k4 : Int))])), (a4, .inl (cI, n, .inl f4))]) [0, 5, 6, 3, 4, 1, 2] (by decide) rfl) hS (lv_sub hl [1, 2, 3, 4, 5, 0] rfl)
    rw [show (31 - (32 - (bl tm : Int)) : Int) = ((bl tm : Nat) : Int) - 1 by omega] at hl
    exact L32 _ (bl tm) ub gc qz fz _ _ _ (Nat.lt_succ_self _) (bl_lt.mpr (by omega)) (by rw [Nat.div_eq_of_lt (bl_self tm), Nat.pow_zero]; exact b1) (hP.sub (ws' := [(hB, .inr (3, [.ref hc, .ref hm, .ref hz, .ref hw])), (hz, .inr (0, [.ref az, .int qz])), (az, .inl (cI, n, .inl fz)), (h1, .inr (0, [.ref a1, .int (iZ (ub : Int))])), (a1, .inl (cI, n, .inl gc)), (h4, .inr (0, [.ref a4, .int (iZ (k4 : Int))])), (a4, .inl (cI, n, .inl f4))]) [0, 1, 2, 5, 6, 3, 4] rfl) (hD.sub (ws' := [(hB, .inr (3, [.ref hc, .ref hm, .ref hz, .ref hw])), (hz, .inr (0, [.ref az, .int qz])), (az, .inl (cI, n, .inl fz)), (h1, .inr (0, [.ref a1, .int (iZ (ub : Int))])), (a1, .inl (cI, n, .inl gc)), (h4, .inr (0, [.ref a4, .int (iZ (k4 : Int))])), (a4, .inl (cI, n, .inl f4))]) [0, 1, 2, 5, 6, 3, 4] (by decide) rfl) hS (lv_sub hl [1, 2, 3, 4, 5, 0] rfl)
  · refine lv_iconst (v := iZ (0)) hx hb d_Be_raise_16 (by decide +kernel) ?_
    have hP9 : va_P D cls0 [(hB, .inr (3, [.ref hc, .ref hm, .ref hz, .ref hw])), (hz, .inr (0, [.ref az, .int qz])), (az, .inl (cI, n, .inl fz)), (h1, .inr (0, [.ref a1, .int q1])), (a1, .inl (cI, n, .inl f1)), (h4, .inr (0, [.ref a4, .int (iZ (k4 : Int))])), (a4, .inl (cI, n, .inl f4))] H := hP.sub [0, 1, 2, 3, 4, 5, 6] rfl
    have hD9 : va_D A [(hB, .inr (3, [.ref hc, .ref hm, .ref hz, .ref hw])), (hz, .inr (0, [.ref az, .int qz])), (az, .inl (cI, n, .inl fz)), (h1, .inr (0, [.ref a1, .int q1])), (a1, .inl (cI, n, .inl f1)), (h4, .inr (0, [.ref a4, .int (iZ (k4 : Int))])), (a4, .inl (cI, n, .inl f4))] := hD.sub [0, 1, 2, 3, 4, 5, 6] (by decide) rfl
    rw [hQ, ← hAe]
    refine r_z (v := (iZ 0)) K (0, qz, fz, q1, f1) hS rfl d_Be_raise_17 ?_ (fun t ht hv => ?_)
    · try dsimp only
      exact ⟨rfl, Or.inl ⟨rfl, by rw [← hpp]; omega⟩⟩
    · exact ⟨by rw [ht]; exact hP9, va_K.moved hv hK, by rw [← hAe]; exact hD9⟩
