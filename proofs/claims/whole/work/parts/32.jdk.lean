/-! THE JDK'S SMALL METHODS -/
/-- how many bits -/
def bl (w : Nat) : Nat := if w = 0 then 0 else w.log2 + 1
theorem bl_of {w b : Nat} (hb : 0 < b) (h1 : 2 ^ (b - 1) ≤ w) (h2 : w < 2 ^ b) : bl w = b := by
  have h0 : w ≠ 0 := by have := Nat.two_pow_pos (b - 1); omega
  unfold bl
  rw [if_neg h0]
  have a1 : w.log2 < b := (Nat.log2_lt h0).mpr h2
  have a2 : b - 1 ≤ w.log2 := (Nat.le_log2 h0).mpr h1
  omega
theorem bl_0 : bl 0 = 0 := rfl
theorem bl_lt {w b : Nat} : bl w ≤ b ↔ w < 2 ^ b := by
  unfold bl
  by_cases h : w = 0
  · subst h; simp [Nat.two_pow_pos]
  · rw [if_neg h, ← Nat.log2_lt h]; omega
theorem bl_self (w : Nat) : w < 2 ^ bl w := bl_lt.mp (Nat.le_refl _)
theorem bl_pos {w : Nat} (h : 0 < w) : 0 < bl w := by unfold bl; rw [if_neg (by omega)]; omega
theorem bl_ge {w : Nat} (h : 0 < w) : 2 ^ (bl w - 1) ≤ w := by
  unfold bl; rw [if_neg (by omega)]
  exact Nat.log2_self_le (by omega)
def fillF (f : Nat → Int32) (lo hi : Nat) (x : Int32) : Nat → Int32 := fun i => if lo ≤ i ∧ i < hi then x else f i
theorem fillF_0 (f : Nat → Int32) (lo : Nat) (x : Int32) : fillF f lo lo x = f := by funext i; unfold fillF; rw [if_neg (by omega)]
theorem fillF_s {f : Nat → Int32} {lo j : Nat} {x : Int32} (h : lo ≤ j) : upd (fillF f lo j x) j x = fillF f lo (j + 1) x := by
  funext i; unfold fillF upd
  by_cases h1 : i = j
  · rw [if_pos h1, if_pos (by omega)]
  · rw [if_neg h1]
    show (if lo ≤ i ∧ i < j then x else f i) = _
    by_cases h2 : lo ≤ i ∧ i < j
    · rw [if_pos h2, if_pos (by omega)]
    · rw [if_neg h2, if_neg (by omega)]
theorem fillF_in {f : Nat → Int32} {lo hi i : Nat} {x : Int32} (h1 : lo ≤ i) (h2 : i < hi) : fillF f lo hi x i = x := if_pos ⟨h1, h2⟩
theorem fillF_out {f : Nat → Int32} {lo hi i : Nat} {x : Int32} (h : i < lo ∨ hi ≤ i) : fillF f lo hi x i = f i := if_neg (by omega)
set_option maxHeartbeats 4000000 in
set_option maxRecDepth 100000 in
theorem c_jMath_max (l : Launch) (D : va_G) (x : Int) (y : Int) (sz : Nat) (h1 : -2147483648 ≤ x ∧ x < 2147483648) (h2 : -2147483648 ≤ y ∧ y < 2147483648) : Met l y_jMath_max (wsB y_jMath_max b_jMath_max 2 (some .int)) ({ frames := 0, cells := 0, slots := 0, locals := 0 }) (va_Pc [.int (iZ x), .int (iZ y)] (wPre D [] [] sz)) (va_QV (fun (v9 : Option Value) (u9 : Int) => v9 = some (.int (iZ u9)) ∧ (u9 = if x < y then y else x)) (fun u9 => wPost D [] [] [] sz) (va_A [] sz)) 0 0 (va_A [] sz) := by
  refine met_enter (by decide +kernel) (Nat.le_of_ble_eq_true rfl) ?_
  intro p e s m args below meth c ls A R Q H locs K hin hAe hA hR hQ hP hK hD hS hl
  obtain ⟨hx, hb, hml, hrt, hlk, hts, hown, hno⟩ := id K
  have hl : lv_has ls 2 [(0, .int (iZ x)), (1, .int (iZ y))] := hl
  refine lv_iload_n hx hb d_jMath_max_0 rfl (lv_at hl 0 rfl) ?_
  refine lv_iload_n hx hb d_jMath_max_1 rfl (lv_at hl 1 rfl) ?_
  refine zz_icmp_lt (tgt := 9) hx hb d_jMath_max_2 (by decide) (by omega) (by omega) (fun c2 => ?_) (fun c2 => ?_)
  · refine lv_iload_n hx hb d_jMath_max_9 rfl (lv_at hl 1 rfl) ?_
    have hP9 : va_P D cls0 [] H := hP.sub [] rfl
    have hD9 : va_D A [] := hD.sub [] (by decide) rfl
    rw [hQ, ← hAe]
    refine r_i (v := (iZ y)) K y hS d_jMath_max_10 ?_ (fun t ht hv => ?_)
    · refine ⟨rfl, ?_⟩
      first | omega | (rw [if_pos (by omega)]) | (rw [if_neg (by omega)])
    · exact ⟨by rw [ht]; exact hP9, va_K.moved hv hK, by rw [← hAe]; exact hD9⟩
  · refine lv_iload_n hx hb d_jMath_max_5 rfl (lv_at hl 0 rfl) ?_
    refine lv_goto (tgt := 10) hx hb d_jMath_max_6 (by decide) ?_
    have hP9 : va_P D cls0 [] H := hP.sub [] rfl
    have hD9 : va_D A [] := hD.sub [] (by decide) rfl
    rw [hQ, ← hAe]
    refine r_i (v := (iZ x)) K x hS d_jMath_max_10 ?_ (fun t ht hv => ?_)
    · refine ⟨rfl, ?_⟩
      first | omega | (rw [if_pos (by omega)]) | (rw [if_neg (by omega)])
    · exact ⟨by rw [ht]; exact hP9, va_K.moved hv hK, by rw [← hAe]; exact hD9⟩
set_option maxHeartbeats 4000000 in
set_option maxRecDepth 100000 in
theorem c_jMath_min (l : Launch) (D : va_G) (x : Int) (y : Int) (sz : Nat) (h1 : -2147483648 ≤ x ∧ x < 2147483648) (h2 : -2147483648 ≤ y ∧ y < 2147483648) : Met l y_jMath_min (wsB y_jMath_min b_jMath_min 2 (some .int)) ({ frames := 0, cells := 0, slots := 0, locals := 0 }) (va_Pc [.int (iZ x), .int (iZ y)] (wPre D [] [] sz)) (va_QV (fun (v9 : Option Value) (u9 : Int) => v9 = some (.int (iZ u9)) ∧ (u9 = if y < x then y else x)) (fun u9 => wPost D [] [] [] sz) (va_A [] sz)) 0 0 (va_A [] sz) := by
  refine met_enter (by decide +kernel) (Nat.le_of_ble_eq_true rfl) ?_
  intro p e s m args below meth c ls A R Q H locs K hin hAe hA hR hQ hP hK hD hS hl
  obtain ⟨hx, hb, hml, hrt, hlk, hts, hown, hno⟩ := id K
  have hl : lv_has ls 2 [(0, .int (iZ x)), (1, .int (iZ y))] := hl
  refine lv_iload_n hx hb d_jMath_min_0 rfl (lv_at hl 0 rfl) ?_
  refine lv_iload_n hx hb d_jMath_min_1 rfl (lv_at hl 1 rfl) ?_
  refine zz_icmp_gt (tgt := 9) hx hb d_jMath_min_2 (by decide) (by omega) (by omega) (fun c2 => ?_) (fun c2 => ?_)
  · refine lv_iload_n hx hb d_jMath_min_9 rfl (lv_at hl 1 rfl) ?_
    have hP9 : va_P D cls0 [] H := hP.sub [] rfl
    have hD9 : va_D A [] := hD.sub [] (by decide) rfl
    rw [hQ, ← hAe]
    refine r_i (v := (iZ y)) K y hS d_jMath_min_10 ?_ (fun t ht hv => ?_)
    · refine ⟨rfl, ?_⟩
      first | omega | (rw [if_pos (by omega)]) | (rw [if_neg (by omega)])
    · exact ⟨by rw [ht]; exact hP9, va_K.moved hv hK, by rw [← hAe]; exact hD9⟩
  · refine lv_iload_n hx hb d_jMath_min_5 rfl (lv_at hl 0 rfl) ?_
    refine lv_goto (tgt := 10) hx hb d_jMath_min_6 (by decide) ?_
    have hP9 : va_P D cls0 [] H := hP.sub [] rfl
    have hD9 : va_D A [] := hD.sub [] (by decide) rfl
    rw [hQ, ← hAe]
    refine r_i (v := (iZ x)) K x hS d_jMath_min_10 ?_ (fun t ht hv => ?_)
    · refine ⟨rfl, ?_⟩
      first | omega | (rw [if_pos (by omega)]) | (rw [if_neg (by omega)])
    · exact ⟨by rw [ht]; exact hP9, va_K.moved hv hK, by rw [← hAe]; exact hD9⟩
set_option maxHeartbeats 4000000 in
set_option maxRecDepth 100000 in
theorem c_jMath_abs_II (l : Launch) (D : va_G) (x : Int) (sz : Nat) (h1 : -2147483647 ≤ x ∧ x < 2147483648) : Met l y_jMath_abs_II (wsB y_jMath_abs_II b_jMath_abs_II 1 (some .int)) ({ frames := 0, cells := 0, slots := 0, locals := 0 }) (va_Pc [.int (iZ x)] (wPre D [] [] sz)) (va_QV (fun (v9 : Option Value) (u9 : Int) => v9 = some (.int (iZ u9)) ∧ (u9 = if x < 0 then -x else x)) (fun u9 => wPost D [] [] [] sz) (va_A [] sz)) 0 0 (va_A [] sz) := by
  refine met_enter (by decide +kernel) (Nat.le_of_ble_eq_true rfl) ?_
  intro p e s m args below meth c ls A R Q H locs K hin hAe hA hR hQ hP hK hD hS hl
  obtain ⟨hx, hb, hml, hrt, hlk, hts, hown, hno⟩ := id K
  have hl : lv_has ls 1 [(0, .int (iZ x))] := hl
  refine lv_iload_n hx hb d_jMath_abs_II_0 rfl (lv_at hl 0 rfl) ?_
  refine zz_if_ge (tgt := 9) hx hb d_jMath_abs_II_1 (by decide) (by omega) (fun c1 => ?_) (fun c1 => ?_)
  · refine lv_iload_n hx hb d_jMath_abs_II_9 rfl (lv_at hl 0 rfl) ?_
    have hP9 : va_P D cls0 [] H := hP.sub [] rfl
    have hD9 : va_D A [] := hD.sub [] (by decide) rfl
    rw [hQ, ← hAe]
    refine r_i (v := (iZ x)) K x hS d_jMath_abs_II_10 ?_ (fun t ht hv => ?_)
    · refine ⟨rfl, ?_⟩
      first | omega | (rw [if_pos (by omega)]) | (rw [if_neg (by omega)])
    · exact ⟨by rw [ht]; exact hP9, va_K.moved hv hK, by rw [← hAe]; exact hD9⟩
  · refine lv_iload_n hx hb d_jMath_abs_II_4 rfl (lv_at hl 0 rfl) ?_
    refine zz_ineg hx hb d_jMath_abs_II_5 ?_
    refine lv_goto (tgt := 10) hx hb d_jMath_abs_II_6 (by decide) ?_
    have hP9 : va_P D cls0 [] H := hP.sub [] rfl
    have hD9 : va_D A [] := hD.sub [] (by decide) rfl
    rw [hQ, ← hAe]
    refine r_i (v := (iZ (-x))) K (-x) hS d_jMath_abs_II_10 ?_ (fun t ht hv => ?_)
    · refine ⟨rfl, ?_⟩
      first | omega | (rw [if_pos (by omega)]) | (rw [if_neg (by omega)])
    · exact ⟨by rw [ht]; exact hP9, va_K.moved hv hK, by rw [← hAe]; exact hD9⟩
set_option maxHeartbeats 4000000 in
set_option maxRecDepth 100000 in
theorem c_jMath_abs_JJ (l : Launch) (D : va_G) (x : Int) (sz : Nat) (h1 : -9223372036854775808 ≤ x ∧ x < 9223372036854775808) : Met l y_jMath_abs_JJ (wsB y_jMath_abs_JJ b_jMath_abs_JJ 2 (some .long)) ({ frames := 0, cells := 0, slots := 0, locals := 0 }) (va_Pc [.long (lZ x)] (wPre D [] [] sz)) (va_QV (fun (v9 : Option Value) (u9 : Int) => v9 = some (.long (lZ u9)) ∧ (u9 = if x < 0 then -x else x)) (fun u9 => wPost D [] [] [] sz) (va_A [] sz)) 0 0 (va_A [] sz) := by
  refine met_enter (by decide +kernel) (Nat.le_of_ble_eq_true rfl) ?_
  intro p e s m args below meth c ls A R Q H locs K hin hAe hA hR hQ hP hK hD hS hl
  obtain ⟨hx, hb, hml, hrt, hlk, hts, hown, hno⟩ := id K
  have hl : lv_has ls 2 [(0, .long (lZ x))] := hl
  refine lv_lload_n hx hb d_jMath_abs_JJ_0 rfl (lv_at hl 0 rfl) ?_
  refine lv_lconst (v := lZ (0)) hx hb d_jMath_abs_JJ_1 (by decide +kernel) ?_
  refine zz_lcmp_ge (tgt := 11) hx hb d_jMath_abs_JJ_2 d_jMath_abs_JJ_3 (by decide) (by omega) (by omega) (fun c2 => ?_) (fun c2 => ?_)
  · refine lv_lload_n hx hb d_jMath_abs_JJ_11 rfl (lv_at hl 0 rfl) ?_
    have hP9 : va_P D cls0 [] H := hP.sub [] rfl
    have hD9 : va_D A [] := hD.sub [] (by decide) rfl
    rw [hQ, ← hAe]
    refine r_l (v := (lZ x)) K x hS d_jMath_abs_JJ_12 ?_ (fun t ht hv => ?_)
    · refine ⟨rfl, ?_⟩
      first | omega | (rw [if_pos (by omega)]) | (rw [if_neg (by omega)])
    · exact ⟨by rw [ht]; exact hP9, va_K.moved hv hK, by rw [← hAe]; exact hD9⟩
  · refine lv_lload_n hx hb d_jMath_abs_JJ_6 rfl (lv_at hl 0 rfl) ?_
    refine zz_lneg hx hb d_jMath_abs_JJ_7 ?_
    refine lv_goto (tgt := 12) hx hb d_jMath_abs_JJ_8 (by decide) ?_
    have hP9 : va_P D cls0 [] H := hP.sub [] rfl
    have hD9 : va_D A [] := hD.sub [] (by decide) rfl
    rw [hQ, ← hAe]
    refine r_l (v := (lZ (-x))) K (-x) hS d_jMath_abs_JJ_12 ?_ (fun t ht hv => ?_)
    · refine ⟨rfl, ?_⟩
      first | omega | (rw [if_pos (by omega)]) | (rw [if_neg (by omega)])
    · exact ⟨by rw [ht]; exact hP9, va_K.moved hv hK, by rw [← hAe]; exact hD9⟩
set_option maxHeartbeats 4000000 in
set_option maxRecDepth 100000 in
theorem c_jInt_compare (l : Launch) (D : va_G) (x : Int) (y : Int) (sz : Nat) (h1 : -2147483648 ≤ x ∧ x < 2147483648) (h2 : -2147483648 ≤ y ∧ y < 2147483648) : Met l y_jInt_compare (wsB y_jInt_compare b_jInt_compare 2 (some .int)) ({ frames := 0, cells := 0, slots := 0, locals := 0 }) (va_Pc [.int (iZ x), .int (iZ y)] (wPre D [] [] sz)) (va_QV (fun (v9 : Option Value) (u9 : Int) => v9 = some (.int (iZ u9)) ∧ (u9 = cmpZ x y)) (fun u9 => wPost D [] [] [] sz) (va_A [] sz)) 0 0 (va_A [] sz) := by
  refine met_enter (by decide +kernel) (Nat.le_of_ble_eq_true rfl) ?_
  intro p e s m args below meth c ls A R Q H locs K hin hAe hA hR hQ hP hK hD hS hl
  obtain ⟨hx, hb, hml, hrt, hlk, hts, hown, hno⟩ := id K
  have hl : lv_has ls 2 [(0, .int (iZ x)), (1, .int (iZ y))] := hl
  refine lv_iload_n hx hb d_jInt_compare_0 rfl (lv_at hl 0 rfl) ?_
  refine lv_iload_n hx hb d_jInt_compare_1 rfl (lv_at hl 1 rfl) ?_
  refine zz_icmp_ge (tgt := 9) hx hb d_jInt_compare_2 (by decide) (by omega) (by omega) (fun c2 => ?_) (fun c2 => ?_)
  · refine lv_iload_n hx hb d_jInt_compare_9 rfl (lv_at hl 0 rfl) ?_
    refine lv_iload_n hx hb d_jInt_compare_10 rfl (lv_at hl 1 rfl) ?_
    refine zz_icmp_ne (tgt := 18) hx hb d_jInt_compare_11 (by decide) (by omega) (by omega) (fun c11 => ?_) (fun c11 => ?_)
    · refine lv_iconst (v := iZ (1)) hx hb d_jInt_compare_18 (by decide +kernel) ?_
      have hP9 : va_P D cls0 [] H := hP.sub [] rfl
      have hD9 : va_D A [] := hD.sub [] (by decide) rfl
      rw [hQ, ← hAe]
      refine r_i (v := (iZ 1)) K 1 hS d_jInt_compare_19 ?_ (fun t ht hv => ?_)
      · refine ⟨rfl, ?_⟩
        unfold cmpZ
        first | rw [if_pos (by omega)] | rw [if_neg (by omega), if_pos (by omega)] | rw [if_neg (by omega), if_neg (by omega)]
      · exact ⟨by rw [ht]; exact hP9, va_K.moved hv hK, by rw [← hAe]; exact hD9⟩
    · refine lv_iconst (v := iZ (0)) hx hb d_jInt_compare_14 (by decide +kernel) ?_
      refine lv_goto (tgt := 19) hx hb d_jInt_compare_15 (by decide) ?_
      have hP9 : va_P D cls0 [] H := hP.sub [] rfl
      have hD9 : va_D A [] := hD.sub [] (by decide) rfl
      rw [hQ, ← hAe]
      refine r_i (v := (iZ 0)) K 0 hS d_jInt_compare_19 ?_ (fun t ht hv => ?_)
      · refine ⟨rfl, ?_⟩
        unfold cmpZ
        first | rw [if_pos (by omega)] | rw [if_neg (by omega), if_pos (by omega)] | rw [if_neg (by omega), if_neg (by omega)]
      · exact ⟨by rw [ht]; exact hP9, va_K.moved hv hK, by rw [← hAe]; exact hD9⟩
  · refine lv_iconst (v := iZ (-1)) hx hb d_jInt_compare_5 (by decide +kernel) ?_
    refine lv_goto (tgt := 19) hx hb d_jInt_compare_6 (by decide) ?_
    have hP9 : va_P D cls0 [] H := hP.sub [] rfl
    have hD9 : va_D A [] := hD.sub [] (by decide) rfl
    rw [hQ, ← hAe]
    refine r_i (v := (iZ (-1))) K (-1) hS d_jInt_compare_19 ?_ (fun t ht hv => ?_)
    · refine ⟨rfl, ?_⟩
      unfold cmpZ
      first | rw [if_pos (by omega)] | rw [if_neg (by omega), if_pos (by omega)] | rw [if_neg (by omega), if_neg (by omega)]
    · exact ⟨by rw [ht]; exact hP9, va_K.moved hv hK, by rw [← hAe]; exact hD9⟩
set_option maxHeartbeats 4000000 in
set_option maxRecDepth 100000 in
theorem c_jLong_compare (l : Launch) (D : va_G) (x : Int) (y : Int) (sz : Nat) (h1 : -9223372036854775808 ≤ x ∧ x < 9223372036854775808) (h2 : -9223372036854775808 ≤ y ∧ y < 9223372036854775808) : Met l y_jLong_compare (wsB y_jLong_compare b_jLong_compare 4 (some .int)) ({ frames := 0, cells := 0, slots := 0, locals := 0 }) (va_Pc [.long (lZ x), .long (lZ y)] (wPre D [] [] sz)) (va_QV (fun (v9 : Option Value) (u9 : Int) => v9 = some (.int (iZ u9)) ∧ (u9 = cmpZ x y)) (fun u9 => wPost D [] [] [] sz) (va_A [] sz)) 0 0 (va_A [] sz) := by
  refine met_enter (by decide +kernel) (Nat.le_of_ble_eq_true rfl) ?_
  intro p e s m args below meth c ls A R Q H locs K hin hAe hA hR hQ hP hK hD hS hl
  obtain ⟨hx, hb, hml, hrt, hlk, hts, hown, hno⟩ := id K
  have hl : lv_has ls 4 [(0, .long (lZ x)), (2, .long (lZ y))] := hl
  refine lv_lload_n hx hb d_jLong_compare_0 rfl (lv_at hl 0 rfl) ?_
  refine lv_lload_n hx hb d_jLong_compare_1 rfl (lv_at hl 1 rfl) ?_
  refine zz_lcmp_ge (tgt := 10) hx hb d_jLong_compare_2 d_jLong_compare_3 (by decide) (by omega) (by omega) (fun c2 => ?_) (fun c2 => ?_)
  · refine lv_lload_n hx hb d_jLong_compare_10 rfl (lv_at hl 0 rfl) ?_
    refine lv_lload_n hx hb d_jLong_compare_11 rfl (lv_at hl 1 rfl) ?_
    refine zz_lcmp_ne (tgt := 20) hx hb d_jLong_compare_12 d_jLong_compare_13 (by decide) (by omega) (by omega) (fun c12 => ?_) (fun c12 => ?_)
    · refine lv_iconst (v := iZ (1)) hx hb d_jLong_compare_20 (by decide +kernel) ?_
      have hP9 : va_P D cls0 [] H := hP.sub [] rfl
      have hD9 : va_D A [] := hD.sub [] (by decide) rfl
      rw [hQ, ← hAe]
      refine r_i (v := (iZ 1)) K 1 hS d_jLong_compare_21 ?_ (fun t ht hv => ?_)
      · refine ⟨rfl, ?_⟩
        unfold cmpZ
        first | rw [if_pos (by omega)] | rw [if_neg (by omega), if_pos (by omega)] | rw [if_neg (by omega), if_neg (by omega)]
      · exact ⟨by rw [ht]; exact hP9, va_K.moved hv hK, by rw [← hAe]; exact hD9⟩
    · refine lv_iconst (v := iZ (0)) hx hb d_jLong_compare_16 (by decide +kernel) ?_
      refine lv_goto (tgt := 21) hx hb d_jLong_compare_17 (by decide) ?_
      have hP9 : va_P D cls0 [] H := hP.sub [] rfl
      have hD9 : va_D A [] := hD.sub [] (by decide) rfl
      rw [hQ, ← hAe]
      refine r_i (v := (iZ 0)) K 0 hS d_jLong_compare_21 ?_ (fun t ht hv => ?_)
      · refine ⟨rfl, ?_⟩
        unfold cmpZ
        first | rw [if_pos (by omega)] | rw [if_neg (by omega), if_pos (by omega)] | rw [if_neg (by omega), if_neg (by omega)]
      · exact ⟨by rw [ht]; exact hP9, va_K.moved hv hK, by rw [← hAe]; exact hD9⟩
  · refine lv_iconst (v := iZ (-1)) hx hb d_jLong_compare_6 (by decide +kernel) ?_
    refine lv_goto (tgt := 21) hx hb d_jLong_compare_7 (by decide) ?_
    have hP9 : va_P D cls0 [] H := hP.sub [] rfl
    have hD9 : va_D A [] := hD.sub [] (by decide) rfl
    rw [hQ, ← hAe]
    refine r_i (v := (iZ (-1))) K (-1) hS d_jLong_compare_21 ?_ (fun t ht hv => ?_)
    · refine ⟨rfl, ?_⟩
      unfold cmpZ
      first | rw [if_pos (by omega)] | rw [if_neg (by omega), if_pos (by omega)] | rw [if_neg (by omega), if_neg (by omega)]
    · exact ⟨by rw [ht]; exact hP9, va_K.moved hv hK, by rw [← hAe]; exact hD9⟩
set_option maxHeartbeats 4000000 in
set_option maxRecDepth 100000 in
theorem c_jLong_compareUnsigned (l : Launch) (D : va_G) (x : Int) (y : Int) (sz : Nat) (h1 : 0 ≤ x ∧ x < 18446744073709551616) (h2 : 0 ≤ y ∧ y < 18446744073709551616) : Met l y_jLong_compareUnsigned (wsB y_jLong_compareUnsigned b_jLong_compareUnsigned 4 (some .int)) ({ frames := 1, cells := 0, slots := 0, locals := 23 }) (va_Pc [.long (lZ x), .long (lZ y)] (wPre D [] [] sz)) (va_QV (fun (v9 : Option Value) (u9 : Int) => v9 = some (.int (iZ u9)) ∧ (u9 = cmpZ x y)) (fun u9 => wPost D [] [] [] sz) (va_A [] sz)) 0 0 (va_A [] sz) := by
  refine met_enter (by decide +kernel) (Nat.le_of_ble_eq_true rfl) ?_
  intro p e s m args below meth c ls A R Q H locs K hin hAe hA hR hQ hP hK hD hS hl
  obtain ⟨hx, hb, hml, hrt, hlk, hts, hown, hno⟩ := id K
  have hl : lv_has ls 4 [(0, .long (lZ x)), (2, .long (lZ y))] := hl
  refine lv_lload_n hx hb d_jLong_compareUnsigned_0 rfl (lv_at hl 0 rfl) ?_
  refine lv_ldc2 (v := lZ (-9223372036854775808)) hx hb hown (hts _ (big_in mw_761 rfl)) d_jLong_compareUnsigned_1 ?_
  refine zz_ladd hx hb d_jLong_compareUnsigned_4 ?_
  refine lv_lload_n hx hb d_jLong_compareUnsigned_5 rfl (lv_at hl 1 rfl) ?_
  refine lv_ldc2 (v := lZ (-9223372036854775808)) hx hb hown (hts _ (big_in mw_761 rfl)) d_jLong_compareUnsigned_6 ?_
  refine zz_ladd hx hb d_jLong_compareUnsigned_9 ?_
  refine cs (n := 2) (wr := []) (w1 := (fun (u : Int) => [])) (As := [.long (lZ (x + (-9223372036854775808))), .long (lZ (y + (-9223372036854775808)))]) (rest := []) K hP hD hK hS hA hl.1 (c_jLong_compare l D (x + (-9223372036854775808)) (y + (-9223372036854775808)) H.size (by omega) (by omega)) [] [] [] rfl rfl rfl (by decide) (by decide) (by decide) (big_in mw_764 rfl) (big_in mw_29 rfl) (big_in mw_762 rfl) (big_in mw_763 rfl) rfl rfl (by decide +kernel) ⟨by rw [hR]; exact Nat.le_of_ble_eq_true rfl, by rw [hR]; exact Nat.le_of_ble_eq_true rfl⟩ rfl (Nat.le_of_ble_eq_true rfl) d_jLong_compareUnsigned_10 ⟨by rw [hR]; exact Nat.le_of_ble_eq_true rfl, by rw [hR]; exact Nat.le_of_ble_eq_true rfl⟩ rfl (fun v u H locs hp1 hP hD hS _ => ?_)
  obtain ⟨r1, rfl⟩ : ∃ z, z = u := ⟨_, rfl⟩
  obtain ⟨rfl, g2⟩ := hp1
  have hP : va_P D cls0 [] H := hP
  have hD : va_D A [] := hD
  show W p l e R s m args below meth c H locs _ _ Q (F0 m 13 ls [.int (iZ r1)])
  have hP9 : va_P D cls0 [] H := hP.sub [] rfl
  have hD9 : va_D A [] := hD.sub [] (by decide) rfl
  rw [hQ, ← hAe]
  refine r_i (v := (iZ r1)) K r1 hS d_jLong_compareUnsigned_13 ?_ (fun t ht hv => ?_)
  · refine ⟨rfl, ?_⟩
    rw [g2]
    unfold cmpZ
    by_cases q1 : x < y
    · rw [if_pos (by omega), if_pos q1]
    · rw [if_neg (by omega), if_neg q1]
      by_cases q2 : x = y
      · rw [if_pos (by omega), if_pos q2]
      · rw [if_neg (by omega), if_neg q2]
  · exact ⟨by rw [ht]; exact hP9, va_K.moved hv hK, by rw [← hAe]; exact hD9⟩
set_option maxHeartbeats 4000000 in
set_option maxRecDepth 100000 in
theorem c_jArr_rangeCheck (l : Launch) (D : va_G) (n : Int) (x : Int) (y : Int) (sz : Nat) (h0 : 0 ≤ x ∧ x ≤ y ∧ y ≤ n ∧ n < 2147483648) : Met l y_jArr_rangeCheck (wsB y_jArr_rangeCheck b_jArr_rangeCheck 3 none) ({ frames := 0, cells := 0, slots := 0, locals := 0 }) (va_Pc [.int (iZ n), .int (iZ x), .int (iZ y)] (wPre D [] [] sz)) (va_QV (fun (v9 : Option Value) (u9 : Unit) => v9 = none) (fun u9 => wPost D [] [] [] sz) (va_A [] sz)) 0 0 (va_A [] sz) := by
  refine met_enter (by decide +kernel) (Nat.le_of_ble_eq_true rfl) ?_
  intro p e s m args below meth c ls A R Q H locs K hin hAe hA hR hQ hP hK hD hS hl
  obtain ⟨hx, hb, hml, hrt, hlk, hts, hown, hno⟩ := id K
  have hl : lv_has ls 3 [(0, .int (iZ n)), (1, .int (iZ x)), (2, .int (iZ y))] := hl
  refine lv_iload_n hx hb d_jArr_rangeCheck_0 rfl (lv_at hl 1 rfl) ?_
  refine lv_iload_n hx hb d_jArr_rangeCheck_1 rfl (lv_at hl 2 rfl) ?_
  refine zz_icmp_le (tgt := 46) hx hb d_jArr_rangeCheck_2 (by decide) (by omega) (by omega) (fun c2 => ?_) (fun c2 => False.elim (by omega))
  refine lv_iload_n hx hb d_jArr_rangeCheck_46 rfl (lv_at hl 1 rfl) ?_
  refine zz_if_ge (tgt := 59) hx hb d_jArr_rangeCheck_47 (by decide) (by omega) (fun c47 => ?_) (fun c47 => False.elim (by omega))
  refine lv_iload_n hx hb d_jArr_rangeCheck_59 rfl (lv_at hl 2 rfl) ?_
  refine lv_iload_n hx hb d_jArr_rangeCheck_60 rfl (lv_at hl 0 rfl) ?_
  refine zz_icmp_le (tgt := 73) hx hb d_jArr_rangeCheck_61 (by decide) (by omega) (by omega) (fun c61 => ?_) (fun c61 => False.elim (by omega))
  have hP9 : va_P D cls0 [] H := hP.sub [] rfl
  have hD9 : va_D A [] := hD.sub [] (by decide) rfl
  rw [hQ, ← hAe]
  refine r_v K () hS d_jArr_rangeCheck_73 ?_ (fun t ht hv => ?_)
  · exact rfl
  · exact ⟨by rw [ht]; exact hP9, va_K.moved hv hK, by rw [← hAe]; exact hD9⟩
set_option maxHeartbeats 4000000 in
set_option maxRecDepth 100000 in
theorem c_jArr_fill (l : Launch) (D : va_G) (a : Nat) (n : Nat) (f : Nat → Int32) (cI : ClassId) (lo : Nat) (hi : Nat) (x : Int32) (sz : Nat) (h1 : lo ≤ hi) (h2 : hi ≤ n) (hn : n < 1000000) : Met l y_jArr_fill (wsB y_jArr_fill b_jArr_fill 5 none) ({ frames := 1, cells := 0, slots := 0, locals := 22 }) (va_Pc [.ref a, .int (iZ (lo : Int)), .int (iZ (hi : Int)), .int x] (wPre D [(cI, .int)] [(a, .inl (cI, n, .inl f))] sz)) (va_QV (fun (v9 : Option Value) (u9 : Unit) => v9 = none) (fun u9 => wPost D [(cI, .int)] [(a, .inl (cI, n, .inl f))] [(a, .inl (cI, n, .inl (fillF f lo hi x)))] sz) (va_A [(a, .inl (cI, n, .inl f))] sz)) 0 0 (va_A [(a, .inl (cI, n, .inl f))] sz) := by
  refine met_enter (by decide +kernel) (Nat.le_of_ble_eq_true rfl) ?_
  intro p e s m args below meth c ls A R Q H locs K hin hAe hA hR hQ hP hK hD hS hl
  obtain ⟨hx, hb, hml, hrt, hlk, hts, hown, hno⟩ := id K
  have hl : lv_has ls 5 [(0, .ref a), (1, .int (iZ (lo : Int))), (2, .int (iZ (hi : Int))), (3, .int x)] := hl
  refine lv_aload_n hx hb d_jArr_fill_0 rfl (lv_at hl 0 rfl) ?_
  refine va_alen hx hb hK hP 0 0 rfl rfl (v := iZ (n : Int)) (nI_iZ _) d_jArr_fill_1 ?_
  refine lv_iload_n hx hb d_jArr_fill_2 rfl (lv_at hl 1 rfl) ?_
  refine lv_iload_n hx hb d_jArr_fill_3 rfl (lv_at hl 2 rfl) ?_
  refine cs (n := 3) (wr := [(a, .inl (cI, n, .inl f))]) (w1 := (fun (u : Unit) => [])) (As := [.int (iZ (n : Int)), .int (iZ (lo : Int)), .int (iZ (hi : Int))]) (rest := []) K hP hD hK hS hA hl.1 (c_jArr_rangeCheck l D (n : Int) (lo : Int) (hi : Int) H.size (by omega)) [] [0] [] rfl rfl rfl (by decide) (by decide) (by decide) (big_in mw_463 rfl) (big_in mw_19 rfl) (big_in mw_461 rfl) (big_in mw_462 rfl) rfl rfl (by decide +kernel) ⟨by rw [hR]; exact Nat.le_of_ble_eq_true rfl, by rw [hR]; exact Nat.le_of_ble_eq_true rfl⟩ rfl (Nat.le_of_ble_eq_true rfl) d_jArr_fill_4 ⟨by rw [hR]; exact Nat.le_of_ble_eq_true rfl, by rw [hR]; exact Nat.le_of_ble_eq_true rfl⟩ rfl (fun v u H locs hp1 hP hD hS _ => ?_)
  obtain rfl := hp1
  have hP : va_P D cls0 [(a, .inl (cI, n, .inl f))] H := hP
  have hD : va_D A [(a, .inl (cI, n, .inl f))] := hD
  show W p l e R s m args below meth c H locs _ _ Q (F0 m 7 ls [])
  refine lv_iload_n hx hb d_jArr_fill_7 rfl (lv_at hl 1 rfl) ?_
  rw [← fillF_0 f lo x] at hP hD
  refine lv_istore (lv' := [(4, .int (iZ (lo : Int))), (0, .ref a), (1, .int (iZ (lo : Int))), (2, .int (iZ (hi : Int))), (3, .int x)]) hx hb d_jArr_fill_8 hl (by decide) rfl (fun ls hl => ?_)
  have L10 : ∀ (N : Nat) (j : Nat) (H : Heap) (locs : List Loc) (ls : Array Slot), hi - j < N → (lo ≤ j) → (j ≤ hi) → va_P D cls0 [(a, .inl (cI, n, .inl (fillF f lo j x)))] H → va_D A [(a, .inl (cI, n, .inl (fillF f lo j x)))] → va_S A s.heap H locs → lv_has ls 5 [(0, .ref a), (1, .int (iZ (lo : Int))), (2, .int (iZ (hi : Int))), (3, .int x), (4, .int (iZ (j : Int)))] → W p l e R s m args below meth c H locs 0 0 Q (F0 m 10 ls []) := by
    intro N
    induction N with
    | zero => intro j H locs ls hN; exact absurd hN (Nat.not_lt_zero _)
    | succ N ih =>
      intro j H locs ls hN i1 i2 hP hD hS hl
      refine lv_iload hx hb d_jArr_fill_10 (lv_at hl 4 rfl) ?_
      refine lv_iload_n hx hb d_jArr_fill_12 rfl (lv_at hl 2 rfl) ?_
      refine zz_icmp_ge (tgt := 27) hx hb d_jArr_fill_13 (by decide) (by omega) (by omega) (fun c13 => ?_) (fun c13 => ?_)
      · have ej : j = hi := by omega
        rw [ej] at hP hD
        have hP9 : va_P D cls0 [(a, .inl (cI, n, .inl (fillF f lo hi x)))] H := hP.sub [0] rfl
        have hD9 : va_D A [(a, .inl (cI, n, .inl (fillF f lo hi x)))] := hD.sub [0] (by decide) rfl
        rw [hQ, ← hAe]
        refine r_v K () hS d_jArr_fill_27 ?_ (fun t ht hv => ?_)
        · exact rfl
        · exact ⟨by rw [ht]; exact hP9, va_K.moved hv hK, by rw [← hAe]; exact hD9⟩
      · refine lv_aload_n hx hb d_jArr_fill_16 rfl (lv_at hl 0 rfl) ?_
        refine lv_iload hx hb d_jArr_fill_17 (lv_at hl 4 rfl) ?_
        refine lv_iload_n hx hb d_jArr_fill_19 rfl (lv_at hl 3 rfl) ?_
        refine zz_iast hx hb hK hP hD hS 0 0 rfl rfl (j) (by omega) (by omega) (by omega) d_jArr_fill_20 (fun H locs hP hD hS => ?_)
        have hP : va_P D cls0 [(a, .inl (cI, n, .inl (upd (fillF f lo j x) j x)))] H := hP
        have hD : va_D A [(a, .inl (cI, n, .inl (upd (fillF f lo j x) j x)))] := hD
        rw [fillF_s i1] at hP hD
        refine lv_iinc (v := iZ ((j : Int) + 1)) (lv' := [(4, .int (iZ ((j : Int) + 1))), (0, .ref a), (1, .int (iZ (lo : Int))), (2, .int (iZ (hi : Int))), (3, .int x)]) hx hb d_jArr_fill_21 hl (k := 4) rfl (iZ_add _ _) (by decide) rfl (fun ls hl => ?_)
        refine lv_goto (tgt := 10) hx hb d_jArr_fill_24 (by decide) ?_
        rw [show ((j : Int) + 1 : Int) = ((j + 1 : Nat) : Int) by omega] at hl
        exact ih (j + 1) _ _ _ (by omega) (by omega) (by omega) (hP.sub (ws' := [(a, .inl (cI, n, .inl (fillF f lo (j + 1) x)))]) [0] rfl) (hD.sub (ws' := [(a, .inl (cI, n, .inl (fillF f lo (j + 1) x)))]) [0] (by decide) rfl) hS (lv_sub hl [1, 2, 3, 4, 0] rfl)
  exact L10 _ lo _ _ _ (Nat.lt_succ_self _) (by omega) (by omega) (hP.sub (ws' := [(a, .inl (cI, n, .inl (fillF f lo lo x)))]) [0] rfl) (hD.sub (ws' := [(a, .inl (cI, n, .inl (fillF f lo lo x)))]) [0] (by decide) rfl) hS (lv_sub hl [1, 2, 3, 4, 0] rfl)
set_option maxHeartbeats 4000000 in
set_option maxRecDepth 100000 in
theorem c_jInt_numberOfLeadingZeros (l : Launch) (D : va_G) (z : Int) (sz : Nat) (h1 : -2147483648 ≤ z ∧ z < 2147483648) : Met l y_jInt_numberOfLeadingZeros (wsB y_jInt_numberOfLeadingZeros b_jInt_numberOfLeadingZeros 2 (some .int)) ({ frames := 0, cells := 0, slots := 0, locals := 0 }) (va_Pc [.int (iZ z)] (wPre D [] [] sz)) (va_QV (fun (v9 : Option Value) (u9 : Int) => v9 = some (.int (iZ u9)) ∧ (u9 = 32 - (bl (z % 4294967296).toNat : Int))) (fun u9 => wPost D [] [] [] sz) (va_A [] sz)) 0 0 (va_A [] sz) := by
  refine met_enter (by decide +kernel) (Nat.le_of_ble_eq_true rfl) ?_
  intro p e s m args below meth c ls A R Q H locs K hin hAe hA hR hQ hP hK hD hS hl
  obtain ⟨hx, hb, hml, hrt, hlk, hts, hown, hno⟩ := id K
  have hl : lv_has ls 2 [(0, .int (iZ z))] := hl
  refine lv_iload_n hx hb d_jInt_numberOfLeadingZeros_0 rfl (lv_at hl 0 rfl) ?_
  refine zz_if_gt (tgt := 15) hx hb d_jInt_numberOfLeadingZeros_1 (by decide) (by omega) (fun c1 => ?_) (fun c1 => ?_)
  · refine lv_bipush (v := iZ (31)) hx hb d_jInt_numberOfLeadingZeros_15 (by decide +kernel) ?_
    refine lv_istore_n (lv' := [(1, .int (iZ 31)), (0, .int (iZ z))]) hx hb d_jInt_numberOfLeadingZeros_17 rfl hl (by decide) rfl (fun ls hl => ?_)
    refine lv_iload_n hx hb d_jInt_numberOfLeadingZeros_18 rfl (lv_at hl 1 rfl) ?_
    refine lv_ldcw (v := iZ (65536)) hx hb hown (hts _ (big_in mw_438 rfl)) d_jInt_numberOfLeadingZeros_19 ?_
    refine zz_icmp_lt (tgt := 33) hx hb d_jInt_numberOfLeadingZeros_22 (by decide) (by omega) (by omega) (fun c22 => ?_) (fun c22 => ?_)
    · refine lv_iload_n hx hb d_jInt_numberOfLeadingZeros_33 rfl (lv_at hl 1 rfl) ?_
      refine lv_sipush (v := iZ (256)) hx hb d_jInt_numberOfLeadingZeros_34 (by decide +kernel) ?_
      refine zz_icmp_lt (tgt := 48) hx hb d_jInt_numberOfLeadingZeros_37 (by decide) (by omega) (by omega) (fun c37 => ?_) (fun c37 => ?_)
      · refine lv_iload_n hx hb d_jInt_numberOfLeadingZeros_48 rfl (lv_at hl 1 rfl) ?_
        refine lv_bipush (v := iZ (16)) hx hb d_jInt_numberOfLeadingZeros_49 (by decide +kernel) ?_
        refine zz_icmp_lt (tgt := 61) hx hb d_jInt_numberOfLeadingZeros_51 (by decide) (by omega) (by omega) (fun c51 => ?_) (fun c51 => ?_)
        · refine lv_iload_n hx hb d_jInt_numberOfLeadingZeros_61 rfl (lv_at hl 1 rfl) ?_
          refine lv_iconst (v := iZ (4)) hx hb d_jInt_numberOfLeadingZeros_62 (by decide +kernel) ?_
          refine zz_icmp_lt (tgt := 73) hx hb d_jInt_numberOfLeadingZeros_63 (by decide) (by omega) (by omega) (fun c63 => ?_) (fun c63 => ?_)
          · refine lv_iload_n hx hb d_jInt_numberOfLeadingZeros_73 rfl (lv_at hl 0 rfl) ?_
            refine lv_iload_n hx hb d_jInt_numberOfLeadingZeros_74 rfl (lv_at hl 1 rfl) ?_
            refine lv_iconst (v := iZ (1)) hx hb d_jInt_numberOfLeadingZeros_75 (by decide +kernel) ?_
            refine zz_iushr (n := 1) hx hb d_jInt_numberOfLeadingZeros_76 (by omega) (by omega) (by omega) ?_
            refine zz_isub hx hb d_jInt_numberOfLeadingZeros_77 ?_
            have hP9 : va_P D cls0 [] H := hP.sub [] rfl
            have hD9 : va_D A [] := hD.sub [] (by decide) rfl
            rw [hQ, ← hAe]
            refine r_i (v := (iZ (31 - (z / 2 ^ 1)))) K (31 - (z / 2 ^ 1)) hS d_jInt_numberOfLeadingZeros_78 ?_ (fun t ht hv => ?_)
            · refine ⟨rfl, ?_⟩
              rcases (show (z / 2 ^ 1) = 0 ∨ (z / 2 ^ 1) = 1 by omega) with q | q
              · rw [q, bl_of (b := 1) (by decide) (by omega) (by omega)]; rfl
              · rw [q, bl_of (b := 2) (by decide) (by omega) (by omega)]; rfl
            · exact ⟨by rw [ht]; exact hP9, va_K.moved hv hK, by rw [← hAe]; exact hD9⟩
          · refine lv_iinc (v := iZ (31 - 2)) (lv' := [(1, .int (iZ (31 - 2))), (0, .int (iZ z))]) hx hb d_jInt_numberOfLeadingZeros_66 hl (k := 0) rfl (iZ_add _ _) (by decide) rfl (fun ls hl => ?_)
            refine lv_iload_n hx hb d_jInt_numberOfLeadingZeros_69 rfl (lv_at hl 1 rfl) ?_
            refine lv_iconst (v := iZ (2)) hx hb d_jInt_numberOfLeadingZeros_70 (by decide +kernel) ?_
            refine zz_iushr (n := 2) hx hb d_jInt_numberOfLeadingZeros_71 (by omega) (by omega) (by omega) ?_
            refine lv_istore_n (lv' := [(0, .int (iZ (z / 2 ^ 2))), (1, .int (iZ (31 - 2)))]) hx hb d_jInt_numberOfLeadingZeros_72 rfl hl (by decide) rfl (fun ls hl => ?_)
            refine lv_iload_n hx hb d_jInt_numberOfLeadingZeros_73 rfl (lv_at hl 1 rfl) ?_
            refine lv_iload_n hx hb d_jInt_numberOfLeadingZeros_74 rfl (lv_at hl 0 rfl) ?_
            refine lv_iconst (v := iZ (1)) hx hb d_jInt_numberOfLeadingZeros_75 (by decide +kernel) ?_
            refine zz_iushr (n := 1) hx hb d_jInt_numberOfLeadingZeros_76 (by omega) (by omega) (by omega) ?_
            refine zz_isub hx hb d_jInt_numberOfLeadingZeros_77 ?_
            have hP9 : va_P D cls0 [] H := hP.sub [] rfl
            have hD9 : va_D A [] := hD.sub [] (by decide) rfl
            rw [hQ, ← hAe]
            refine r_i (v := (iZ (31 - 2 - ((z / 2 ^ 2) / 2 ^ 1)))) K (31 - 2 - ((z / 2 ^ 2) / 2 ^ 1)) hS d_jInt_numberOfLeadingZeros_78 ?_ (fun t ht hv => ?_)
            · refine ⟨rfl, ?_⟩
              rcases (show ((z / 2 ^ 2) / 2 ^ 1) = 0 ∨ ((z / 2 ^ 2) / 2 ^ 1) = 1 by omega) with q | q
              · rw [q, bl_of (b := 3) (by decide) (by omega) (by omega)]; rfl
              · rw [q, bl_of (b := 4) (by decide) (by omega) (by omega)]; rfl
            · exact ⟨by rw [ht]; exact hP9, va_K.moved hv hK, by rw [← hAe]; exact hD9⟩
        · refine lv_iinc (v := iZ (31 - 4)) (lv' := [(1, .int (iZ (31 - 4))), (0, .int (iZ z))]) hx hb d_jInt_numberOfLeadingZeros_54 hl (k := 0) rfl (iZ_add _ _) (by decide) rfl (fun ls hl => ?_)
          refine lv_iload_n hx hb d_jInt_numberOfLeadingZeros_57 rfl (lv_at hl 1 rfl) ?_
          refine lv_iconst (v := iZ (4)) hx hb d_jInt_numberOfLeadingZeros_58 (by decide +kernel) ?_
          refine zz_iushr (n := 4) hx hb d_jInt_numberOfLeadingZeros_59 (by omega) (by omega) (by omega) ?_
          refine lv_istore_n (lv' := [(0, .int (iZ (z / 2 ^ 4))), (1, .int (iZ (31 - 4)))]) hx hb d_jInt_numberOfLeadingZeros_60 rfl hl (by decide) rfl (fun ls hl => ?_)
          refine lv_iload_n hx hb d_jInt_numberOfLeadingZeros_61 rfl (lv_at hl 0 rfl) ?_
          refine lv_iconst (v := iZ (4)) hx hb d_jInt_numberOfLeadingZeros_62 (by decide +kernel) ?_
          refine zz_icmp_lt (tgt := 73) hx hb d_jInt_numberOfLeadingZeros_63 (by decide) (by omega) (by omega) (fun c63 => ?_) (fun c63 => ?_)
          · refine lv_iload_n hx hb d_jInt_numberOfLeadingZeros_73 rfl (lv_at hl 1 rfl) ?_
            refine lv_iload_n hx hb d_jInt_numberOfLeadingZeros_74 rfl (lv_at hl 0 rfl) ?_
            refine lv_iconst (v := iZ (1)) hx hb d_jInt_numberOfLeadingZeros_75 (by decide +kernel) ?_
            refine zz_iushr (n := 1) hx hb d_jInt_numberOfLeadingZeros_76 (by omega) (by omega) (by omega) ?_
            refine zz_isub hx hb d_jInt_numberOfLeadingZeros_77 ?_
            have hP9 : va_P D cls0 [] H := hP.sub [] rfl
            have hD9 : va_D A [] := hD.sub [] (by decide) rfl
            rw [hQ, ← hAe]
            refine r_i (v := (iZ (31 - 4 - ((z / 2 ^ 4) / 2 ^ 1)))) K (31 - 4 - ((z / 2 ^ 4) / 2 ^ 1)) hS d_jInt_numberOfLeadingZeros_78 ?_ (fun t ht hv => ?_)
            · refine ⟨rfl, ?_⟩
              rcases (show ((z / 2 ^ 4) / 2 ^ 1) = 0 ∨ ((z / 2 ^ 4) / 2 ^ 1) = 1 by omega) with q | q
              · rw [q, bl_of (b := 5) (by decide) (by omega) (by omega)]; rfl
              · rw [q, bl_of (b := 6) (by decide) (by omega) (by omega)]; rfl
            · exact ⟨by rw [ht]; exact hP9, va_K.moved hv hK, by rw [← hAe]; exact hD9⟩
          · refine lv_iinc (v := iZ (31 - 4 - 2)) (lv' := [(1, .int (iZ (31 - 4 - 2))), (0, .int (iZ (z / 2 ^ 4)))]) hx hb d_jInt_numberOfLeadingZeros_66 hl (k := 1) rfl (iZ_add _ _) (by decide) rfl (fun ls hl => ?_)
            refine lv_iload_n hx hb d_jInt_numberOfLeadingZeros_69 rfl (lv_at hl 1 rfl) ?_
            refine lv_iconst (v := iZ (2)) hx hb d_jInt_numberOfLeadingZeros_70 (by decide +kernel) ?_
            refine zz_iushr (n := 2) hx hb d_jInt_numberOfLeadingZeros_71 (by omega) (by omega) (by omega) ?_
            refine lv_istore_n (lv' := [(0, .int (iZ ((z / 2 ^ 4) / 2 ^ 2))), (1, .int (iZ (31 - 4 - 2)))]) hx hb d_jInt_numberOfLeadingZeros_72 rfl hl (by decide) rfl (fun ls hl => ?_)
            refine lv_iload_n hx hb d_jInt_numberOfLeadingZeros_73 rfl (lv_at hl 1 rfl) ?_
            refine lv_iload_n hx hb d_jInt_numberOfLeadingZeros_74 rfl (lv_at hl 0 rfl) ?_
            refine lv_iconst (v := iZ (1)) hx hb d_jInt_numberOfLeadingZeros_75 (by decide +kernel) ?_
            refine zz_iushr (n := 1) hx hb d_jInt_numberOfLeadingZeros_76 (by omega) (by omega) (by omega) ?_
            refine zz_isub hx hb d_jInt_numberOfLeadingZeros_77 ?_
            have hP9 : va_P D cls0 [] H := hP.sub [] rfl
            have hD9 : va_D A [] := hD.sub [] (by decide) rfl
            rw [hQ, ← hAe]
            refine r_i (v := (iZ (31 - 4 - 2 - (((z / 2 ^ 4) / 2 ^ 2) / 2 ^ 1)))) K (31 - 4 - 2 - (((z / 2 ^ 4) / 2 ^ 2) / 2 ^ 1)) hS d_jInt_numberOfLeadingZeros_78 ?_ (fun t ht hv => ?_)
            · refine ⟨rfl, ?_⟩
              rcases (show (((z / 2 ^ 4) / 2 ^ 2) / 2 ^ 1) = 0 ∨ (((z / 2 ^ 4) / 2 ^ 2) / 2 ^ 1) = 1 by omega) with q | q
              · rw [q, bl_of (b := 7) (by decide) (by omega) (by omega)]; rfl
              · rw [q, bl_of (b := 8) (by decide) (by omega) (by omega)]; rfl
            · exact ⟨by rw [ht]; exact hP9, va_K.moved hv hK, by rw [← hAe]; exact hD9⟩
      · refine lv_iinc (v := iZ (31 - 8)) (lv' := [(1, .int (iZ (31 - 8))), (0, .int (iZ z))]) hx hb d_jInt_numberOfLeadingZeros_40 hl (k := 0) rfl (iZ_add _ _) (by decide) rfl (fun ls hl => ?_)
        refine lv_iload_n hx hb d_jInt_numberOfLeadingZeros_43 rfl (lv_at hl 1 rfl) ?_
        refine lv_bipush (v := iZ (8)) hx hb d_jInt_numberOfLeadingZeros_44 (by decide +kernel) ?_
        refine zz_iushr (n := 8) hx hb d_jInt_numberOfLeadingZeros_46 (by omega) (by omega) (by omega) ?_
        refine lv_istore_n (lv' := [(0, .int (iZ (z / 2 ^ 8))), (1, .int (iZ (31 - 8)))]) hx hb d_jInt_numberOfLeadingZeros_47 rfl hl (by decide) rfl (fun ls hl => ?_)
        refine lv_iload_n hx hb d_jInt_numberOfLeadingZeros_48 rfl (lv_at hl 0 rfl) ?_
        refine lv_bipush (v := iZ (16)) hx hb d_jInt_numberOfLeadingZeros_49 (by decide +kernel) ?_
        refine zz_icmp_lt (tgt := 61) hx hb d_jInt_numberOfLeadingZeros_51 (by decide) (by omega) (by omega) (fun c51 => ?_) (fun c51 => ?_)
        · refine lv_iload_n hx hb d_jInt_numberOfLeadingZeros_61 rfl (lv_at hl 0 rfl) ?_
          refine lv_iconst (v := iZ (4)) hx hb d_jInt_numberOfLeadingZeros_62 (by decide +kernel) ?_
          refine zz_icmp_lt (tgt := 73) hx hb d_jInt_numberOfLeadingZeros_63 (by decide) (by omega) (by omega) (fun c63 => ?_) (fun c63 => ?_)
          · refine lv_iload_n hx hb d_jInt_numberOfLeadingZeros_73 rfl (lv_at hl 1 rfl) ?_
            refine lv_iload_n hx hb d_jInt_numberOfLeadingZeros_74 rfl (lv_at hl 0 rfl) ?_
            refine lv_iconst (v := iZ (1)) hx hb d_jInt_numberOfLeadingZeros_75 (by decide +kernel) ?_
            refine zz_iushr (n := 1) hx hb d_jInt_numberOfLeadingZeros_76 (by omega) (by omega) (by omega) ?_
            refine zz_isub hx hb d_jInt_numberOfLeadingZeros_77 ?_
            have hP9 : va_P D cls0 [] H := hP.sub [] rfl
            have hD9 : va_D A [] := hD.sub [] (by decide) rfl
            rw [hQ, ← hAe]
            refine r_i (v := (iZ (31 - 8 - ((z / 2 ^ 8) / 2 ^ 1)))) K (31 - 8 - ((z / 2 ^ 8) / 2 ^ 1)) hS d_jInt_numberOfLeadingZeros_78 ?_ (fun t ht hv => ?_)
            · refine ⟨rfl, ?_⟩
              rcases (show ((z / 2 ^ 8) / 2 ^ 1) = 0 ∨ ((z / 2 ^ 8) / 2 ^ 1) = 1 by omega) with q | q
              · rw [q, bl_of (b := 9) (by decide) (by omega) (by omega)]; rfl
              · rw [q, bl_of (b := 10) (by decide) (by omega) (by omega)]; rfl
            · exact ⟨by rw [ht]; exact hP9, va_K.moved hv hK, by rw [← hAe]; exact hD9⟩
          · refine lv_iinc (v := iZ (31 - 8 - 2)) (lv' := [(1, .int (iZ (31 - 8 - 2))), (0, .int (iZ (z / 2 ^ 8)))]) hx hb d_jInt_numberOfLeadingZeros_66 hl (k := 1) rfl (iZ_add _ _) (by decide) rfl (fun ls hl => ?_)
            refine lv_iload_n hx hb d_jInt_numberOfLeadingZeros_69 rfl (lv_at hl 1 rfl) ?_
            refine lv_iconst (v := iZ (2)) hx hb d_jInt_numberOfLeadingZeros_70 (by decide +kernel) ?_
            refine zz_iushr (n := 2) hx hb d_jInt_numberOfLeadingZeros_71 (by omega) (by omega) (by omega) ?_
            refine lv_istore_n (lv' := [(0, .int (iZ ((z / 2 ^ 8) / 2 ^ 2))), (1, .int (iZ (31 - 8 - 2)))]) hx hb d_jInt_numberOfLeadingZeros_72 rfl hl (by decide) rfl (fun ls hl => ?_)
            refine lv_iload_n hx hb d_jInt_numberOfLeadingZeros_73 rfl (lv_at hl 1 rfl) ?_
            refine lv_iload_n hx hb d_jInt_numberOfLeadingZeros_74 rfl (lv_at hl 0 rfl) ?_
            refine lv_iconst (v := iZ (1)) hx hb d_jInt_numberOfLeadingZeros_75 (by decide +kernel) ?_
            refine zz_iushr (n := 1) hx hb d_jInt_numberOfLeadingZeros_76 (by omega) (by omega) (by omega) ?_
            refine zz_isub hx hb d_jInt_numberOfLeadingZeros_77 ?_
            have hP9 : va_P D cls0 [] H := hP.sub [] rfl
            have hD9 : va_D A [] := hD.sub [] (by decide) rfl
            rw [hQ, ← hAe]
            refine r_i (v := (iZ (31 - 8 - 2 - (((z / 2 ^ 8) / 2 ^ 2) / 2 ^ 1)))) K (31 - 8 - 2 - (((z / 2 ^ 8) / 2 ^ 2) / 2 ^ 1)) hS d_jInt_numberOfLeadingZeros_78 ?_ (fun t ht hv => ?_)
            · refine ⟨rfl, ?_⟩
              rcases (show (((z / 2 ^ 8) / 2 ^ 2) / 2 ^ 1) = 0 ∨ (((z / 2 ^ 8) / 2 ^ 2) / 2 ^ 1) = 1 by omega) with q | q
              · rw [q, bl_of (b := 11) (by decide) (by omega) (by omega)]; rfl
              · rw [q, bl_of (b := 12) (by decide) (by omega) (by omega)]; rfl
            · exact ⟨by rw [ht]; exact hP9, va_K.moved hv hK, by rw [← hAe]; exact hD9⟩
        · refine lv_iinc (v := iZ (31 - 8 - 4)) (lv' := [(1, .int (iZ (31 - 8 - 4))), (0, .int (iZ (z / 2 ^ 8)))]) hx hb d_jInt_numberOfLeadingZeros_54 hl (k := 1) rfl (iZ_add _ _) (by decide) rfl (fun ls hl => ?_)
          refine lv_iload_n hx hb d_jInt_numberOfLeadingZeros_57 rfl (lv_at hl 1 rfl) ?_
          refine lv_iconst (v := iZ (4)) hx hb d_jInt_numberOfLeadingZeros_58 (by decide +kernel) ?_
          refine zz_iushr (n := 4) hx hb d_jInt_numberOfLeadingZeros_59 (by omega) (by omega) (by omega) ?_
          refine lv_istore_n (lv' := [(0, .int (iZ ((z / 2 ^ 8) / 2 ^ 4))), (1, .int (iZ (31 - 8 - 4)))]) hx hb d_jInt_numberOfLeadingZeros_60 rfl hl (by decide) rfl (fun ls hl => ?_)
          refine lv_iload_n hx hb d_jInt_numberOfLeadingZeros_61 rfl (lv_at hl 0 rfl) ?_
          refine lv_iconst (v := iZ (4)) hx hb d_jInt_numberOfLeadingZeros_62 (by decide +kernel) ?_
          refine zz_icmp_lt (tgt := 73) hx hb d_jInt_numberOfLeadingZeros_63 (by decide) (by omega) (by omega) (fun c63 => ?_) (fun c63 => ?_)
          · refine lv_iload_n hx hb d_jInt_numberOfLeadingZeros_73 rfl (lv_at hl 1 rfl) ?_
            refine lv_iload_n hx hb d_jInt_numberOfLeadingZeros_74 rfl (lv_at hl 0 rfl) ?_
            refine lv_iconst (v := iZ (1)) hx hb d_jInt_numberOfLeadingZeros_75 (by decide +kernel) ?_
            refine zz_iushr (n := 1) hx hb d_jInt_numberOfLeadingZeros_76 (by omega) (by omega) (by omega) ?_
            refine zz_isub hx hb d_jInt_numberOfLeadingZeros_77 ?_
            have hP9 : va_P D cls0 [] H := hP.sub [] rfl
            have hD9 : va_D A [] := hD.sub [] (by decide) rfl
            rw [hQ, ← hAe]
            refine r_i (v := (iZ (31 - 8 - 4 - (((z / 2 ^ 8) / 2 ^ 4) / 2 ^ 1)))) K (31 - 8 - 4 - (((z / 2 ^ 8) / 2 ^ 4) / 2 ^ 1)) hS d_jInt_numberOfLeadingZeros_78 ?_ (fun t ht hv => ?_)
            · refine ⟨rfl, ?_⟩
              rcases (show (((z / 2 ^ 8) / 2 ^ 4) / 2 ^ 1) = 0 ∨ (((z / 2 ^ 8) / 2 ^ 4) / 2 ^ 1) = 1 by omega) with q | q
              · rw [q, bl_of (b := 13) (by decide) (by omega) (by omega)]; rfl
              · rw [q, bl_of (b := 14) (by decide) (by omega) (by omega)]; rfl
            · exact ⟨by rw [ht]; exact hP9, va_K.moved hv hK, by rw [← hAe]; exact hD9⟩
          · refine lv_iinc (v := iZ (31 - 8 - 4 - 2)) (lv' := [(1, .int (iZ (31 - 8 - 4 - 2))), (0, .int (iZ ((z / 2 ^ 8) / 2 ^ 4)))]) hx hb d_jInt_numberOfLeadingZeros_66 hl (k := 1) rfl (iZ_add _ _) (by decide) rfl (fun ls hl => ?_)
            refine lv_iload_n hx hb d_jInt_numberOfLeadingZeros_69 rfl (lv_at hl 1 rfl) ?_
            refine lv_iconst (v := iZ (2)) hx hb d_jInt_numberOfLeadingZeros_70 (by decide +kernel) ?_
            refine zz_iushr (n := 2) hx hb d_jInt_numberOfLeadingZeros_71 (by omega) (by omega) (by omega) ?_
            refine lv_istore_n (lv' := [(0, .int (iZ (((z / 2 ^ 8) / 2 ^ 4) / 2 ^ 2))), (1, .int (iZ (31 - 8 - 4 - 2)))]) hx hb d_jInt_numberOfLeadingZeros_72 rfl hl (by decide) rfl (fun ls hl => ?_)
            refine lv_iload_n hx hb d_jInt_numberOfLeadingZeros_73 rfl (lv_at hl 1 rfl) ?_
            refine lv_iload_n hx hb d_jInt_numberOfLeadingZeros_74 rfl (lv_at hl 0 rfl) ?_
            refine lv_iconst (v := iZ (1)) hx hb d_jInt_numberOfLeadingZeros_75 (by decide +kernel) ?_
            refine zz_iushr (n := 1) hx hb d_jInt_numberOfLeadingZeros_76 (by omega) (by omega) (by omega) ?_
            refine zz_isub hx hb d_jInt_numberOfLeadingZeros_77 ?_
            have hP9 : va_P D cls0 [] H := hP.sub [] rfl
            have hD9 : va_D A [] := hD.sub [] (by decide) rfl
            rw [hQ, ← hAe]
            refine r_i (v := (iZ (31 - 8 - 4 - 2 - ((((z / 2 ^ 8) / 2 ^ 4) / 2 ^ 2) / 2 ^ 1)))) K (31 - 8 - 4 - 2 - ((((z / 2 ^ 8) / 2 ^ 4) / 2 ^ 2) / 2 ^ 1)) hS d_jInt_numberOfLeadingZeros_78 ?_ (fun t ht hv => ?_)
            · refine ⟨rfl, ?_⟩
              rcases (show ((((z / 2 ^ 8) / 2 ^ 4) / 2 ^ 2) / 2 ^ 1) = 0 ∨ ((((z / 2 ^ 8) / 2 ^ 4) / 2 ^ 2) / 2 ^ 1) = 1 by omega) with q | q
              · rw [q, bl_of (b := 15) (by decide) (by omega) (by omega)]; rfl
              · rw [q, bl_of (b := 16) (by decide) (by omega) (by omega)]; rfl
            · exact ⟨by rw [ht]; exact hP9, va_K.moved hv hK, by rw [← hAe]; exact hD9⟩
    · refine lv_iinc (v := iZ (31 - 16)) (lv' := [(1, .int (iZ (31 - 16))), (0, .int (iZ z))]) hx hb d_jInt_numberOfLeadingZeros_25 hl (k := 0) rfl (iZ_add _ _) (by decide) rfl (fun ls hl => ?_)
      refine lv_iload_n hx hb d_jInt_numberOfLeadingZeros_28 rfl (lv_at hl 1 rfl) ?_
      refine lv_bipush (v := iZ (16)) hx hb d_jInt_numberOfLeadingZeros_29 (by decide +kernel) ?_
      refine zz_iushr (n := 16) hx hb d_jInt_numberOfLeadingZeros_31 (by omega) (by omega) (by omega) ?_
      refine lv_istore_n (lv' := [(0, .int (iZ (z / 2 ^ 16))), (1, .int (iZ (31 - 16)))]) hx hb d_jInt_numberOfLeadingZeros_32 rfl hl (by decide) rfl (fun ls hl => ?_)
      refine lv_iload_n hx hb d_jInt_numberOfLeadingZeros_33 rfl (lv_at hl 0 rfl) ?_
      refine lv_sipush (v := iZ (256)) hx hb d_jInt_numberOfLeadingZeros_34 (by decide +kernel) ?_
      refine zz_icmp_lt (tgt := 48) hx hb d_jInt_numberOfLeadingZeros_37 (by decide) (by omega) (by omega) (fun c37 => ?_) (fun c37 => ?_)
      · refine lv_iload_n hx hb d_jInt_numberOfLeadingZeros_48 rfl (lv_at hl 0 rfl) ?_
        refine lv_bipush (v := iZ (16)) hx hb d_jInt_numberOfLeadingZeros_49 (by decide +kernel) ?_
        refine zz_icmp_lt (tgt := 61) hx hb d_jInt_numberOfLeadingZeros_51 (by decide) (by omega) (by omega) (fun c51 => ?_) (fun c51 => ?_)
        · refine lv_iload_n hx hb d_jInt_numberOfLeadingZeros_61 rfl (lv_at hl 0 rfl) ?_
          refine lv_iconst (v := iZ (4)) hx hb d_jInt_numberOfLeadingZeros_62 (by decide +kernel) ?_
          refine zz_icmp_lt (tgt := 73) hx hb d_jInt_numberOfLeadingZeros_63 (by decide) (by omega) (by omega) (fun c63 => ?_) (fun c63 => ?_)
          · refine lv_iload_n hx hb d_jInt_numberOfLeadingZeros_73 rfl (lv_at hl 1 rfl) ?_
            refine lv_iload_n hx hb d_jInt_numberOfLeadingZeros_74 rfl (lv_at hl 0 rfl) ?_
            refine lv_iconst (v := iZ (1)) hx hb d_jInt_numberOfLeadingZeros_75 (by decide +kernel) ?_
            refine zz_iushr (n := 1) hx hb d_jInt_numberOfLeadingZeros_76 (by omega) (by omega) (by omega) ?_
            refine zz_isub hx hb d_jInt_numberOfLeadingZeros_77 ?_
            have hP9 : va_P D cls0 [] H := hP.sub [] rfl
            have hD9 : va_D A [] := hD.sub [] (by decide) rfl
            rw [hQ, ← hAe]
            refine r_i (v := (iZ (31 - 16 - ((z / 2 ^ 16) / 2 ^ 1)))) K (31 - 16 - ((z / 2 ^ 16) / 2 ^ 1)) hS d_jInt_numberOfLeadingZeros_78 ?_ (fun t ht hv => ?_)
            · refine ⟨rfl, ?_⟩
              rcases (show ((z / 2 ^ 16) / 2 ^ 1) = 0 ∨ ((z / 2 ^ 16) / 2 ^ 1) = 1 by omega) with q | q
              · rw [q, bl_of (b := 17) (by decide) (by omega) (by omega)]; rfl
              · rw [q, bl_of (b := 18) (by decide) (by omega) (by omega)]; rfl
            · exact ⟨by rw [ht]; exact hP9, va_K.moved hv hK, by rw [← hAe]; exact hD9⟩
          · refine lv_iinc (v := iZ (31 - 16 - 2)) (lv' := [(1, .int (iZ (31 - 16 - 2))), (0, .int (iZ (z / 2 ^ 16)))]) hx hb d_jInt_numberOfLeadingZeros_66 hl (k := 1) rfl (iZ_add _ _) (by decide) rfl (fun ls hl => ?_)
            refine lv_iload_n hx hb d_jInt_numberOfLeadingZeros_69 rfl (lv_at hl 1 rfl) ?_
            refine lv_iconst (v := iZ (2)) hx hb d_jInt_numberOfLeadingZeros_70 (by decide +kernel) ?_
            refine zz_iushr (n := 2) hx hb d_jInt_numberOfLeadingZeros_71 (by omega) (by omega) (by omega) ?_
            refine lv_istore_n (lv' := [(0, .int (iZ ((z / 2 ^ 16) / 2 ^ 2))), (1, .int (iZ (31 - 16 - 2)))]) hx hb d_jInt_numberOfLeadingZeros_72 rfl hl (by decide) rfl (fun ls hl => ?_)
            refine lv_iload_n hx hb d_jInt_numberOfLeadingZeros_73 rfl (lv_at hl 1 rfl) ?_
            refine lv_iload_n hx hb d_jInt_numberOfLeadingZeros_74 rfl (lv_at hl 0 rfl) ?_
            refine lv_iconst (v := iZ (1)) hx hb d_jInt_numberOfLeadingZeros_75 (by decide +kernel) ?_
            refine zz_iushr (n := 1) hx hb d_jInt_numberOfLeadingZeros_76 (by omega) (by omega) (by omega) ?_
            refine zz_isub hx hb d_jInt_numberOfLeadingZeros_77 ?_
            have hP9 : va_P D cls0 [] H := hP.sub [] rfl
            have hD9 : va_D A [] := hD.sub [] (by decide) rfl
            rw [hQ, ← hAe]
            refine r_i (v := (iZ (31 - 16 - 2 - (((z / 2 ^ 16) / 2 ^ 2) / 2 ^ 1)))) K (31 - 16 - 2 - (((z / 2 ^ 16) / 2 ^ 2) / 2 ^ 1)) hS d_jInt_numberOfLeadingZeros_78 ?_ (fun t ht hv => ?_)
            · refine ⟨rfl, ?_⟩
              rcases (show (((z / 2 ^ 16) / 2 ^ 2) / 2 ^ 1) = 0 ∨ (((z / 2 ^ 16) / 2 ^ 2) / 2 ^ 1) = 1 by omega) with q | q
              · rw [q, bl_of (b := 19) (by decide) (by omega) (by omega)]; rfl
              · rw [q, bl_of (b := 20) (by decide) (by omega) (by omega)]; rfl
            · exact ⟨by rw [ht]; exact hP9, va_K.moved hv hK, by rw [← hAe]; exact hD9⟩
        · refine lv_iinc (v := iZ (31 - 16 - 4)) (lv' := [(1, .int (iZ (31 - 16 - 4))), (0, .int (iZ (z / 2 ^ 16)))]) hx hb d_jInt_numberOfLeadingZeros_54 hl (k := 1) rfl (iZ_add _ _) (by decide) rfl (fun ls hl => ?_)
          refine lv_iload_n hx hb d_jInt_numberOfLeadingZeros_57 rfl (lv_at hl 1 rfl) ?_
          refine lv_iconst (v := iZ (4)) hx hb d_jInt_numberOfLeadingZeros_58 (by decide +kernel) ?_
          refine zz_iushr (n := 4) hx hb d_jInt_numberOfLeadingZeros_59 (by omega) (by omega) (by omega) ?_
          refine lv_istore_n (lv' := [(0, .int (iZ ((z / 2 ^ 16) / 2 ^ 4))), (1, .int (iZ (31 - 16 - 4)))]) hx hb d_jInt_numberOfLeadingZeros_60 rfl hl (by decide) rfl (fun ls hl => ?_)
          refine lv_iload_n hx hb d_jInt_numberOfLeadingZeros_61 rfl (lv_at hl 0 rfl) ?_
          refine lv_iconst (v := iZ (4)) hx hb d_jInt_numberOfLeadingZeros_62 (by decide +kernel) ?_
          refine zz_icmp_lt (tgt := 73) hx hb d_jInt_numberOfLeadingZeros_63 (by decide) (by omega) (by omega) (fun c63 => ?_) (fun c63 => ?_)
          · refine lv_iload_n hx hb d_jInt_numberOfLeadingZeros_73 rfl (lv_at hl 1 rfl) ?_
            refine lv_iload_n hx hb d_jInt_numberOfLeadingZeros_74 rfl (lv_at hl 0 rfl) ?_
            refine lv_iconst (v := iZ (1)) hx hb d_jInt_numberOfLeadingZeros_75 (by decide +kernel) ?_
            refine zz_iushr (n := 1) hx hb d_jInt_numberOfLeadingZeros_76 (by omega) (by omega) (by omega) ?_
            refine zz_isub hx hb d_jInt_numberOfLeadingZeros_77 ?_
            have hP9 : va_P D cls0 [] H := hP.sub [] rfl
            have hD9 : va_D A [] := hD.sub [] (by decide) rfl
            rw [hQ, ← hAe]
            refine r_i (v := (iZ (31 - 16 - 4 - (((z / 2 ^ 16) / 2 ^ 4) / 2 ^ 1)))) K (31 - 16 - 4 - (((z / 2 ^ 16) / 2 ^ 4) / 2 ^ 1)) hS d_jInt_numberOfLeadingZeros_78 ?_ (fun t ht hv => ?_)
            · refine ⟨rfl, ?_⟩
              rcases (show (((z / 2 ^ 16) / 2 ^ 4) / 2 ^ 1) = 0 ∨ (((z / 2 ^ 16) / 2 ^ 4) / 2 ^ 1) = 1 by omega) with q | q
              · rw [q, bl_of (b := 21) (by decide) (by omega) (by omega)]; rfl
              · rw [q, bl_of (b := 22) (by decide) (by omega) (by omega)]; rfl
            · exact ⟨by rw [ht]; exact hP9, va_K.moved hv hK, by rw [← hAe]; exact hD9⟩
          · refine lv_iinc (v := iZ (31 - 16 - 4 - 2)) (lv' := [(1, .int (iZ (31 - 16 - 4 - 2))), (0, .int (iZ ((z / 2 ^ 16) / 2 ^ 4)))]) hx hb d_jInt_numberOfLeadingZeros_66 hl (k := 1) rfl (iZ_add _ _) (by decide) rfl (fun ls hl => ?_)
            refine lv_iload_n hx hb d_jInt_numberOfLeadingZeros_69 rfl (lv_at hl 1 rfl) ?_
            refine lv_iconst (v := iZ (2)) hx hb d_jInt_numberOfLeadingZeros_70 (by decide +kernel) ?_
            refine zz_iushr (n := 2) hx hb d_jInt_numberOfLeadingZeros_71 (by omega) (by omega) (by omega) ?_
            refine lv_istore_n (lv' := [(0, .int (iZ (((z / 2 ^ 16) / 2 ^ 4) / 2 ^ 2))), (1, .int (iZ (31 - 16 - 4 - 2)))]) hx hb d_jInt_numberOfLeadingZeros_72 rfl hl (by decide) rfl (fun ls hl => ?_)
            refine lv_iload_n hx hb d_jInt_numberOfLeadingZeros_73 rfl (lv_at hl 1 rfl) ?_
            refine lv_iload_n hx hb d_jInt_numberOfLeadingZeros_74 rfl (lv_at hl 0 rfl) ?_
            refine lv_iconst (v := iZ (1)) hx hb d_jInt_numberOfLeadingZeros_75 (by decide +kernel) ?_
            refine zz_iushr (n := 1) hx hb d_jInt_numberOfLeadingZeros_76 (by omega) (by omega) (by omega) ?_
            refine zz_isub hx hb d_jInt_numberOfLeadingZeros_77 ?_
            have hP9 : va_P D cls0 [] H := hP.sub [] rfl
            have hD9 : va_D A [] := hD.sub [] (by decide) rfl
            rw [hQ, ← hAe]
            refine r_i (v := (iZ (31 - 16 - 4 - 2 - ((((z / 2 ^ 16) / 2 ^ 4) / 2 ^ 2) / 2 ^ 1)))) K (31 - 16 - 4 - 2 - ((((z / 2 ^ 16) / 2 ^ 4) / 2 ^ 2) / 2 ^ 1)) hS d_jInt_numberOfLeadingZeros_78 ?_ (fun t ht hv => ?_)
            · refine ⟨rfl, ?_⟩
              rcases (show ((((z / 2 ^ 16) / 2 ^ 4) / 2 ^ 2) / 2 ^ 1) = 0 ∨ ((((z / 2 ^ 16) / 2 ^ 4) / 2 ^ 2) / 2 ^ 1) = 1 by omega) with q | q
              · rw [q, bl_of (b := 23) (by decide) (by omega) (by omega)]; rfl
              · rw [q, bl_of (b := 24) (by decide) (by omega) (by omega)]; rfl
            · exact ⟨by rw [ht]; exact hP9, va_K.moved hv hK, by rw [← hAe]; exact hD9⟩
      · refine lv_iinc (v := iZ (31 - 16 - 8)) (lv' := [(1, .int (iZ (31 - 16 - 8))), (0, .int (iZ (z / 2 ^ 16)))]) hx hb d_jInt_numberOfLeadingZeros_40 hl (k := 1) rfl (iZ_add _ _) (by decide) rfl (fun ls hl => ?_)
        refine lv_iload_n hx hb d_jInt_numberOfLeadingZeros_43 rfl (lv_at hl 1 rfl) ?_
        refine lv_bipush (v := iZ (8)) hx hb d_jInt_numberOfLeadingZeros_44 (by decide +kernel) ?_
        refine zz_iushr (n := 8) hx hb d_jInt_numberOfLeadingZeros_46 (by omega) (by omega) (by omega) ?_
        refine lv_istore_n (lv' := [(0, .int (iZ ((z / 2 ^ 16) / 2 ^ 8))), (1, .int (iZ (31 - 16 - 8)))]) hx hb d_jInt_numberOfLeadingZeros_47 rfl hl (by decide) rfl (fun ls hl => ?_)
        refine lv_iload_n hx hb d_jInt_numberOfLeadingZeros_48 rfl (lv_at hl 0 rfl) ?_
        refine lv_bipush (v := iZ (16)) hx hb d_jInt_numberOfLeadingZeros_49 (by decide +kernel) ?_
        refine zz_icmp_lt (tgt := 61) hx hb d_jInt_numberOfLeadingZeros_51 (by decide) (by omega) (by omega) (fun c51 => ?_) (fun c51 => ?_)
        · refine lv_iload_n hx hb d_jInt_numberOfLeadingZeros_61 rfl (lv_at hl 0 rfl) ?_
          refine lv_iconst (v := iZ (4)) hx hb d_jInt_numberOfLeadingZeros_62 (by decide +kernel) ?_
          refine zz_icmp_lt (tgt := 73) hx hb d_jInt_numberOfLeadingZeros_63 (by decide) (by omega) (by omega) (fun c63 => ?_) (fun c63 => ?_)
          · refine lv_iload_n hx hb d_jInt_numberOfLeadingZeros_73 rfl (lv_at hl 1 rfl) ?_
            refine lv_iload_n hx hb d_jInt_numberOfLeadingZeros_74 rfl (lv_at hl 0 rfl) ?_
            refine lv_iconst (v := iZ (1)) hx hb d_jInt_numberOfLeadingZeros_75 (by decide +kernel) ?_
            refine zz_iushr (n := 1) hx hb d_jInt_numberOfLeadingZeros_76 (by omega) (by omega) (by omega) ?_
            refine zz_isub hx hb d_jInt_numberOfLeadingZeros_77 ?_
            have hP9 : va_P D cls0 [] H := hP.sub [] rfl
            have hD9 : va_D A [] := hD.sub [] (by decide) rfl
            rw [hQ, ← hAe]
            refine r_i (v := (iZ (31 - 16 - 8 - (((z / 2 ^ 16) / 2 ^ 8) / 2 ^ 1)))) K (31 - 16 - 8 - (((z / 2 ^ 16) / 2 ^ 8) / 2 ^ 1)) hS d_jInt_numberOfLeadingZeros_78 ?_ (fun t ht hv => ?_)
            · refine ⟨rfl, ?_⟩
              rcases (show (((z / 2 ^ 16) / 2 ^ 8) / 2 ^ 1) = 0 ∨ (((z / 2 ^ 16) / 2 ^ 8) / 2 ^ 1) = 1 by omega) with q | q
              · rw [q, bl_of (b := 25) (by decide) (by omega) (by omega)]; rfl
              · rw [q, bl_of (b := 26) (by decide) (by omega) (by omega)]; rfl
            · exact ⟨by rw [ht]; exact hP9, va_K.moved hv hK, by rw [← hAe]; exact hD9⟩
          · refine lv_iinc (v := iZ (31 - 16 - 8 - 2)) (lv' := [(1, .int (iZ (31 - 16 - 8 - 2))), (0, .int (iZ ((z / 2 ^ 16) / 2 ^ 8)))]) hx hb d_jInt_numberOfLeadingZeros_66 hl (k := 1) rfl (iZ_add _ _) (by decide) rfl (fun ls hl => ?_)
            refine lv_iload_n hx hb d_jInt_numberOfLeadingZeros_69 rfl (lv_at hl 1 rfl) ?_
            refine lv_iconst (v := iZ (2)) hx hb d_jInt_numberOfLeadingZeros_70 (by decide +kernel) ?_
            refine zz_iushr (n := 2) hx hb d_jInt_numberOfLeadingZeros_71 (by omega) (by omega) (by omega) ?_
            refine lv_istore_n (lv' := [(0, .int (iZ (((z / 2 ^ 16) / 2 ^ 8) / 2 ^ 2))), (1, .int (iZ (31 - 16 - 8 - 2)))]) hx hb d_jInt_numberOfLeadingZeros_72 rfl hl (by decide) rfl (fun ls hl => ?_)
            refine lv_iload_n hx hb d_jInt_numberOfLeadingZeros_73 rfl (lv_at hl 1 rfl) ?_
            refine lv_iload_n hx hb d_jInt_numberOfLeadingZeros_74 rfl (lv_at hl 0 rfl) ?_
            refine lv_iconst (v := iZ (1)) hx hb d_jInt_numberOfLeadingZeros_75 (by decide +kernel) ?_
            refine zz_iushr (n := 1) hx hb d_jInt_numberOfLeadingZeros_76 (by omega) (by omega) (by omega) ?_
            refine zz_isub hx hb d_jInt_numberOfLeadingZeros_77 ?_
            have hP9 : va_P D cls0 [] H := hP.sub [] rfl
            have hD9 : va_D A [] := hD.sub [] (by decide) rfl
            rw [hQ, ← hAe]
            refine r_i (v := (iZ (31 - 16 - 8 - 2 - ((((z / 2 ^ 16) / 2 ^ 8) / 2 ^ 2) / 2 ^ 1)))) K (31 - 16 - 8 - 2 - ((((z / 2 ^ 16) / 2 ^ 8) / 2 ^ 2) / 2 ^ 1)) hS d_jInt_numberOfLeadingZeros_78 ?_ (fun t ht hv => ?_)
            · refine ⟨rfl, ?_⟩
              rcases (show ((((z / 2 ^ 16) / 2 ^ 8) / 2 ^ 2) / 2 ^ 1) = 0 ∨ ((((z / 2 ^ 16) / 2 ^ 8) / 2 ^ 2) / 2 ^ 1) = 1 by omega) with q | q
              · rw [q, bl_of (b := 27) (by decide) (by omega) (by omega)]; rfl
              · rw [q, bl_of (b := 28) (by decide) (by omega) (by omega)]; rfl
            · exact ⟨by rw [ht]; exact hP9, va_K.moved hv hK, by rw [← hAe]; exact hD9⟩
        · refine lv_iinc (v := iZ (31 - 16 - 8 - 4)) (lv' := [(1, .int (iZ (31 - 16 - 8 - 4))), (0, .int (iZ ((z / 2 ^ 16) / 2 ^ 8)))]) hx hb d_jInt_numberOfLeadingZeros_54 hl (k := 1) rfl (iZ_add _ _) (by decide) rfl (fun ls hl => ?_)
          refine lv_iload_n hx hb d_jInt_numberOfLeadingZeros_57 rfl (lv_at hl 1 rfl) ?_
          refine lv_iconst (v := iZ (4)) hx hb d_jInt_numberOfLeadingZeros_58 (by decide +kernel) ?_
          refine zz_iushr (n := 4) hx hb d_jInt_numberOfLeadingZeros_59 (by omega) (by omega) (by omega) ?_
          refine lv_istore_n (lv' := [(0, .int (iZ (((z / 2 ^ 16) / 2 ^ 8) / 2 ^ 4))), (1, .int (iZ (31 - 16 - 8 - 4)))]) hx hb d_jInt_numberOfLeadingZeros_60 rfl hl (by decide) rfl (fun ls hl => ?_)
          refine lv_iload_n hx hb d_jInt_numberOfLeadingZeros_61 rfl (lv_at hl 0 rfl) ?_
          refine lv_iconst (v := iZ (4)) hx hb d_jInt_numberOfLeadingZeros_62 (by decide +kernel) ?_
          refine zz_icmp_lt (tgt := 73) hx hb d_jInt_numberOfLeadingZeros_63 (by decide) (by omega) (by omega) (fun c63 => ?_) (fun c63 => ?_)
          · refine lv_iload_n hx hb d_jInt_numberOfLeadingZeros_73 rfl (lv_at hl 1 rfl) ?_
            refine lv_iload_n hx hb d_jInt_numberOfLeadingZeros_74 rfl (lv_at hl 0 rfl) ?_
            refine lv_iconst (v := iZ (1)) hx hb d_jInt_numberOfLeadingZeros_75 (by decide +kernel) ?_
            refine zz_iushr (n := 1) hx hb d_jInt_numberOfLeadingZeros_76 (by omega) (by omega) (by omega) ?_
            refine zz_isub hx hb d_jInt_numberOfLeadingZeros_77 ?_
            have hP9 : va_P D cls0 [] H := hP.sub [] rfl
            have hD9 : va_D A [] := hD.sub [] (by decide) rfl
            rw [hQ, ← hAe]
            refine r_i (v := (iZ (31 - 16 - 8 - 4 - ((((z / 2 ^ 16) / 2 ^ 8) / 2 ^ 4) / 2 ^ 1)))) K (31 - 16 - 8 - 4 - ((((z / 2 ^ 16) / 2 ^ 8) / 2 ^ 4) / 2 ^ 1)) hS d_jInt_numberOfLeadingZeros_78 ?_ (fun t ht hv => ?_)
            · refine ⟨rfl, ?_⟩
              rcases (show ((((z / 2 ^ 16) / 2 ^ 8) / 2 ^ 4) / 2 ^ 1) = 0 ∨ ((((z / 2 ^ 16) / 2 ^ 8) / 2 ^ 4) / 2 ^ 1) = 1 by omega) with q | q
              · rw [q, bl_of (b := 29) (by decide) (by omega) (by omega)]; rfl
              · rw [q, bl_of (b := 30) (by decide) (by omega) (by omega)]; rfl
            · exact ⟨by rw [ht]; exact hP9, va_K.moved hv hK, by rw [← hAe]; exact hD9⟩
          · refine lv_iinc (v := iZ (31 - 16 - 8 - 4 - 2)) (lv' := [(1, .int (iZ (31 - 16 - 8 - 4 - 2))), (0, .int (iZ (((z / 2 ^ 16) / 2 ^ 8) / 2 ^ 4)))]) hx hb d_jInt_numberOfLeadingZeros_66 hl (k := 1) rfl (iZ_add _ _) (by decide) rfl (fun ls hl => ?_)
            refine lv_iload_n hx hb d_jInt_numberOfLeadingZeros_69 rfl (lv_at hl 1 rfl) ?_
            refine lv_iconst (v := iZ (2)) hx hb d_jInt_numberOfLeadingZeros_70 (by decide +kernel) ?_
            refine zz_iushr (n := 2) hx hb d_jInt_numberOfLeadingZeros_71 (by omega) (by omega) (by omega) ?_
            refine lv_istore_n (lv' := [(0, .int (iZ ((((z / 2 ^ 16) / 2 ^ 8) / 2 ^ 4) / 2 ^ 2))), (1, .int (iZ (31 - 16 - 8 - 4 - 2)))]) hx hb d_jInt_numberOfLeadingZeros_72 rfl hl (by decide) rfl (fun ls hl => ?_)
            refine lv_iload_n hx hb d_jInt_numberOfLeadingZeros_73 rfl (lv_at hl 1 rfl) ?_
            refine lv_iload_n hx hb d_jInt_numberOfLeadingZeros_74 rfl (lv_at hl 0 rfl) ?_
            refine lv_iconst (v := iZ (1)) hx hb d_jInt_numberOfLeadingZeros_75 (by decide +kernel) ?_
            refine zz_iushr (n := 1) hx hb d_jInt_numberOfLeadingZeros_76 (by omega) (by omega) (by omega) ?_
            refine zz_isub hx hb d_jInt_numberOfLeadingZeros_77 ?_
            have hP9 : va_P D cls0 [] H := hP.sub [] rfl
            have hD9 : va_D A [] := hD.sub [] (by decide) rfl
            rw [hQ, ← hAe]
            refine r_i (v := (iZ (31 - 16 - 8 - 4 - 2 - (((((z / 2 ^ 16) / 2 ^ 8) / 2 ^ 4) / 2 ^ 2) / 2 ^ 1)))) K (31 - 16 - 8 - 4 - 2 - (((((z / 2 ^ 16) / 2 ^ 8) / 2 ^ 4) / 2 ^ 2) / 2 ^ 1)) hS d_jInt_numberOfLeadingZeros_78 ?_ (fun t ht hv => ?_)
            · refine ⟨rfl, ?_⟩
              rcases (show (((((z / 2 ^ 16) / 2 ^ 8) / 2 ^ 4) / 2 ^ 2) / 2 ^ 1) = 0 ∨ (((((z / 2 ^ 16) / 2 ^ 8) / 2 ^ 4) / 2 ^ 2) / 2 ^ 1) = 1 by omega) with q | q
              · rw [q, bl_of (b := 31) (by decide) (by omega) (by omega)]; rfl
              · rw [q, bl_of (b := 32) (by decide) (by omega) (by omega)]; rfl
            · exact ⟨by rw [ht]; exact hP9, va_K.moved hv hK, by rw [← hAe]; exact hD9⟩
  · refine lv_iload_n hx hb d_jInt_numberOfLeadingZeros_4 rfl (lv_at hl 0 rfl) ?_
    refine zz_if_ne (tgt := 13) hx hb d_jInt_numberOfLeadingZeros_5 (by decide) (by omega) (fun c5 => ?_) (fun c5 => ?_)
    · refine lv_iconst (v := iZ (0)) hx hb d_jInt_numberOfLeadingZeros_13 (by decide +kernel) ?_
      have hP9 : va_P D cls0 [] H := hP.sub [] rfl
      have hD9 : va_D A [] := hD.sub [] (by decide) rfl
      rw [hQ, ← hAe]
      refine r_i (v := (iZ 0)) K 0 hS d_jInt_numberOfLeadingZeros_14 ?_ (fun t ht hv => ?_)
      · refine ⟨rfl, ?_⟩
        rw [bl_of (b := 32) (by decide) (by omega) (by omega)]; rfl
      · exact ⟨by rw [ht]; exact hP9, va_K.moved hv hK, by rw [← hAe]; exact hD9⟩
    · refine lv_bipush (v := iZ (32)) hx hb d_jInt_numberOfLeadingZeros_8 (by decide +kernel) ?_
      refine lv_goto (tgt := 14) hx hb d_jInt_numberOfLeadingZeros_10 (by decide) ?_
      have hP9 : va_P D cls0 [] H := hP.sub [] rfl
      have hD9 : va_D A [] := hD.sub [] (by decide) rfl
      rw [hQ, ← hAe]
      refine r_i (v := (iZ 32)) K 32 hS d_jInt_numberOfLeadingZeros_14 ?_ (fun t ht hv => ?_)
      · refine ⟨rfl, ?_⟩
        have : (z % 4294967296).toNat = 0 := by omega
        rw [this, bl_0]; rfl
      · exact ⟨by rw [ht]; exact hP9, va_K.moved hv hK, by rw [← hAe]; exact hD9⟩
