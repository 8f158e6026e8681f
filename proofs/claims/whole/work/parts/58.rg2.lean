set_option maxHeartbeats 4000000 in
set_option maxRecDepth 100000 in
/-- needOf(r) -/
theorem c_Rg_needOf (l : Launch) (D : va_G) (hg : Nat) (ap : Nat) (af : Nat) (aT : Nat) (aB : Nat) (aS : Nat) (np : Nat) (fp : Nat → Int32) (ff : Nat → Int32) (ft : Nat → Int32) (fb : Nat → Int32) (fs : Nat → Int32) (tk : Nat) (cI : ClassId) (F : Nat → Nat) (tv : Nat → Nat) (bv : Nat → Nat) (sg : Nat → Int) (r : Nat) (sz : Nat) (I : RgI fp ff ft fb fs tk np F tv bv sg) (hr : r < 32) (hnp : np ≤ 1024) : Met l y_Rg_needOf (wsB y_Rg_needOf b_Rg_needOf 2 (some .int)) ({ frames := 0, cells := 0, slots := 0, locals := 0 }) (va_Pc [.ref hg, .int (iZ (r : Int))] (wPre D [(cI, .int)] [(hg, .inr (4, [.ref ap, .ref af, .ref aT, .ref aB, .ref aS, .int (iZ (tk : Int))])), (ap, .inl (cI, np, .inl fp)), (af, .inl (cI, 32, .inl ff)), (aT, .inl (cI, 32, .inl ft)), (aB, .inl (cI, 32, .inl fb)), (aS, .inl (cI, 32, .inl fs))] sz)) (va_QV (fun (v_9 : Option Value) (u_9 : Unit) => v_9 = some (.int (iZ ((lm (tv r) : Int) + (lm (bv r) : Int))))) (fun u_9 => wPost D [(cI, .int)] [(hg, .inr (4, [.ref ap, .ref af, .ref aT, .ref aB, .ref aS, .int (iZ (tk : Int))])), (ap, .inl (cI, np, .inl fp)), (af, .inl (cI, 32, .inl ff)), (aT, .inl (cI, 32, .inl ft)), (aB, .inl (cI, 32, .inl fb)), (aS, .inl (cI, 32, .inl fs))] [(hg, .inr (4, [.ref ap, .ref af, .ref aT, .ref aB, .ref aS, .int (iZ (tk : Int))])), (ap, .inl (cI, np, .inl fp)), (af, .inl (cI, 32, .inl ff)), (aT, .inl (cI, 32, .inl ft)), (aB, .inl (cI, 32, .inl fb)), (aS, .inl (cI, 32, .inl fs))] sz) (va_A [(hg, .inr (4, [.ref ap, .ref af, .ref aT, .ref aB, .ref aS, .int (iZ (tk : Int))])), (ap, .inl (cI, np, .inl fp)), (af, .inl (cI, 32, .inl ff)), (aT, .inl (cI, 32, .inl ft)), (aB, .inl (cI, 32, .inl fb)), (aS, .inl (cI, 32, .inl fs))] sz)) 0 0 (va_A [(hg, .inr (4, [.ref ap, .ref af, .ref aT, .ref aB, .ref aS, .int (iZ (tk : Int))])), (ap, .inl (cI, np, .inl fp)), (af, .inl (cI, 32, .inl ff)), (aT, .inl (cI, 32, .inl ft)), (aB, .inl (cI, 32, .inl fb)), (aS, .inl (cI, 32, .inl fs))] sz) := by
  refine met_enter (by decide +kernel) (Nat.le_of_ble_eq_true rfl) ?_
  intro p e s m args below meth c ls A R Q H locs K hin hAe hA hR hQ hP hK hD hS hl
  obtain ⟨hx, hb, hml, hrt, hlk, hts, hown, hno⟩ := id K
  have hl : lv_has ls 2 [(0, .ref hg), (1, .int (iZ (r : Int)))] := hl
  obtain ⟨i1, i2, i3, i4, i5, i6, i7, i8⟩ := I.at hr
  have i9 := I.2.2.1
  refine lv_aload_n hx hb d_Rg_needOf_0 rfl (lv_at hl 0 rfl) ?_
  refine va_get (D := D) (ci := 4) (v := .ref aT) (C := R_Rg) (T := F_Rg) (N := 6) hx hb hts i_Rg hown hK hP 0 rfl rfl 2 (by decide) (hts _ (big_in mw_52 rfl)) (fun _ h9 => h9) rfl d_Rg_needOf_1 ?_
  refine lv_iload_n hx hb d_Rg_needOf_4 rfl (lv_at hl 1 rfl) ?_
  refine zz_iald hx hb hK hP 3 0 rfl rfl (r) (by omega) (by omega) (by omega) d_Rg_needOf_5 ?_
  rw [i2]
  refine lv_aload_n hx hb d_Rg_needOf_6 rfl (lv_at hl 0 rfl) ?_
  refine va_get (D := D) (ci := 4) (v := .ref aB) (C := R_Rg) (T := F_Rg) (N := 6) hx hb hts i_Rg hown hK hP 0 rfl rfl 3 (by decide) (hts _ (big_in mw_53 rfl)) (fun _ h9 => h9) rfl d_Rg_needOf_7 ?_
  refine lv_iload_n hx hb d_Rg_needOf_10 rfl (lv_at hl 1 rfl) ?_
  refine zz_iald hx hb hK hP 4 0 rfl rfl (r) (by omega) (by omega) (by omega) d_Rg_needOf_11 ?_
  rw [i3]
  refine zz_iadd hx hb d_Rg_needOf_12 ?_
  have hP9 : va_P D cls0 [(hg, .inr (4, [.ref ap, .ref af, .ref aT, .ref aB, .ref aS, .int (iZ (tk : Int))])), (ap, .inl (cI, np, .inl fp)), (af, .inl (cI, 32, .inl ff)), (aT, .inl (cI, 32, .inl ft)), (aB, .inl (cI, 32, .inl fb)), (aS, .inl (cI, 32, .inl fs))] H := hP.sub [0, 1, 2, 3, 4, 5] rfl
  have hD9 : va_D A [(hg, .inr (4, [.ref ap, .ref af, .ref aT, .ref aB, .ref aS, .int (iZ (tk : Int))])), (ap, .inl (cI, np, .inl fp)), (af, .inl (cI, 32, .inl ff)), (aT, .inl (cI, 32, .inl ft)), (aB, .inl (cI, 32, .inl fb)), (aS, .inl (cI, 32, .inl fs))] := hD.sub [0, 1, 2, 3, 4, 5] (by decide) rfl
  rw [hQ, ← hAe]
  refine r_i (v := (iZ ((lm (tv r) : Int) + (lm (bv r) : Int)))) K () hS d_Rg_needOf_13 ?_ (fun t ht hv => ?_)
  · exact rfl
  · exact ⟨by rw [ht]; exact hP9, va_K.moved hv hK, by rw [← hAe]; exact hD9⟩
set_option maxHeartbeats 4000000 in
set_option maxRecDepth 100000 in
/-- signOf(r) -/
theorem c_Rg_signOf (l : Launch) (D : va_G) (hg : Nat) (ap : Nat) (af : Nat) (aT : Nat) (aB : Nat) (aS : Nat) (np : Nat) (fp : Nat → Int32) (ff : Nat → Int32) (ft : Nat → Int32) (fb : Nat → Int32) (fs : Nat → Int32) (tk : Nat) (cI : ClassId) (F : Nat → Nat) (tv : Nat → Nat) (bv : Nat → Nat) (sg : Nat → Int) (r : Nat) (sz : Nat) (I : RgI fp ff ft fb fs tk np F tv bv sg) (hr : r < 32) (hnp : np ≤ 1024) : Met l y_Rg_signOf (wsB y_Rg_signOf b_Rg_signOf 2 (some .int)) ({ frames := 0, cells := 0, slots := 0, locals := 0 }) (va_Pc [.ref hg, .int (iZ (r : Int))] (wPre D [(cI, .int)] [(hg, .inr (4, [.ref ap, .ref af, .ref aT, .ref aB, .ref aS, .int (iZ (tk : Int))])), (ap, .inl (cI, np, .inl fp)), (af, .inl (cI, 32, .inl ff)), (aT, .inl (cI, 32, .inl ft)), (aB, .inl (cI, 32, .inl fb)), (aS, .inl (cI, 32, .inl fs))] sz)) (va_QV (fun (v_9 : Option Value) (u_9 : Unit) => v_9 = some (.int (iZ (sg r)))) (fun u_9 => wPost D [(cI, .int)] [(hg, .inr (4, [.ref ap, .ref af, .ref aT, .ref aB, .ref aS, .int (iZ (tk : Int))])), (ap, .inl (cI, np, .inl fp)), (af, .inl (cI, 32, .inl ff)), (aT, .inl (cI, 32, .inl ft)), (aB, .inl (cI, 32, .inl fb)), (aS, .inl (cI, 32, .inl fs))] [(hg, .inr (4, [.ref ap, .ref af, .ref aT, .ref aB, .ref aS, .int (iZ (tk : Int))])), (ap, .inl (cI, np, .inl fp)), (af, .inl (cI, 32, .inl ff)), (aT, .inl (cI, 32, .inl ft)), (aB, .inl (cI, 32, .inl fb)), (aS, .inl (cI, 32, .inl fs))] sz) (va_A [(hg, .inr (4, [.ref ap, .ref af, .ref aT, .ref aB, .ref aS, .int (iZ (tk : Int))])), (ap, .inl (cI, np, .inl fp)), (af, .inl (cI, 32, .inl ff)), (aT, .inl (cI, 32, .inl ft)), (aB, .inl (cI, 32, .inl fb)), (aS, .inl (cI, 32, .inl fs))] sz)) 0 0 (va_A [(hg, .inr (4, [.ref ap, .ref af, .ref aT, .ref aB, .ref aS, .int (iZ (tk : Int))])), (ap, .inl (cI, np, .inl fp)), (af, .inl (cI, 32, .inl ff)), (aT, .inl (cI, 32, .inl ft)), (aB, .inl (cI, 32, .inl fb)), (aS, .inl (cI, 32, .inl fs))] sz) := by
  refine met_enter (by decide +kernel) (Nat.le_of_ble_eq_true rfl) ?_
  intro p e s m args below meth c ls A R Q H locs K hin hAe hA hR hQ hP hK hD hS hl
  obtain ⟨hx, hb, hml, hrt, hlk, hts, hown, hno⟩ := id K
  have hl : lv_has ls 2 [(0, .ref hg), (1, .int (iZ (r : Int)))] := hl
  obtain ⟨i1, i2, i3, i4, i5, i6, i7, i8⟩ := I.at hr
  have i9 := I.2.2.1
  refine lv_aload_n hx hb d_Rg_signOf_0 rfl (lv_at hl 0 rfl) ?_
  refine va_get (D := D) (ci := 4) (v := .ref aS) (C := R_Rg) (T := F_Rg) (N := 6) hx hb hts i_Rg hown hK hP 0 rfl rfl 4 (by decide) (hts _ (big_in mw_54 rfl)) (fun _ h9 => h9) rfl d_Rg_signOf_1 ?_
  refine lv_iload_n hx hb d_Rg_signOf_4 rfl (lv_at hl 1 rfl) ?_
  refine zz_iald hx hb hK hP 5 0 rfl rfl (r) (by omega) (by omega) (by omega) d_Rg_signOf_5 ?_
  rw [i4]
  have hP9 : va_P D cls0 [(hg, .inr (4, [.ref ap, .ref af, .ref aT, .ref aB, .ref aS, .int (iZ (tk : Int))])), (ap, .inl (cI, np, .inl fp)), (af, .inl (cI, 32, .inl ff)), (aT, .inl (cI, 32, .inl ft)), (aB, .inl (cI, 32, .inl fb)), (aS, .inl (cI, 32, .inl fs))] H := hP.sub [0, 1, 2, 3, 4, 5] rfl
  have hD9 : va_D A [(hg, .inr (4, [.ref ap, .ref af, .ref aT, .ref aB, .ref aS, .int (iZ (tk : Int))])), (ap, .inl (cI, np, .inl fp)), (af, .inl (cI, 32, .inl ff)), (aT, .inl (cI, 32, .inl ft)), (aB, .inl (cI, 32, .inl fb)), (aS, .inl (cI, 32, .inl fs))] := hD.sub [0, 1, 2, 3, 4, 5] (by decide) rfl
  rw [hQ, ← hAe]
  refine r_i (v := (iZ (sg r))) K () hS d_Rg_signOf_6 ?_ (fun t ht hv => ?_)
  · exact rfl
  · exact ⟨by rw [ht]; exact hP9, va_K.moved hv hK, by rw [← hAe]; exact hD9⟩
set_option maxHeartbeats 4000000 in
set_option maxRecDepth 100000 in
/-- limbOf(r, denominator, k) -/
theorem c_Rg_limbOf0 (l : Launch) (D : va_G) (hg : Nat) (ap : Nat) (af : Nat) (aT : Nat) (aB : Nat) (aS : Nat) (np : Nat) (fp : Nat → Int32) (ff : Nat → Int32) (ft : Nat → Int32) (fb : Nat → Int32) (fs : Nat → Int32) (tk : Nat) (cI : ClassId) (F : Nat → Nat) (tv : Nat → Nat) (bv : Nat → Nat) (sg : Nat → Int) (r : Nat) (k : Nat) (sz : Nat) (I : RgI fp ff ft fb fs tk np F tv bv sg) (hr : r < 32) (hnp : np ≤ 1024) (hk : k < 2147483648) : Met l y_Rg_limbOf (wsB y_Rg_limbOf b_Rg_limbOf 6 (some .int)) ({ frames := 0, cells := 0, slots := 0, locals := 0 }) (va_Pc [.ref hg, .int (iZ (r : Int)), .int (iZ 0), .int (iZ (k : Int))] (wPre D [(cI, .int)] [(hg, .inr (4, [.ref ap, .ref af, .ref aT, .ref aB, .ref aS, .int (iZ (tk : Int))])), (ap, .inl (cI, np, .inl fp)), (af, .inl (cI, 32, .inl ff)), (aT, .inl (cI, 32, .inl ft)), (aB, .inl (cI, 32, .inl fb)), (aS, .inl (cI, 32, .inl fs))] sz)) (va_QV (fun (v_9 : Option Value) (u_9 : Int32) => v_9 = some (.int u_9) ∧ (uw u_9 = (tv r) / pB k % 4294967296)) (fun u_9 => wPost D [(cI, .int)] [(hg, .inr (4, [.ref ap, .ref af, .ref aT, .ref aB, .ref aS, .int (iZ (tk : Int))])), (ap, .inl (cI, np, .inl fp)), (af, .inl (cI, 32, .inl ff)), (aT, .inl (cI, 32, .inl ft)), (aB, .inl (cI, 32, .inl fb)), (aS, .inl (cI, 32, .inl fs))] [(hg, .inr (4, [.ref ap, .ref af, .ref aT, .ref aB, .ref aS, .int (iZ (tk : Int))])), (ap, .inl (cI, np, .inl fp)), (af, .inl (cI, 32, .inl ff)), (aT, .inl (cI, 32, .inl ft)), (aB, .inl (cI, 32, .inl fb)), (aS, .inl (cI, 32, .inl fs))] sz) (va_A [(hg, .inr (4, [.ref ap, .ref af, .ref aT, .ref aB, .ref aS, .int (iZ (tk : Int))])), (ap, .inl (cI, np, .inl fp)), (af, .inl (cI, 32, .inl ff)), (aT, .inl (cI, 32, .inl ft)), (aB, .inl (cI, 32, .inl fb)), (aS, .inl (cI, 32, .inl fs))] sz)) 0 0 (va_A [(hg, .inr (4, [.ref ap, .ref af, .ref aT, .ref aB, .ref aS, .int (iZ (tk : Int))])), (ap, .inl (cI, np, .inl fp)), (af, .inl (cI, 32, .inl ff)), (aT, .inl (cI, 32, .inl ft)), (aB, .inl (cI, 32, .inl fb)), (aS, .inl (cI, 32, .inl fs))] sz) := by
  refine met_enter (by decide +kernel) (Nat.le_of_ble_eq_true rfl) ?_
  intro p e s m args below meth c ls A R Q H locs K hin hAe hA hR hQ hP hK hD hS hl
  obtain ⟨hx, hb, hml, hrt, hlk, hts, hown, hno⟩ := id K
  have hl : lv_has ls 6 [(0, .ref hg), (1, .int (iZ (r : Int))), (2, .int (iZ 0)), (3, .int (iZ (k : Int)))] := hl
  obtain ⟨i1, i2, i3, i4, i5, i6, i7, i8⟩ := I.at hr
  have i9 := I.2.2.1
  refine lv_iload_n hx hb d_Rg_limbOf_0 rfl (lv_at hl 2 rfl) ?_
  refine zz_if_eq (tgt := 20) hx hb d_Rg_limbOf_1 (by decide) (by omega) (fun c1 => ?_) (fun c1 => False.elim (by omega))
  refine lv_aload_n hx hb d_Rg_limbOf_20 rfl (lv_at hl 0 rfl) ?_
  refine va_get (D := D) (ci := 4) (v := .ref af) (C := R_Rg) (T := F_Rg) (N := 6) hx hb hts i_Rg hown hK hP 0 rfl rfl 1 (by decide) (hts _ (big_in mw_51 rfl)) (fun _ h9 => h9) rfl d_Rg_limbOf_21 ?_
  refine lv_iload_n hx hb d_Rg_limbOf_24 rfl (lv_at hl 1 rfl) ?_
  refine zz_iald hx hb hK hP 2 0 rfl rfl (r) (by omega) (by omega) (by omega) d_Rg_limbOf_25 ?_
  rw [i1]
  refine lv_istore (lv' := [(4, .int (iZ (F r : Int))), (0, .ref hg), (1, .int (iZ (r : Int))), (2, .int (iZ 0)), (3, .int (iZ (k : Int)))]) hx hb d_Rg_limbOf_26 hl (by decide) rfl (fun ls hl => ?_)
  refine lv_iload_n hx hb d_Rg_limbOf_28 rfl (lv_at hl 3 rfl) ?_
  refine zz_if_eq (tgt := 41) hx hb d_Rg_limbOf_29 (by decide) (by omega) (fun c29 => ?_) (fun c29 => False.elim (by omega))
  refine lv_aload_n hx hb d_Rg_limbOf_41 rfl (lv_at hl 1 rfl) ?_
  refine va_get (D := D) (ci := 4) (v := .ref aT) (C := R_Rg) (T := F_Rg) (N := 6) hx hb hts i_Rg hown hK hP 0 rfl rfl 2 (by decide) (hts _ (big_in mw_52 rfl)) (fun _ h9 => h9) rfl d_Rg_limbOf_42 ?_
  refine lv_iload_n hx hb d_Rg_limbOf_45 rfl (lv_at hl 2 rfl) ?_
  refine zz_iald hx hb hK hP 3 0 rfl rfl (r) (by omega) (by omega) (by omega) d_Rg_limbOf_46 ?_
  rw [i2]
  refine lv_istore (lv' := [(5, .int (iZ (lm (tv r) : Int))), (4, .int (iZ (F r : Int))), (0, .ref hg), (1, .int (iZ (r : Int))), (2, .int (iZ 0)), (3, .int (iZ (k : Int)))]) hx hb d_Rg_limbOf_47 hl (by decide) rfl (fun ls hl => ?_)
  refine lv_iload_n hx hb d_Rg_limbOf_49 rfl (lv_at hl 5 rfl) ?_
  refine zz_if_lt (tgt := 71) hx hb d_Rg_limbOf_50 (by decide) (by omega) (fun c50 => ?_) (fun c50 => ?_)
  · refine lv_iconst (v := iZ (0)) hx hb d_Rg_limbOf_71 (by decide +kernel) ?_
    have hP9 : va_P D cls0 [(hg, .inr (4, [.ref ap, .ref af, .ref aT, .ref aB, .ref aS, .int (iZ (tk : Int))])), (ap, .inl (cI, np, .inl fp)), (af, .inl (cI, 32, .inl ff)), (aT, .inl (cI, 32, .inl ft)), (aB, .inl (cI, 32, .inl fb)), (aS, .inl (cI, 32, .inl fs))] H := hP.sub [0, 1, 2, 3, 4, 5] rfl
    have hD9 : va_D A [(hg, .inr (4, [.ref ap, .ref af, .ref aT, .ref aB, .ref aS, .int (iZ (tk : Int))])), (ap, .inl (cI, np, .inl fp)), (af, .inl (cI, 32, .inl ff)), (aT, .inl (cI, 32, .inl ft)), (aB, .inl (cI, 32, .inl fb)), (aS, .inl (cI, 32, .inl fs))] := hD.sub [0, 1, 2, 3, 4, 5] (by decide) rfl
    rw [hQ, ← hAe]
    refine r_i (v := (iZ 0)) K (iZ 0) hS d_Rg_limbOf_72 ?_ (fun t ht hv => ?_)
    · refine ⟨rfl, ?_⟩
      rw [limb_of i5.1, at0_out (by omega)]; rfl
    · exact ⟨by rw [ht]; exact hP9, va_K.moved hv hK, by rw [← hAe]; exact hD9⟩
  · refine lv_iload_n hx hb d_Rg_limbOf_53 rfl (lv_at hl 5 rfl) ?_
    refine lv_iload hx hb d_Rg_limbOf_54 (lv_at hl 0 rfl) ?_
    refine zz_icmp_ge (tgt := 71) hx hb d_Rg_limbOf_56 (by decide) (by omega) (by omega) (fun c56 => ?_) (fun c56 => ?_)
    · refine lv_iconst (v := iZ (0)) hx hb d_Rg_limbOf_71 (by decide +kernel) ?_
      have hP9 : va_P D cls0 [(hg, .inr (4, [.ref ap, .ref af, .ref aT, .ref aB, .ref aS, .int (iZ (tk : Int))])), (ap, .inl (cI, np, .inl fp)), (af, .inl (cI, 32, .inl ff)), (aT, .inl (cI, 32, .inl ft)), (aB, .inl (cI, 32, .inl fb)), (aS, .inl (cI, 32, .inl fs))] H := hP.sub [0, 1, 2, 3, 4, 5] rfl
      have hD9 : va_D A [(hg, .inr (4, [.ref ap, .ref af, .ref aT, .ref aB, .ref aS, .int (iZ (tk : Int))])), (ap, .inl (cI, np, .inl fp)), (af, .inl (cI, 32, .inl ff)), (aT, .inl (cI, 32, .inl ft)), (aB, .inl (cI, 32, .inl fb)), (aS, .inl (cI, 32, .inl fs))] := hD.sub [0, 1, 2, 3, 4, 5] (by decide) rfl
      rw [hQ, ← hAe]
      refine r_i (v := (iZ 0)) K (iZ 0) hS d_Rg_limbOf_72 ?_ (fun t ht hv => ?_)
      · refine ⟨rfl, ?_⟩
        rw [limb_of i5.1, at0_out (by omega)]; rfl
      · exact ⟨by rw [ht]; exact hP9, va_K.moved hv hK, by rw [← hAe]; exact hD9⟩
    · refine lv_aload_n hx hb d_Rg_limbOf_59 rfl (lv_at hl 2 rfl) ?_
      refine va_get (D := D) (ci := 4) (v := .ref ap) (C := R_Rg) (T := F_Rg) (N := 6) hx hb hts i_Rg hown hK hP 0 rfl rfl 0 (by decide) (hts _ (big_in mw_50 rfl)) (fun _ h9 => h9) rfl d_Rg_limbOf_60 ?_
      refine lv_iload hx hb d_Rg_limbOf_63 (lv_at hl 1 rfl) ?_
      refine lv_iload_n hx hb d_Rg_limbOf_65 rfl (lv_at hl 5 rfl) ?_
      refine zz_iadd hx hb d_Rg_limbOf_66 ?_
      refine zz_iald hx hb hK hP 1 0 rfl rfl (F r + k) (by omega) (by omega) (by omega) d_Rg_limbOf_67 ?_
      refine lv_goto (tgt := 72) hx hb d_Rg_limbOf_68 (by decide) ?_
      have hP9 : va_P D cls0 [(hg, .inr (4, [.ref ap, .ref af, .ref aT, .ref aB, .ref aS, .int (iZ (tk : Int))])), (ap, .inl (cI, np, .inl fp)), (af, .inl (cI, 32, .inl ff)), (aT, .inl (cI, 32, .inl ft)), (aB, .inl (cI, 32, .inl fb)), (aS, .inl (cI, 32, .inl fs))] H := hP.sub [0, 1, 2, 3, 4, 5] rfl
      have hD9 : va_D A [(hg, .inr (4, [.ref ap, .ref af, .ref aT, .ref aB, .ref aS, .int (iZ (tk : Int))])), (ap, .inl (cI, np, .inl fp)), (af, .inl (cI, 32, .inl ff)), (aT, .inl (cI, 32, .inl ft)), (aB, .inl (cI, 32, .inl fb)), (aS, .inl (cI, 32, .inl fs))] := hD.sub [0, 1, 2, 3, 4, 5] (by decide) rfl
      rw [hQ, ← hAe]
      refine r_i (v := (fp (F r + k))) K (fp (F r + k)) hS d_Rg_limbOf_72 ?_ (fun t ht hv => ?_)
      · refine ⟨rfl, ?_⟩
        rw [limb_of i5.1, at0_in (by omega)]; rfl
      · exact ⟨by rw [ht]; exact hP9, va_K.moved hv hK, by rw [← hAe]; exact hD9⟩
set_option maxHeartbeats 4000000 in
set_option maxRecDepth 100000 in
/-- limbOf(r, denominator, k) -/
theorem c_Rg_limbOf1 (l : Launch) (D : va_G) (hg : Nat) (ap : Nat) (af : Nat) (aT : Nat) (aB : Nat) (aS : Nat) (np : Nat) (fp : Nat → Int32) (ff : Nat → Int32) (ft : Nat → Int32) (fb : Nat → Int32) (fs : Nat → Int32) (tk : Nat) (cI : ClassId) (F : Nat → Nat) (tv : Nat → Nat) (bv : Nat → Nat) (sg : Nat → Int) (r : Nat) (k : Nat) (sz : Nat) (I : RgI fp ff ft fb fs tk np F tv bv sg) (hr : r < 32) (hnp : np ≤ 1024) (hk : k < 2147483648) : Met l y_Rg_limbOf (wsB y_Rg_limbOf b_Rg_limbOf 6 (some .int)) ({ frames := 0, cells := 0, slots := 0, locals := 0 }) (va_Pc [.ref hg, .int (iZ (r : Int)), .int (iZ 1), .int (iZ (k : Int))] (wPre D [(cI, .int)] [(hg, .inr (4, [.ref ap, .ref af, .ref aT, .ref aB, .ref aS, .int (iZ (tk : Int))])), (ap, .inl (cI, np, .inl fp)), (af, .inl (cI, 32, .inl ff)), (aT, .inl (cI, 32, .inl ft)), (aB, .inl (cI, 32, .inl fb)), (aS, .inl (cI, 32, .inl fs))] sz)) (va_QV (fun (v_9 : Option Value) (u_9 : Int32) => v_9 = some (.int u_9) ∧ (uw u_9 = (bv r) / pB k % 4294967296)) (fun u_9 => wPost D [(cI, .int)] [(hg, .inr (4, [.ref ap, .ref af, .ref aT, .ref aB, .ref aS, .int (iZ (tk : Int))])), (ap, .inl (cI, np, .inl fp)), (af, .inl (cI, 32, .inl ff)), (aT, .inl (cI, 32, .inl ft)), (aB, .inl (cI, 32, .inl fb)), (aS, .inl (cI, 32, .inl fs))] [(hg, .inr (4, [.ref ap, .ref af, .ref aT, .ref aB, .ref aS, .int (iZ (tk : Int))])), (ap, .inl (cI, np, .inl fp)), (af, .inl (cI, 32, .inl ff)), (aT, .inl (cI, 32, .inl ft)), (aB, .inl (cI, 32, .inl fb)), (aS, .inl (cI, 32, .inl fs))] sz) (va_A [(hg, .inr (4, [.ref ap, .ref af, .ref aT, .ref aB, .ref aS, .int (iZ (tk : Int))])), (ap, .inl (cI, np, .inl fp)), (af, .inl (cI, 32, .inl ff)), (aT, .inl (cI, 32, .inl ft)), (aB, .inl (cI, 32, .inl fb)), (aS, .inl (cI, 32, .inl fs))] sz)) 0 0 (va_A [(hg, .inr (4, [.ref ap, .ref af, .ref aT, .ref aB, .ref aS, .int (iZ (tk : Int))])), (ap, .inl (cI, np, .inl fp)), (af, .inl (cI, 32, .inl ff)), (aT, .inl (cI, 32, .inl ft)), (aB, .inl (cI, 32, .inl fb)), (aS, .inl (cI, 32, .inl fs))] sz) := by
  refine met_enter (by decide +kernel) (Nat.le_of_ble_eq_true rfl) ?_
  intro p e s m args below meth c ls A R Q H locs K hin hAe hA hR hQ hP hK hD hS hl
  obtain ⟨hx, hb, hml, hrt, hlk, hts, hown, hno⟩ := id K
  have hl : lv_has ls 6 [(0, .ref hg), (1, .int (iZ (r : Int))), (2, .int (iZ 1)), (3, .int (iZ (k : Int)))] := hl
  obtain ⟨i1, i2, i3, i4, i5, i6, i7, i8⟩ := I.at hr
  have i9 := I.2.2.1
  refine lv_iload_n hx hb d_Rg_limbOf_0 rfl (lv_at hl 2 rfl) ?_
  refine zz_if_eq (tgt := 20) hx hb d_Rg_limbOf_1 (by decide) (by omega) (fun c1 => False.elim (by omega)) (fun c1 => ?_)
  refine lv_aload_n hx hb d_Rg_limbOf_4 rfl (lv_at hl 0 rfl) ?_
  refine va_get (D := D) (ci := 4) (v := .ref af) (C := R_Rg) (T := F_Rg) (N := 6) hx hb hts i_Rg hown hK hP 0 rfl rfl 1 (by decide) (hts _ (big_in mw_51 rfl)) (fun _ h9 => h9) rfl d_Rg_limbOf_5 ?_
  refine lv_iload_n hx hb d_Rg_limbOf_8 rfl (lv_at hl 1 rfl) ?_
  refine zz_iald hx hb hK hP 2 0 rfl rfl (r) (by omega) (by omega) (by omega) d_Rg_limbOf_9 ?_
  rw [i1]
  refine lv_aload_n hx hb d_Rg_limbOf_10 rfl (lv_at hl 0 rfl) ?_
  refine va_get (D := D) (ci := 4) (v := .ref aT) (C := R_Rg) (T := F_Rg) (N := 6) hx hb hts i_Rg hown hK hP 0 rfl rfl 2 (by decide) (hts _ (big_in mw_52 rfl)) (fun _ h9 => h9) rfl d_Rg_limbOf_11 ?_
  refine lv_iload_n hx hb d_Rg_limbOf_14 rfl (lv_at hl 1 rfl) ?_
  refine zz_iald hx hb hK hP 3 0 rfl rfl (r) (by omega) (by omega) (by omega) d_Rg_limbOf_15 ?_
  rw [i2]
  refine zz_iadd hx hb d_Rg_limbOf_16 ?_
  refine lv_goto (tgt := 26) hx hb d_Rg_limbOf_17 (by decide) ?_
  refine lv_istore (lv' := [(4, .int (iZ ((F r : Int) + (lm (tv r) : Int)))), (0, .ref hg), (1, .int (iZ (r : Int))), (2, .int (iZ 1)), (3, .int (iZ (k : Int)))]) hx hb d_Rg_limbOf_26 hl (by decide) rfl (fun ls hl => ?_)
  refine lv_iload_n hx hb d_Rg_limbOf_28 rfl (lv_at hl 3 rfl) ?_
  refine zz_if_eq (tgt := 41) hx hb d_Rg_limbOf_29 (by decide) (by omega) (fun c29 => False.elim (by omega)) (fun c29 => ?_)
  refine lv_aload_n hx hb d_Rg_limbOf_32 rfl (lv_at hl 1 rfl) ?_
  refine va_get (D := D) (ci := 4) (v := .ref aB) (C := R_Rg) (T := F_Rg) (N := 6) hx hb hts i_Rg hown hK hP 0 rfl rfl 3 (by decide) (hts _ (big_in mw_53 rfl)) (fun _ h9 => h9) rfl d_Rg_limbOf_33 ?_
  refine lv_iload_n hx hb d_Rg_limbOf_36 rfl (lv_at hl 2 rfl) ?_
  refine zz_iald hx hb hK hP 4 0 rfl rfl (r) (by omega) (by omega) (by omega) d_Rg_limbOf_37 ?_
  rw [i3]
  refine lv_goto (tgt := 47) hx hb d_Rg_limbOf_38 (by decide) ?_
  refine lv_istore (lv' := [(5, .int (iZ (lm (bv r) : Int))), (4, .int (iZ ((F r : Int) + (lm (tv r) : Int)))), (0, .ref hg), (1, .int (iZ (r : Int))), (2, .int (iZ 1)), (3, .int (iZ (k : Int)))]) hx hb d_Rg_limbOf_47 hl (by decide) rfl (fun ls hl => ?_)
  refine lv_iload_n hx hb d_Rg_limbOf_49 rfl (lv_at hl 5 rfl) ?_
  refine zz_if_lt (tgt := 71) hx hb d_Rg_limbOf_50 (by decide) (by omega) (fun c50 => ?_) (fun c50 => ?_)
  · refine lv_iconst (v := iZ (0)) hx hb d_Rg_limbOf_71 (by decide +kernel) ?_
    have hP9 : va_P D cls0 [(hg, .inr (4, [.ref ap, .ref af, .ref aT, .ref aB, .ref aS, .int (iZ (tk : Int))])), (ap, .inl (cI, np, .inl fp)), (af, .inl (cI, 32, .inl ff)), (aT, .inl (cI, 32, .inl ft)), (aB, .inl (cI, 32, .inl fb)), (aS, .inl (cI, 32, .inl fs))] H := hP.sub [0, 1, 2, 3, 4, 5] rfl
    have hD9 : va_D A [(hg, .inr (4, [.ref ap, .ref af, .ref aT, .ref aB, .ref aS, .int (iZ (tk : Int))])), (ap, .inl (cI, np, .inl fp)), (af, .inl (cI, 32, .inl ff)), (aT, .inl (cI, 32, .inl ft)), (aB, .inl (cI, 32, .inl fb)), (aS, .inl (cI, 32, .inl fs))] := hD.sub [0, 1, 2, 3, 4, 5] (by decide) rfl
    rw [hQ, ← hAe]
    refine r_i (v := (iZ 0)) K (iZ 0) hS d_Rg_limbOf_72 ?_ (fun t ht hv => ?_)
    · refine ⟨rfl, ?_⟩
      rw [limb_of i6.1, at0_out (by omega)]; rfl
    · exact ⟨by rw [ht]; exact hP9, va_K.moved hv hK, by rw [← hAe]; exact hD9⟩
  · refine lv_iload_n hx hb d_Rg_limbOf_53 rfl (lv_at hl 5 rfl) ?_
    refine lv_iload hx hb d_Rg_limbOf_54 (lv_at hl 0 rfl) ?_
    refine zz_icmp_ge (tgt := 71) hx hb d_Rg_limbOf_56 (by decide) (by omega) (by omega) (fun c56 => ?_) (fun c56 => ?_)
    · refine lv_iconst (v := iZ (0)) hx hb d_Rg_limbOf_71 (by decide +kernel) ?_
      have hP9 : va_P D cls0 [(hg, .inr (4, [.ref ap, .ref af, .ref aT, .ref aB, .ref aS, .int (iZ (tk : Int))])), (ap, .inl (cI, np, .inl fp)), (af, .inl (cI, 32, .inl ff)), (aT, .inl (cI, 32, .inl ft)), (aB, .inl (cI, 32, .inl fb)), (aS, .inl (cI, 32, .inl fs))] H := hP.sub [0, 1, 2, 3, 4, 5] rfl
      have hD9 : va_D A [(hg, .inr (4, [.ref ap, .ref af, .ref aT, .ref aB, .ref aS, .int (iZ (tk : Int))])), (ap, .inl (cI, np, .inl fp)), (af, .inl (cI, 32, .inl ff)), (aT, .inl (cI, 32, .inl ft)), (aB, .inl (cI, 32, .inl fb)), (aS, .inl (cI, 32, .inl fs))] := hD.sub [0, 1, 2, 3, 4, 5] (by decide) rfl
      rw [hQ, ← hAe]
      refine r_i (v := (iZ 0)) K (iZ 0) hS d_Rg_limbOf_72 ?_ (fun t ht hv => ?_)
      · refine ⟨rfl, ?_⟩
        rw [limb_of i6.1, at0_out (by omega)]; rfl
      · exact ⟨by rw [ht]; exact hP9, va_K.moved hv hK, by rw [← hAe]; exact hD9⟩
    · refine lv_aload_n hx hb d_Rg_limbOf_59 rfl (lv_at hl 2 rfl) ?_
      refine va_get (D := D) (ci := 4) (v := .ref ap) (C := R_Rg) (T := F_Rg) (N := 6) hx hb hts i_Rg hown hK hP 0 rfl rfl 0 (by decide) (hts _ (big_in mw_50 rfl)) (fun _ h9 => h9) rfl d_Rg_limbOf_60 ?_
      refine lv_iload hx hb d_Rg_limbOf_63 (lv_at hl 1 rfl) ?_
      refine lv_iload_n hx hb d_Rg_limbOf_65 rfl (lv_at hl 5 rfl) ?_
      refine zz_iadd hx hb d_Rg_limbOf_66 ?_
      refine zz_iald hx hb hK hP 1 0 rfl rfl (F r + lm (tv r) + k) (by omega) (by omega) (by omega) d_Rg_limbOf_67 ?_
      refine lv_goto (tgt := 72) hx hb d_Rg_limbOf_68 (by decide) ?_
      have hP9 : va_P D cls0 [(hg, .inr (4, [.ref ap, .ref af, .ref aT, .ref aB, .ref aS, .int (iZ (tk : Int))])), (ap, .inl (cI, np, .inl fp)), (af, .inl (cI, 32, .inl ff)), (aT, .inl (cI, 32, .inl ft)), (aB, .inl (cI, 32, .inl fb)), (aS, .inl (cI, 32, .inl fs))] H := hP.sub [0, 1, 2, 3, 4, 5] rfl
      have hD9 : va_D A [(hg, .inr (4, [.ref ap, .ref af, .ref aT, .ref aB, .ref aS, .int (iZ (tk : Int))])), (ap, .inl (cI, np, .inl fp)), (af, .inl (cI, 32, .inl ff)), (aT, .inl (cI, 32, .inl ft)), (aB, .inl (cI, 32, .inl fb)), (aS, .inl (cI, 32, .inl fs))] := hD.sub [0, 1, 2, 3, 4, 5] (by decide) rfl
      rw [hQ, ← hAe]
      refine r_i (v := (fp (F r + lm (tv r) + k))) K (fp (F r + lm (tv r) + k)) hS d_Rg_limbOf_72 ?_ (fun t ht hv => ?_)
      · refine ⟨rfl, ?_⟩
        rw [limb_of i6.1, at0_in (by omega)]; rfl
      · exact ⟨by rw [ht]; exact hP9, va_K.moved hv hK, by rw [← hAe]; exact hD9⟩
set_option maxHeartbeats 4000000 in
set_option maxRecDepth 100000 in
/-- bitsOf(r, denominator) -/
theorem c_Rg_bitsOf0 (l : Launch) (D : va_G) (hg : Nat) (ap : Nat) (af : Nat) (aT : Nat) (aB : Nat) (aS : Nat) (np : Nat) (fp : Nat → Int32) (ff : Nat → Int32) (ft : Nat → Int32) (fb : Nat → Int32) (fs : Nat → Int32) (tk : Nat) (cI : ClassId) (F : Nat → Nat) (tv : Nat → Nat) (bv : Nat → Nat) (sg : Nat → Int) (r : Nat) (sz : Nat) (I : RgI fp ff ft fb fs tk np F tv bv sg) (hr : r < 32) (hnp : np ≤ 1024) : Met l y_Rg_bitsOf (wsB y_Rg_bitsOf b_Rg_bitsOf 4 (some .int)) ({ frames := 1, cells := 0, slots := 0, locals := 25 }) (va_Pc [.ref hg, .int (iZ (r : Int)), .int (iZ 0)] (wPre D [(cI, .int)] [(hg, .inr (4, [.ref ap, .ref af, .ref aT, .ref aB, .ref aS, .int (iZ (tk : Int))])), (ap, .inl (cI, np, .inl fp)), (af, .inl (cI, 32, .inl ff)), (aT, .inl (cI, 32, .inl ft)), (aB, .inl (cI, 32, .inl fb)), (aS, .inl (cI, 32, .inl fs))] sz)) (va_QV (fun (v_9 : Option Value) (u_9 : Int) => v_9 = some (.int (iZ u_9)) ∧ (u_9 = (bl (tv r) : Int))) (fun u_9 => wPost D [(cI, .int)] [(hg, .inr (4, [.ref ap, .ref af, .ref aT, .ref aB, .ref aS, .int (iZ (tk : Int))])), (ap, .inl (cI, np, .inl fp)), (af, .inl (cI, 32, .inl ff)), (aT, .inl (cI, 32, .inl ft)), (aB, .inl (cI, 32, .inl fb)), (aS, .inl (cI, 32, .inl fs))] [(hg, .inr (4, [.ref ap, .ref af, .ref aT, .ref aB, .ref aS, .int (iZ (tk : Int))])), (ap, .inl (cI, np, .inl fp)), (af, .inl (cI, 32, .inl ff)), (aT, .inl (cI, 32, .inl ft)), (aB, .inl (cI, 32, .inl fb)), (aS, .inl (cI, 32, .inl fs))] sz) (va_A [(hg, .inr (4, [.ref ap, .ref af, .ref aT, .ref aB, .ref aS, .int (iZ (tk : Int))])), (ap, .inl (cI, np, .inl fp)), (af, .inl (cI, 32, .inl ff)), (aT, .inl (cI, 32, .inl ft)), (aB, .inl (cI, 32, .inl fb)), (aS, .inl (cI, 32, .inl fs))] sz)) 0 0 (va_A [(hg, .inr (4, [.ref ap, .ref af, .ref aT, .ref aB, .ref aS, .int (iZ (tk : Int))])), (ap, .inl (cI, np, .inl fp)), (af, .inl (cI, 32, .inl ff)), (aT, .inl (cI, 32, .inl ft)), (aB, .inl (cI, 32, .inl fb)), (aS, .inl (cI, 32, .inl fs))] sz) := by
  refine met_enter (by decide +kernel) (Nat.le_of_ble_eq_true rfl) ?_
  intro p e s m args below meth c ls A R Q H locs K hin hAe hA hR hQ hP hK hD hS hl
  obtain ⟨hx, hb, hml, hrt, hlk, hts, hown, hno⟩ := id K
  have hl : lv_has ls 4 [(0, .ref hg), (1, .int (iZ (r : Int))), (2, .int (iZ 0))] := hl
  obtain ⟨i1, i2, i3, i4, i5, i6, i7, i8⟩ := I.at hr
  have i9 := I.2.2.1
  refine lv_iload_n hx hb d_Rg_bitsOf_0 rfl (lv_at hl 2 rfl) ?_
  refine zz_if_eq (tgt := 13) hx hb d_Rg_bitsOf_1 (by decide) (by omega) (fun c1 => ?_) (fun c1 => False.elim (by omega))
  refine lv_aload_n hx hb d_Rg_bitsOf_13 rfl (lv_at hl 0 rfl) ?_
  refine va_get (D := D) (ci := 4) (v := .ref aT) (C := R_Rg) (T := F_Rg) (N := 6) hx hb hts i_Rg hown hK hP 0 rfl rfl 2 (by decide) (hts _ (big_in mw_52 rfl)) (fun _ h9 => h9) rfl d_Rg_bitsOf_14 ?_
  refine lv_iload_n hx hb d_Rg_bitsOf_17 rfl (lv_at hl 1 rfl) ?_
  refine zz_iald hx hb hK hP 3 0 rfl rfl (r) (by omega) (by omega) (by omega) d_Rg_bitsOf_18 ?_
  rw [i2]
  refine lv_istore_n (lv' := [(3, .int (iZ (lm (tv r) : Int))), (0, .ref hg), (1, .int (iZ (r : Int))), (2, .int (iZ 0))]) hx hb d_Rg_bitsOf_19 rfl hl (by decide) rfl (fun ls hl => ?_)
  refine lv_iload_n hx hb d_Rg_bitsOf_20 rfl (lv_at hl 0 rfl) ?_
  refine zz_if_ne (tgt := 26) hx hb d_Rg_bitsOf_21 (by decide) (by omega) (fun c21 => ?_) (fun c21 => ?_)
  · refine lv_bipush (v := iZ (32)) hx hb d_Rg_bitsOf_26 (by decide +kernel) ?_
    refine lv_iload_n hx hb d_Rg_bitsOf_28 rfl (lv_at hl 0 rfl) ?_
    refine zz_imul hx hb d_Rg_bitsOf_29 ?_
    refine lv_aload_n hx hb d_Rg_bitsOf_30 rfl (lv_at hl 1 rfl) ?_
    refine lv_iload_n hx hb d_Rg_bitsOf_31 rfl (lv_at hl 2 rfl) ?_
    refine lv_iload_n hx hb d_Rg_bitsOf_32 rfl (lv_at hl 3 rfl) ?_
    refine lv_iload_n hx hb d_Rg_bitsOf_33 rfl (lv_at hl 0 rfl) ?_
    refine lv_iconst (v := iZ (1)) hx hb d_Rg_bitsOf_34 (by decide +kernel) ?_
    refine zz_isub hx hb d_Rg_bitsOf_35 ?_
    rw [show ((lm (tv r) : Int) - 1 : Int) = ((lm (tv r) - 1 : Nat) : Int) by omega]
    refine cv (n := 3) (wr := []) (w1 := (fun (u : Int32) => [(hg, .inr (4, [.ref ap, .ref af, .ref aT, .ref aB, .ref aS, .int (iZ (tk : Int))])), (ap, .inl (cI, np, .inl fp)), (af, .inl (cI, 32, .inl ff)), (aT, .inl (cI, 32, .inl ft)), (aB, .inl (cI, 32, .inl fb)), (aS, .inl (cI, 32, .inl fs))])) (As := [.int (iZ (r : Int)), .int (iZ 0), .int (iZ ((lm (tv r) - 1 : Nat) : Int))]) (rest := [.int (iZ (32 * (lm (tv r) : Int)))]) K hP hD hK hS hA hl.1 (c_Rg_limbOf0 l D hg ap af aT aB aS np fp ff ft fb fs tk cI F tv bv sg r (lm (tv r) - 1) H.size I hr hnp (by omega)) [0, 1, 2, 3, 4, 5] [] [0] rfl rfl rfl (by decide) (by decide) (by decide) 0 rfl rfl (big_in mw_1040 rfl) (big_in mw_2 rfl) (big_in mw_1037 rfl) (big_in mw_1038 rfl) (big_in mw_1039 rfl) rfl rfl (by decide +kernel) ⟨by rw [hR]; exact Nat.le_of_ble_eq_true rfl, by rw [hR]; exact Nat.le_of_ble_eq_true rfl⟩ rfl (Nat.le_of_ble_eq_true rfl) d_Rg_bitsOf_36 ⟨by rw [hR]; exact Nat.le_of_ble_eq_true rfl, by rw [hR]; exact Nat.le_of_ble_eq_true rfl⟩ rfl (fun v u H locs hp1 hP hD hS _ => ?_)
    obtain ⟨x1, rfl⟩ : ∃ z, z = u := ⟨_, rfl⟩
    obtain ⟨rfl, gx⟩ := hp1
    have hP : va_P D cls0 [(hg, .inr (4, [.ref ap, .ref af, .ref aT, .ref aB, .ref aS, .int (iZ (tk : Int))])), (ap, .inl (cI, np, .inl fp)), (af, .inl (cI, 32, .inl ff)), (aT, .inl (cI, 32, .inl ft)), (aB, .inl (cI, 32, .inl fb)), (aS, .inl (cI, 32, .inl fs))] H := hP
    have hD : va_D A [(hg, .inr (4, [.ref ap, .ref af, .ref aT, .ref aB, .ref aS, .int (iZ (tk : Int))])), (ap, .inl (cI, np, .inl fp)), (af, .inl (cI, 32, .inl ff)), (aT, .inl (cI, 32, .inl ft)), (aB, .inl (cI, 32, .inl fb)), (aS, .inl (cI, 32, .inl fs))] := hD
    show W p l e R s m args below meth c H locs _ _ Q (F0 m 39 ls [.int x1, .int (iZ (32 * (lm (tv r) : Int)))])
    refine zz_raw ?_
    have br := i32r x1
    have bu := uw_toInt x1
    refine cs (n := 1) (wr := [(hg, .inr (4, [.ref ap, .ref af, .ref aT, .ref aB, .ref aS, .int (iZ (tk : Int))])), (ap, .inl (cI, np, .inl fp)), (af, .inl (cI, 32, .inl ff)), (aT, .inl (cI, 32, .inl ft)), (aB, .inl (cI, 32, .inl fb)), (aS, .inl (cI, 32, .inl fs))]) (w1 := (fun (u : Int) => [])) (As := [.int (iZ x1.toInt)]) (rest := [.int (iZ (32 * (lm (tv r) : Int)))]) K hP hD hK hS hA hl.1 (c_jInt_numberOfLeadingZeros l D x1.toInt H.size (by omega)) [] [0, 1, 2, 3, 4, 5] [] rfl rfl rfl (by decide) (by decide) (by decide) (big_in mw_437 rfl) (big_in mw_18 rfl) (big_in mw_1041 rfl) (big_in mw_436 rfl) rfl rfl (by decide +kernel) ⟨by rw [hR]; exact Nat.le_of_ble_eq_true rfl, by rw [hR]; exact Nat.le_of_ble_eq_true rfl⟩ rfl (Nat.le_of_ble_eq_true rfl) d_Rg_bitsOf_39 ⟨by rw [hR]; exact Nat.le_of_ble_eq_true rfl, by rw [hR]; exact Nat.le_of_ble_eq_true rfl⟩ rfl (fun v u H locs hp2 hP hD hS _ => ?_)
    obtain ⟨rz, rfl⟩ : ∃ z, z = u := ⟨_, rfl⟩
    obtain ⟨rfl, g1⟩ := hp2
    have hP : va_P D cls0 [(hg, .inr (4, [.ref ap, .ref af, .ref aT, .ref aB, .ref aS, .int (iZ (tk : Int))])), (ap, .inl (cI, np, .inl fp)), (af, .inl (cI, 32, .inl ff)), (aT, .inl (cI, 32, .inl ft)), (aB, .inl (cI, 32, .inl fb)), (aS, .inl (cI, 32, .inl fs))] H := hP
    have hD : va_D A [(hg, .inr (4, [.ref ap, .ref af, .ref aT, .ref aB, .ref aS, .int (iZ (tk : Int))])), (ap, .inl (cI, np, .inl fp)), (af, .inl (cI, 32, .inl ff)), (aT, .inl (cI, 32, .inl ft)), (aB, .inl (cI, 32, .inl fb)), (aS, .inl (cI, 32, .inl fs))] := hD
    show W p l e R s m args below meth c H locs _ _ Q (F0 m 42 ls [.int (iZ rz), .int (iZ (32 * (lm (tv r) : Int)))])
    refine zz_isub hx hb d_Rg_bitsOf_42 ?_
    have hP9 : va_P D cls0 [(hg, .inr (4, [.ref ap, .ref af, .ref aT, .ref aB, .ref aS, .int (iZ (tk : Int))])), (ap, .inl (cI, np, .inl fp)), (af, .inl (cI, 32, .inl ff)), (aT, .inl (cI, 32, .inl ft)), (aB, .inl (cI, 32, .inl fb)), (aS, .inl (cI, 32, .inl fs))] H := hP.sub [0, 1, 2, 3, 4, 5] rfl
    have hD9 : va_D A [(hg, .inr (4, [.ref ap, .ref af, .ref aT, .ref aB, .ref aS, .int (iZ (tk : Int))])), (ap, .inl (cI, np, .inl fp)), (af, .inl (cI, 32, .inl ff)), (aT, .inl (cI, 32, .inl ft)), (aB, .inl (cI, 32, .inl fb)), (aS, .inl (cI, 32, .inl fs))] := hD.sub [0, 1, 2, 3, 4, 5] (by decide) rfl
    rw [hQ, ← hAe]
    refine r_i (v := (iZ (32 * (lm (tv r) : Int) - rz))) K (32 * (lm (tv r) : Int) - rz) hS d_Rg_bitsOf_43 ?_ (fun t ht hv => ?_)
    · refine ⟨rfl, ?_⟩
      rw [i5.bits (by omega), g1, bu]
      have eu : uw x1 = uw (sh fp (F r) (lm (tv r) - 1)) := by rw [gx, limb_of i5.1, at0_in (by omega)]
      rw [eu]
      omega
    · exact ⟨by rw [ht]; exact hP9, va_K.moved hv hK, by rw [← hAe]; exact hD9⟩
  · refine lv_iconst (v := iZ (0)) hx hb d_Rg_bitsOf_24 (by decide +kernel) ?_
    have hP9 : va_P D cls0 [(hg, .inr (4, [.ref ap, .ref af, .ref aT, .ref aB, .ref aS, .int (iZ (tk : Int))])), (ap, .inl (cI, np, .inl fp)), (af, .inl (cI, 32, .inl ff)), (aT, .inl (cI, 32, .inl ft)), (aB, .inl (cI, 32, .inl fb)), (aS, .inl (cI, 32, .inl fs))] H := hP.sub [0, 1, 2, 3, 4, 5] rfl
    have hD9 : va_D A [(hg, .inr (4, [.ref ap, .ref af, .ref aT, .ref aB, .ref aS, .int (iZ (tk : Int))])), (ap, .inl (cI, np, .inl fp)), (af, .inl (cI, 32, .inl ff)), (aT, .inl (cI, 32, .inl ft)), (aB, .inl (cI, 32, .inl fb)), (aS, .inl (cI, 32, .inl fs))] := hD.sub [0, 1, 2, 3, 4, 5] (by decide) rfl
    rw [hQ, ← hAe]
    refine r_i (v := (iZ 0)) K 0 hS d_Rg_bitsOf_25 ?_ (fun t ht hv => ?_)
    · refine ⟨rfl, ?_⟩
      have h0 : tv r = 0 := lm_eq0.mp (by omega)
      rw [h0, bl_0]; rfl
    · exact ⟨by rw [ht]; exact hP9, va_K.moved hv hK, by rw [← hAe]; exact hD9⟩
set_option maxHeartbeats 4000000 in
set_option maxRecDepth 100000 in
/-- bitsOf(r, denominator) -/
theorem c_Rg_bitsOf1 (l : Launch) (D : va_G) (hg : Nat) (ap : Nat) (af : Nat) (aT : Nat) (aB : Nat) (aS : Nat) (np : Nat) (fp : Nat → Int32) (ff : Nat → Int32) (ft : Nat → Int32) (fb : Nat → Int32) (fs : Nat → Int32) (tk : Nat) (cI : ClassId) (F : Nat → Nat) (tv : Nat → Nat) (bv : Nat → Nat) (sg : Nat → Int) (r : Nat) (sz : Nat) (I : RgI fp ff ft fb fs tk np F tv bv sg) (hr : r < 32) (hnp : np ≤ 1024) : Met l y_Rg_bitsOf (wsB y_Rg_bitsOf b_Rg_bitsOf 4 (some .int)) ({ frames := 1, cells := 0, slots := 0, locals := 25 }) (va_Pc [.ref hg, .int (iZ (r : Int)), .int (iZ 1)] (wPre D [(cI, .int)] [(hg, .inr (4, [.ref ap, .ref af, .ref aT, .ref aB, .ref aS, .int (iZ (tk : Int))])), (ap, .inl (cI, np, .inl fp)), (af, .inl (cI, 32, .inl ff)), (aT, .inl (cI, 32, .inl ft)), (aB, .inl (cI, 32, .inl fb)), (aS, .inl (cI, 32, .inl fs))] sz)) (va_QV (fun (v_9 : Option Value) (u_9 : Int) => v_9 = some (.int (iZ u_9)) ∧ (u_9 = (bl (bv r) : Int))) (fun u_9 => wPost D [(cI, .int)] [(hg, .inr (4, [.ref ap, .ref af, .ref aT, .ref aB, .ref aS, .int (iZ (tk : Int))])), (ap, .inl (cI, np, .inl fp)), (af, .inl (cI, 32, .inl ff)), (aT, .inl (cI, 32, .inl ft)), (aB, .inl (cI, 32, .inl fb)), (aS, .inl (cI, 32, .inl fs))] [(hg, .inr (4, [.ref ap, .ref af, .ref aT, .ref aB, .ref aS, .int (iZ (tk : Int))])), (ap, .inl (cI, np, .inl fp)), (af, .inl (cI, 32, .inl ff)), (aT, .inl (cI, 32, .inl ft)), (aB, .inl (cI, 32, .inl fb)), (aS, .inl (cI, 32, .inl fs))] sz) (va_A [(hg, .inr (4, [.ref ap, .ref af, .ref aT, .ref aB, .ref aS, .int (iZ (tk : Int))])), (ap, .inl (cI, np, .inl fp)), (af, .inl (cI, 32, .inl ff)), (aT, .inl (cI, 32, .inl ft)), (aB, .inl (cI, 32, .inl fb)), (aS, .inl (cI, 32, .inl fs))] sz)) 0 0 (va_A [(hg, .inr (4, [.ref ap, .ref af, .ref aT, .ref aB, .ref aS, .int (iZ (tk : Int))])), (ap, .inl (cI, np, .inl fp)), (af, .inl (cI, 32, .inl ff)), (aT, .inl (cI, 32, .inl ft)), (aB, .inl (cI, 32, .inl fb)), (aS, .inl (cI, 32, .inl fs))] sz) := by
  refine met_enter (by decide +kernel) (Nat.le_of_ble_eq_true rfl) ?_
  intro p e s m args below meth c ls A R Q H locs K hin hAe hA hR hQ hP hK hD hS hl
  obtain ⟨hx, hb, hml, hrt, hlk, hts, hown, hno⟩ := id K
  have hl : lv_has ls 4 [(0, .ref hg), (1, .int (iZ (r : Int))), (2, .int (iZ 1))] := hl
  obtain ⟨i1, i2, i3, i4, i5, i6, i7, i8⟩ := I.at hr
  have i9 := I.2.2.1
  refine lv_iload_n hx hb d_Rg_bitsOf_0 rfl (lv_at hl 2 rfl) ?_
  refine zz_if_eq (tgt := 13) hx hb d_Rg_bitsOf_1 (by decide) (by omega) (fun c1 => False.elim (by omega)) (fun c1 => ?_)
  refine lv_aload_n hx hb d_Rg_bitsOf_4 rfl (lv_at hl 0 rfl) ?_
  refine va_get (D := D) (ci := 4) (v := .ref aB) (C := R_Rg) (T := F_Rg) (N := 6) hx hb hts i_Rg hown hK hP 0 rfl rfl 3 (by decide) (hts _ (big_in mw_53 rfl)) (fun _ h9 => h9) rfl d_Rg_bitsOf_5 ?_
  refine lv_iload_n hx hb d_Rg_bitsOf_8 rfl (lv_at hl 1 rfl) ?_
  refine zz_iald hx hb hK hP 4 0 rfl rfl (r) (by omega) (by omega) (by omega) d_Rg_bitsOf_9 ?_
  rw [i3]
  refine lv_goto (tgt := 19) hx hb d_Rg_bitsOf_10 (by decide) ?_
  refine lv_istore_n (lv' := [(3, .int (iZ (lm (bv r) : Int))), (0, .ref hg), (1, .int (iZ (r : Int))), (2, .int (iZ 1))]) hx hb d_Rg_bitsOf_19 rfl hl (by decide) rfl (fun ls hl => ?_)
  refine lv_iload_n hx hb d_Rg_bitsOf_20 rfl (lv_at hl 0 rfl) ?_
  refine zz_if_ne (tgt := 26) hx hb d_Rg_bitsOf_21 (by decide) (by omega) (fun c21 => ?_) (fun c21 => ?_)
  · refine lv_bipush (v := iZ (32)) hx hb d_Rg_bitsOf_26 (by decide +kernel) ?_
    refine lv_iload_n hx hb d_Rg_bitsOf_28 rfl (lv_at hl 0 rfl) ?_
    refine zz_imul hx hb d_Rg_bitsOf_29 ?_
    refine lv_aload_n hx hb d_Rg_bitsOf_30 rfl (lv_at hl 1 rfl) ?_
    refine lv_iload_n hx hb d_Rg_bitsOf_31 rfl (lv_at hl 2 rfl) ?_
    refine lv_iload_n hx hb d_Rg_bitsOf_32 rfl (lv_at hl 3 rfl) ?_
    refine lv_iload_n hx hb d_Rg_bitsOf_33 rfl (lv_at hl 0 rfl) ?_
    refine lv_iconst (v := iZ (1)) hx hb d_Rg_bitsOf_34 (by decide +kernel) ?_
    refine zz_isub hx hb d_Rg_bitsOf_35 ?_
    rw [show ((lm (bv r) : Int) - 1 : Int) = ((lm (bv r) - 1 : Nat) : Int) by omega]
    refine cv (n := 3) (wr := []) (w1 := (fun (u : Int32) => [(hg, .inr (4, [.ref ap, .ref af, .ref aT, .ref aB, .ref aS, .int (iZ (tk : Int))])), (ap, .inl (cI, np, .inl fp)), (af, .inl (cI, 32, .inl ff)), (aT, .inl (cI, 32, .inl ft)), (aB, .inl (cI, 32, .inl fb)), (aS, .inl (cI, 32, .inl fs))])) (As := [.int (iZ (r : Int)), .int (iZ 1), .int (iZ ((lm (bv r) - 1 : Nat) : Int))]) (rest := [.int (iZ (32 * (lm (bv r) : Int)))]) K hP hD hK hS hA hl.1 (c_Rg_limbOf1 l D hg ap af aT aB aS np fp ff ft fb fs tk cI F tv bv sg r (lm (bv r) - 1) H.size I hr hnp (by omega)) [0, 1, 2, 3, 4, 5] [] [0] rfl rfl rfl (by decide) (by decide) (by decide) 0 rfl rfl (big_in mw_1040 rfl) (big_in mw_2 rfl) (big_in mw_1037 rfl) (big_in mw_1038 rfl) (big_in mw_1039 rfl) rfl rfl (by decide +kernel) ⟨by rw [hR]; exact Nat.le_of_ble_eq_true rfl, by rw [hR]; exact Nat.le_of_ble_eq_true rfl⟩ rfl (Nat.le_of_ble_eq_true rfl) d_Rg_bitsOf_36 ⟨by rw [hR]; exact Nat.le_of_ble_eq_true rfl, by rw [hR]; exact Nat.le_of_ble_eq_true rfl⟩ rfl (fun v u H locs hp1 hP hD hS _ => ?_)
    obtain ⟨x1, rfl⟩ : ∃ z, z = u := ⟨_, rfl⟩
    obtain ⟨rfl, gx⟩ := hp1
    have hP : va_P D cls0 [(hg, .inr (4, [.ref ap, .ref af, .ref aT, .ref aB, .ref aS, .int (iZ (tk : Int))])), (ap, .inl (cI, np, .inl fp)), (af, .inl (cI, 32, .inl ff)), (aT, .inl (cI, 32, .inl ft)), (aB, .inl (cI, 32, .inl fb)), (aS, .inl (cI, 32, .inl fs))] H := hP
    have hD : va_D A [(hg, .inr (4, [.ref ap, .ref af, .ref aT, .ref aB, .ref aS, .int (iZ (tk : Int))])), (ap, .inl (cI, np, .inl fp)), (af, .inl (cI, 32, .inl ff)), (aT, .inl (cI, 32, .inl ft)), (aB, .inl (cI, 32, .inl fb)), (aS, .inl (cI, 32, .inl fs))] := hD
    show W p l e R s m args below meth c H locs _ _ Q (F0 m 39 ls [.int x1, .int (iZ (32 * (lm (bv r) : Int)))])
    refine zz_raw ?_
    have br := i32r x1
    have bu := uw_toInt x1
    refine cs (n := 1) (wr := [(hg, .inr (4, [.ref ap, .ref af, .ref aT, .ref aB, .ref aS, .int (iZ (tk : Int))])), (ap, .inl (cI, np, .inl fp)), (af, .inl (cI, 32, .inl ff)), (aT, .inl (cI, 32, .inl ft)), (aB, .inl (cI, 32, .inl fb)), (aS, .inl (cI, 32, .inl fs))]) (w1 := (fun (u : Int) => [])) (As := [.int (iZ x1.toInt)]) (rest := [.int (iZ (32 * (lm (bv r) : Int)))]) K hP hD hK hS hA hl.1 (c_jInt_numberOfLeadingZeros l D x1.toInt H.size (by omega)) [] [0, 1, 2, 3, 4, 5] [] rfl rfl rfl (by decide) (by decide) (by decide) (big_in mw_437 rfl) (big_in mw_18 rfl) (big_in mw_1041 rfl) (big_in mw_436 rfl) rfl rfl (by decide +kernel) ⟨by rw [hR]; exact Nat.le_of_ble_eq_true rfl, by rw [hR]; exact Nat.le_of_ble_eq_true rfl⟩ rfl (Nat.le_of_ble_eq_true rfl) d_Rg_bitsOf_39 ⟨by rw [hR]; exact Nat.le_of_ble_eq_true rfl, by rw [hR]; exact Nat.le_of_ble_eq_true rfl⟩ rfl (fun v u H locs hp2 hP hD hS _ => ?_)
    obtain ⟨rz, rfl⟩ : ∃ z, z = u := ⟨_, rfl⟩
    obtain ⟨rfl, g1⟩ := hp2
    have hP : va_P D cls0 [(hg, .inr (4, [.ref ap, .ref af, .ref aT, .ref aB, .ref aS, .int (iZ (tk : Int))])), (ap, .inl (cI, np, .inl fp)), (af, .inl (cI, 32, .inl ff)), (aT, .inl (cI, 32, .inl ft)), (aB, .inl (cI, 32, .inl fb)), (aS, .inl (cI, 32, .inl fs))] H := hP
    have hD : va_D A [(hg, .inr (4, [.ref ap, .ref af, .ref aT, .ref aB, .ref aS, .int (iZ (tk : Int))])), (ap, .inl (cI, np, .inl fp)), (af, .inl (cI, 32, .inl ff)), (aT, .inl (cI, 32, .inl ft)), (aB, .inl (cI, 32, .inl fb)), (aS, .inl (cI, 32, .inl fs))] := hD
    show W p l e R s m args below meth c H locs _ _ Q (F0 m 42 ls [.int (iZ rz), .int (iZ (32 * (lm (bv r) : Int)))])
    refine zz_isub hx hb d_Rg_bitsOf_42 ?_
    have hP9 : va_P D cls0 [(hg, .inr (4, [.ref ap, .ref af, .ref aT, .ref aB, .ref aS, .int (iZ (tk : Int))])), (ap, .inl (cI, np, .inl fp)), (af, .inl (cI, 32, .inl ff)), (aT, .inl (cI, 32, .inl ft)), (aB, .inl (cI, 32, .inl fb)), (aS, .inl (cI, 32, .inl fs))] H := hP.sub [0, 1, 2, 3, 4, 5] rfl
    have hD9 : va_D A [(hg, .inr (4, [.ref ap, .ref af, .ref aT, .ref aB, .ref aS, .int (iZ (tk : Int))])), (ap, .inl (cI, np, .inl fp)), (af, .inl (cI, 32, .inl ff)), (aT, .inl (cI, 32, .inl ft)), (aB, .inl (cI, 32, .inl fb)), (aS, .inl (cI, 32, .inl fs))] := hD.sub [0, 1, 2, 3, 4, 5] (by decide) rfl
    rw [hQ, ← hAe]
    refine r_i (v := (iZ (32 * (lm (bv r) : Int) - rz))) K (32 * (lm (bv r) : Int) - rz) hS d_Rg_bitsOf_43 ?_ (fun t ht hv => ?_)
    · refine ⟨rfl, ?_⟩
      rw [i6.bits (by omega), g1, bu]
      have eu : uw x1 = uw (sh fp (F r + lm (tv r)) (lm (bv r) - 1)) := by rw [gx, limb_of i6.1, at0_in (by omega)]
      rw [eu]
      omega
    · exact ⟨by rw [ht]; exact hP9, va_K.moved hv hK, by rw [← hAe]; exact hD9⟩
  · refine lv_iconst (v := iZ (0)) hx hb d_Rg_bitsOf_24 (by decide +kernel) ?_
    have hP9 : va_P D cls0 [(hg, .inr (4, [.ref ap, .ref af, .ref aT, .ref aB, .ref aS, .int (iZ (tk : Int))])), (ap, .inl (cI, np, .inl fp)), (af, .inl (cI, 32, .inl ff)), (aT, .inl (cI, 32, .inl ft)), (aB, .inl (cI, 32, .inl fb)), (aS, .inl (cI, 32, .inl fs))] H := hP.sub [0, 1, 2, 3, 4, 5] rfl
    have hD9 : va_D A [(hg, .inr (4, [.ref ap, .ref af, .ref aT, .ref aB, .ref aS, .int (iZ (tk : Int))])), (ap, .inl (cI, np, .inl fp)), (af, .inl (cI, 32, .inl ff)), (aT, .inl (cI, 32, .inl ft)), (aB, .inl (cI, 32, .inl fb)), (aS, .inl (cI, 32, .inl fs))] := hD.sub [0, 1, 2, 3, 4, 5] (by decide) rfl
    rw [hQ, ← hAe]
    refine r_i (v := (iZ 0)) K 0 hS d_Rg_bitsOf_25 ?_ (fun t ht hv => ?_)
    · refine ⟨rfl, ?_⟩
      have h0 : bv r = 0 := lm_eq0.mp (by omega)
      rw [h0, bl_0]; rfl
    · exact ⟨by rw [ht]; exact hP9, va_K.moved hv hK, by rw [← hAe]; exact hD9⟩
set_option maxHeartbeats 4000000 in
set_option maxRecDepth 100000 in
/-- load(r, into) -/
theorem c_Rg_load (l : Launch) (D : va_G) (hg : Nat) (ap : Nat) (af : Nat) (aT : Nat) (aB : Nat) (aS : Nat) (np : Nat) (fp : Nat → Int32) (ff : Nat → Int32) (ft : Nat → Int32) (fb : Nat → Int32) (fs : Nat → Int32) (tk : Nat) (ra : Nat) (qs : Int32) (h1 : Nat) (a1 : Nat) (q1 : Int32) (f1 : Nat → Int32) (h2 : Nat) (a2 : Nat) (q2 : Int32) (f2 : Nat → Int32) (n : Nat) (cI : ClassId) (F : Nat → Nat) (tv : Nat → Nat) (bv : Nat → Nat) (sg : Nat → Int) (r : Nat) (sz : Nat) (I : RgI fp ff ft fb fs tk np F tv bv sg) (hr : r < 32) (hnp : np ≤ 1024) (hnn : np ≤ n) (hn : n ≤ 2240) : Met l y_Rg_load (wsB y_Rg_load b_Rg_load 3 none) ({ frames := 2, cells := 0, slots := 0, locals := 123 }) (va_Pc [.ref hg, .int (iZ (r : Int)), .ref ra] (wPre D [(cI, .int)] [(hg, .inr (4, [.ref ap, .ref af, .ref aT, .ref aB, .ref aS, .int (iZ (tk : Int))])), (ap, .inl (cI, np, .inl fp)), (af, .inl (cI, 32, .inl ff)), (aT, .inl (cI, 32, .inl ft)), (aB, .inl (cI, 32, .inl fb)), (aS, .inl (cI, 32, .inl fs)), (ra, .inr (1, [.int qs, .ref h1, .ref h2])), (h1, .inr (0, [.ref a1, .int q1])), (a1, .inl (cI, n, .inl f1)), (h2, .inr (0, [.ref a2, .int q2])), (a2, .inl (cI, n, .inl f2))] sz)) (va_QV (fun (v_9 : Option Value) (u_9 : Nat × (Nat → Int32) × Nat × (Nat → Int32)) => v_9 = none ∧ (Rp u_9.2.1 u_9.1 (tv r)) ∧ (Rp u_9.2.2.2 u_9.2.2.1 (bv r))) (fun u_9 => wPost D [(cI, .int)] [(hg, .inr (4, [.ref ap, .ref af, .ref aT, .ref aB, .ref aS, .int (iZ (tk : Int))])), (ap, .inl (cI, np, .inl fp)), (af, .inl (cI, 32, .inl ff)), (aT, .inl (cI, 32, .inl ft)), (aB, .inl (cI, 32, .inl fb)), (aS, .inl (cI, 32, .inl fs)), (ra, .inr (1, [.int qs, .ref h1, .ref h2])), (h1, .inr (0, [.ref a1, .int q1])), (a1, .inl (cI, n, .inl f1)), (h2, .inr (0, [.ref a2, .int q2])), (a2, .inl (cI, n, .inl f2))] [(hg, .inr (4, [.ref ap, .ref af, .ref aT, .ref aB, .ref aS, .int (iZ (tk : Int))])), (ap, .inl (cI, np, .inl fp)), (af, .inl (cI, 32, .inl ff)), (aT, .inl (cI, 32, .inl ft)), (aB, .inl (cI, 32, .inl fb)), (aS, .inl (cI, 32, .inl fs)), (ra, .inr (1, [.int (iZ (sg r)), .ref h1, .ref h2])), (h1, .inr (0, [.ref a1, .int (iZ (u_9.1 : Int))])), (a1, .inl (cI, n, .inl u_9.2.1)), (h2, .inr (0, [.ref a2, .int (iZ (u_9.2.2.1 : Int))])), (a2, .inl (cI, n, .inl u_9.2.2.2))] sz) (va_A [(hg, .inr (4, [.ref ap, .ref af, .ref aT, .ref aB, .ref aS, .int (iZ (tk : Int))])), (ap, .inl (cI, np, .inl fp)), (af, .inl (cI, 32, .inl ff)), (aT, .inl (cI, 32, .inl ft)), (aB, .inl (cI, 32, .inl fb)), (aS, .inl (cI, 32, .inl fs)), (ra, .inr (1, [.int qs, .ref h1, .ref h2])), (h1, .inr (0, [.ref a1, .int q1])), (a1, .inl (cI, n, .inl f1)), (h2, .inr (0, [.ref a2, .int q2])), (a2, .inl (cI, n, .inl f2))] sz)) 0 0 (va_A [(hg, .inr (4, [.ref ap, .ref af, .ref aT, .ref aB, .ref aS, .int (iZ (tk : Int))])), (ap, .inl (cI, np, .inl fp)), (af, .inl (cI, 32, .inl ff)), (aT, .inl (cI, 32, .inl ft)), (aB, .inl (cI, 32, .inl fb)), (aS, .inl (cI, 32, .inl fs)), (ra, .inr (1, [.int qs, .ref h1, .ref h2])), (h1, .inr (0, [.ref a1, .int q1])), (a1, .inl (cI, n, .inl f1)), (h2, .inr (0, [.ref a2, .int q2])), (a2, .inl (cI, n, .inl f2))] sz) := by
  refine met_enter (by decide +kernel) (Nat.le_of_ble_eq_true rfl) ?_
  intro p e s m args below meth c ls A R Q H locs K hin hAe hA hR hQ hP hK hD hS hl
  obtain ⟨hx, hb, hml, hrt, hlk, hts, hown, hno⟩ := id K
  have hl : lv_has ls 3 [(0, .ref hg), (1, .int (iZ (r : Int))), (2, .ref ra)] := hl
  obtain ⟨i1, i2, i3, i4, i5, i6, i7, i8⟩ := I.at hr
  have i9 := I.2.2.1
  refine lv_aload_n hx hb d_Rg_load_0 rfl (lv_at hl 2 rfl) ?_
  refine lv_aload_n hx hb d_Rg_load_1 rfl (lv_at hl 0 rfl) ?_
  refine va_get (D := D) (ci := 4) (v := .ref aS) (C := R_Rg) (T := F_Rg) (N := 6) hx hb hts i_Rg hown hK hP 0 rfl rfl 4 (by decide) (hts _ (big_in mw_54 rfl)) (fun _ h9 => h9) rfl d_Rg_load_2 ?_
  refine lv_iload_n hx hb d_Rg_load_5 rfl (lv_at hl 1 rfl) ?_
  refine zz_iald hx hb hK hP 5 0 rfl rfl (r) (by omega) (by omega) (by omega) d_Rg_load_6 ?_
  rw [i4]
  refine va_put (D := D) (ci := 1) (v := .int (iZ (sg r))) (ty := .int) (C := R_Ra) (T := F_Ra) (N := 3) hx hb hts i_Ra t_Ra t_Ra_ok n_Ra hown hK hP hD hS 6 rfl rfl 0 (by decide) (hts _ (big_in mw_190 rfl)) (fun _ h9 => h9) rfl (by decide +kernel) rfl rfl (Nat.le_of_ble_eq_true rfl) d_Rg_load_7 (fun H locs hP hD hS => ?_)
  have hP : va_P D cls0 [(hg, .inr (4, [.ref ap, .ref af, .ref aT, .ref aB, .ref aS, .int (iZ (tk : Int))])), (ap, .inl (cI, np, .inl fp)), (af, .inl (cI, 32, .inl ff)), (aT, .inl (cI, 32, .inl ft)), (aB, .inl (cI, 32, .inl fb)), (aS, .inl (cI, 32, .inl fs)), (ra, .inr (1, [.int (iZ (sg r)), .ref h1, .ref h2])), (h1, .inr (0, [.ref a1, .int q1])), (a1, .inl (cI, n, .inl f1)), (h2, .inr (0, [.ref a2, .int q2])), (a2, .inl (cI, n, .inl f2))] H := hP
  have hD : va_D A [(hg, .inr (4, [.ref ap, .ref af, .ref aT, .ref aB, .ref aS, .int (iZ (tk : Int))])), (ap, .inl (cI, np, .inl fp)), (af, .inl (cI, 32, .inl ff)), (aT, .inl (cI, 32, .inl ft)), (aB, .inl (cI, 32, .inl fb)), (aS, .inl (cI, 32, .inl fs)), (ra, .inr (1, [.int (iZ (sg r)), .ref h1, .ref h2])), (h1, .inr (0, [.ref a1, .int q1])), (a1, .inl (cI, n, .inl f1)), (h2, .inr (0, [.ref a2, .int q2])), (a2, .inl (cI, n, .inl f2))] := hD
  refine lv_aload_n hx hb d_Rg_load_10 rfl (lv_at hl 2 rfl) ?_
  refine va_get (D := D) (ci := 1) (v := .ref h1) (C := R_Ra) (T := F_Ra) (N := 3) hx hb hts i_Ra hown hK hP 6 rfl rfl 1 (by decide) (hts _ (big_in mw_196 rfl)) (fun _ h9 => h9) rfl d_Rg_load_11 ?_
  refine lv_aload_n hx hb d_Rg_load_14 rfl (lv_at hl 0 rfl) ?_
  refine va_get (D := D) (ci := 4) (v := .ref ap) (C := R_Rg) (T := F_Rg) (N := 6) hx hb hts i_Rg hown hK hP 0 rfl rfl 0 (by decide) (hts _ (big_in mw_50 rfl)) (fun _ h9 => h9) rfl d_Rg_load_15 ?_
  refine lv_aload_n hx hb d_Rg_load_18 rfl (lv_at hl 0 rfl) ?_
  refine va_get (D := D) (ci := 4) (v := .ref af) (C := R_Rg) (T := F_Rg) (N := 6) hx hb hts i_Rg hown hK hP 0 rfl rfl 1 (by decide) (hts _ (big_in mw_51 rfl)) (fun _ h9 => h9) rfl d_Rg_load_19 ?_
  refine lv_iload_n hx hb d_Rg_load_22 rfl (lv_at hl 1 rfl) ?_
  refine zz_iald hx hb hK hP 2 0 rfl rfl (r) (by omega) (by omega) (by omega) d_Rg_load_23 ?_
  rw [i1]
  refine lv_aload_n hx hb d_Rg_load_24 rfl (lv_at hl 0 rfl) ?_
  refine va_get (D := D) (ci := 4) (v := .ref aT) (C := R_Rg) (T := F_Rg) (N := 6) hx hb hts i_Rg hown hK hP 0 rfl rfl 2 (by decide) (hts _ (big_in mw_52 rfl)) (fun _ h9 => h9) rfl d_Rg_load_25 ?_
  refine lv_iload_n hx hb d_Rg_load_28 rfl (lv_at hl 1 rfl) ?_
  refine zz_iald hx hb hK hP 3 0 rfl rfl (r) (by omega) (by omega) (by omega) d_Rg_load_29 ?_
  rw [i2]
  rw [show ((F r : Int) : Int) = ((F r : Nat) : Int) by omega]
  rw [show ((lm (tv r) : Int) : Int) = ((lm (tv r) : Nat) : Int) by omega]
  refine cv (n := 3) (wr := [(hg, .inr (4, [.ref ap, .ref af, .ref aT, .ref aB, .ref aS, .int (iZ (tk : Int))])), (af, .inl (cI, 32, .inl ff)), (aT, .inl (cI, 32, .inl ft)), (aB, .inl (cI, 32, .inl fb)), (aS, .inl (cI, 32, .inl fs)), (ra, .inr (1, [.int (iZ (sg r)), .ref h1, .ref h2])), (h2, .inr (0, [.ref a2, .int q2])), (a2, .inl (cI, n, .inl f2))]) (w1 := (fun (u : (Nat → Int32)) => [(h1, .inr (0, [.ref a1, .int (iZ ((lm (tv r) : Nat) : Int))])), (a1, .inl (cI, n, .inl u)), (ap, .inl (cI, np, .inl fp))])) (As := [.ref ap, .int (iZ ((F r : Nat) : Int)), .int (iZ ((lm (tv r) : Nat) : Int))]) (rest := []) K hP hD hK hS hA hl.1 (c_Wh_becomePart l D h1 a1 q1 n f1 ap np fp cI (F r) (lm (tv r)) H.size (by omega) (by omega) (by omega) (by omega)) [7, 8, 1] [0, 2, 3, 4, 5, 6, 9, 10] [0] rfl rfl rfl (by decide) (by decide) (by decide) 0 rfl rfl (big_in mw_820 rfl) (big_in mw_6 rfl) (big_in mw_817 rfl) (big_in mw_818 rfl) (big_in mw_819 rfl) rfl rfl (by decide +kernel) ⟨by rw [hR]; exact Nat.le_of_ble_eq_true rfl, by rw [hR]; exact Nat.le_of_ble_eq_true rfl⟩ rfl (Nat.le_of_ble_eq_true rfl) d_Rg_load_30 ⟨by rw [hR]; exact Nat.le_of_ble_eq_true rfl, by rw [hR]; exact Nat.le_of_ble_eq_true rfl⟩ rfl (fun v u H locs hp1 hP hD hS _ => ?_)
  obtain ⟨gg1, rfl⟩ : ∃ z, z = u := ⟨_, rfl⟩
  obtain ⟨rfl, p1⟩ := hp1
  have hP : va_P D cls0 [(hg, .inr (4, [.ref ap, .ref af, .ref aT, .ref aB, .ref aS, .int (iZ (tk : Int))])), (af, .inl (cI, 32, .inl ff)), (aT, .inl (cI, 32, .inl ft)), (aB, .inl (cI, 32, .inl fb)), (aS, .inl (cI, 32, .inl fs)), (ra, .inr (1, [.int (iZ (sg r)), .ref h1, .ref h2])), (h2, .inr (0, [.ref a2, .int q2])), (a2, .inl (cI, n, .inl f2)), (h1, .inr (0, [.ref a1, .int (iZ ((lm (tv r) : Nat) : Int))])), (a1, .inl (cI, n, .inl gg1)), (ap, .inl (cI, np, .inl fp))] H := hP
  have hD : va_D A [(hg, .inr (4, [.ref ap, .ref af, .ref aT, .ref aB, .ref aS, .int (iZ (tk : Int))])), (af, .inl (cI, 32, .inl ff)), (aT, .inl (cI, 32, .inl ft)), (aB, .inl (cI, 32, .inl fb)), (aS, .inl (cI, 32, .inl fs)), (ra, .inr (1, [.int (iZ (sg r)), .ref h1, .ref h2])), (h2, .inr (0, [.ref a2, .int q2])), (a2, .inl (cI, n, .inl f2)), (h1, .inr (0, [.ref a1, .int (iZ ((lm (tv r) : Nat) : Int))])), (a1, .inl (cI, n, .inl gg1)), (ap, .inl (cI, np, .inl fp))] := hD
  show W p l e R s m args below meth c H locs _ _ Q (F0 m 33 ls [])
  refine lv_aload_n hx hb d_Rg_load_33 rfl (lv_at hl 2 rfl) ?_
  refine va_get (D := D) (ci := 1) (v := .ref h2) (C := R_Ra) (T := F_Ra) (N := 3) hx hb hts i_Ra hown hK hP 5 rfl rfl 2 (by decide) (hts _ (big_in mw_202 rfl)) (fun _ h9 => h9) rfl d_Rg_load_34 ?_
  refine lv_aload_n hx hb d_Rg_load_37 rfl (lv_at hl 0 rfl) ?_
  refine va_get (D := D) (ci := 4) (v := .ref ap) (C := R_Rg) (T := F_Rg) (N := 6) hx hb hts i_Rg hown hK hP 0 rfl rfl 0 (by decide) (hts _ (big_in mw_50 rfl)) (fun _ h9 => h9) rfl d_Rg_load_38 ?_
  refine lv_aload_n hx hb d_Rg_load_41 rfl (lv_at hl 0 rfl) ?_
  refine va_get (D := D) (ci := 4) (v := .ref af) (C := R_Rg) (T := F_Rg) (N := 6) hx hb hts i_Rg hown hK hP 0 rfl rfl 1 (by decide) (hts _ (big_in mw_51 rfl)) (fun _ h9 => h9) rfl d_Rg_load_42 ?_
  refine lv_iload_n hx hb d_Rg_load_45 rfl (lv_at hl 1 rfl) ?_
  refine zz_iald hx hb hK hP 1 0 rfl rfl (r) (by omega) (by omega) (by omega) d_Rg_load_46 ?_
  rw [i1]
  refine lv_aload_n hx hb d_Rg_load_47 rfl (lv_at hl 0 rfl) ?_
  refine va_get (D := D) (ci := 4) (v := .ref aT) (C := R_Rg) (T := F_Rg) (N := 6) hx hb hts i_Rg hown hK hP 0 rfl rfl 2 (by decide) (hts _ (big_in mw_52 rfl)) (fun _ h9 => h9) rfl d_Rg_load_48 ?_
  refine lv_iload_n hx hb d_Rg_load_51 rfl (lv_at hl 1 rfl) ?_
  refine zz_iald hx hb hK hP 2 0 rfl rfl (r) (by omega) (by omega) (by omega) d_Rg_load_52 ?_
  rw [i2]
  refine zz_iadd hx hb d_Rg_load_53 ?_
  refine lv_aload_n hx hb d_Rg_load_54 rfl (lv_at hl 0 rfl) ?_
  refine va_get (D := D) (ci := 4) (v := .ref aB) (C := R_Rg) (T := F_Rg) (N := 6) hx hb hts i_Rg hown hK hP 0 rfl rfl 3 (by decide) (hts _ (big_in mw_53 rfl)) (fun _ h9 => h9) rfl d_Rg_load_55 ?_
  refine lv_iload_n hx hb d_Rg_load_58 rfl (lv_at hl 1 rfl) ?_
  refine zz_iald hx hb hK hP 3 0 rfl rfl (r) (by omega) (by omega) (by omega) d_Rg_load_59 ?_
  rw [i3]
  rw [show ((F r : Int) + (lm (tv r) : Int) : Int) = ((F r + lm (tv r) : Nat) : Int) by omega]
  rw [show ((lm (bv r) : Int) : Int) = ((lm (bv r) : Nat) : Int) by omega]
  refine cv (n := 3) (wr := [(hg, .inr (4, [.ref ap, .ref af, .ref aT, .ref aB, .ref aS, .int (iZ (tk : Int))])), (af, .inl (cI, 32, .inl ff)), (aT, .inl (cI, 32, .inl ft)), (aB, .inl (cI, 32, .inl fb)), (aS, .inl (cI, 32, .inl fs)), (ra, .inr (1, [.int (iZ (sg r)), .ref h1, .ref h2])), (h1, .inr (0, [.ref a1, .int (iZ ((lm (tv r) : Nat) : Int))])), (a1, .inl (cI, n, .inl gg1))]) (w1 := (fun (u : (Nat → Int32)) => [(h2, .inr (0, [.ref a2, .int (iZ ((lm (bv r) : Nat) : Int))])), (a2, .inl (cI, n, .inl u)), (ap, .inl (cI, np, .inl fp))])) (As := [.ref ap, .int (iZ ((F r + lm (tv r) : Nat) : Int)), .int (iZ ((lm (bv r) : Nat) : Int))]) (rest := []) K hP hD hK hS hA hl.1 (c_Wh_becomePart l D h2 a2 q2 n f2 ap np fp cI (F r + lm (tv r)) (lm (bv r)) H.size (by omega) (by omega) (by omega) (by omega)) [6, 7, 10] [0, 1, 2, 3, 4, 5, 8, 9] [0] rfl rfl rfl (by decide) (by decide) (by decide) 0 rfl rfl (big_in mw_820 rfl) (big_in mw_6 rfl) (big_in mw_817 rfl) (big_in mw_818 rfl) (big_in mw_819 rfl) rfl rfl (by decide +kernel) ⟨by rw [hR]; exact Nat.le_of_ble_eq_true rfl, by rw [hR]; exact Nat.le_of_ble_eq_true rfl⟩ rfl (Nat.le_of_ble_eq_true rfl) d_Rg_load_60 ⟨by rw [hR]; exact Nat.le_of_ble_eq_true rfl, by rw [hR]; exact Nat.le_of_ble_eq_true rfl⟩ rfl (fun v u H locs hp2 hP hD hS _ => ?_)
  obtain ⟨gg2, rfl⟩ : ∃ z, z = u := ⟨_, rfl⟩
  obtain ⟨rfl, p2⟩ := hp2
  have hP : va_P D cls0 [(hg, .inr (4, [.ref ap, .ref af, .ref aT, .ref aB, .ref aS, .int (iZ (tk : Int))])), (af, .inl (cI, 32, .inl ff)), (aT, .inl (cI, 32, .inl ft)), (aB, .inl (cI, 32, .inl fb)), (aS, .inl (cI, 32, .inl fs)), (ra, .inr (1, [.int (iZ (sg r)), .ref h1, .ref h2])), (h1, .inr (0, [.ref a1, .int (iZ ((lm (tv r) : Nat) : Int))])), (a1, .inl (cI, n, .inl gg1)), (h2, .inr (0, [.ref a2, .int (iZ ((lm (bv r) : Nat) : Int))])), (a2, .inl (cI, n, .inl gg2)), (ap, .inl (cI, np, .inl fp))] H := hP
  have hD : va_D A [(hg, .inr (4, [.ref ap, .ref af, .ref aT, .ref aB, .ref aS, .int (iZ (tk : Int))])), (af, .inl (cI, 32, .inl ff)), (aT, .inl (cI, 32, .inl ft)), (aB, .inl (cI, 32, .inl fb)), (aS, .inl (cI, 32, .inl fs)), (ra, .inr (1, [.int (iZ (sg r)), .ref h1, .ref h2])), (h1, .inr (0, [.ref a1, .int (iZ ((lm (tv r) : Nat) : Int))])), (a1, .inl (cI, n, .inl gg1)), (h2, .inr (0, [.ref a2, .int (iZ ((lm (bv r) : Nat) : Int))])), (a2, .inl (cI, n, .inl gg2)), (ap, .inl (cI, np, .inl fp))] := hD
  show W p l e R s m args below meth c H locs _ _ Q (F0 m 63 ls [])
  rw [show (((lm (tv r) : Nat) : Int) : Int) = (lm (tv r) : Int) by omega] at hP hD
  rw [show (((lm (bv r) : Nat) : Int) : Int) = (lm (bv r) : Int) by omega] at hP hD
  have hP9 : va_P D cls0 [(hg, .inr (4, [.ref ap, .ref af, .ref aT, .ref aB, .ref aS, .int (iZ (tk : Int))])), (ap, .inl (cI, np, .inl fp)), (af, .inl (cI, 32, .inl ff)), (aT, .inl (cI, 32, .inl ft)), (aB, .inl (cI, 32, .inl fb)), (aS, .inl (cI, 32, .inl fs)), (ra, .inr (1, [.int (iZ (sg r)), .ref h1, .ref h2])), (h1, .inr (0, [.ref a1, .int (iZ (lm (tv r) : Int))])), (a1, .inl (cI, n, .inl gg1)), (h2, .inr (0, [.ref a2, .int (iZ (lm (bv r) : Int))])), (a2, .inl (cI, n, .inl gg2))] H := hP.sub [0, 10, 1, 2, 3, 4, 5, 6, 7, 8, 9] rfl
  have hD9 : va_D A [(hg, .inr (4, [.ref ap, .ref af, .ref aT, .ref aB, .ref aS, .int (iZ (tk : Int))])), (ap, .inl (cI, np, .inl fp)), (af, .inl (cI, 32, .inl ff)), (aT, .inl (cI, 32, .inl ft)), (aB, .inl (cI, 32, .inl fb)), (aS, .inl (cI, 32, .inl fs)), (ra, .inr (1, [.int (iZ (sg r)), .ref h1, .ref h2])), (h1, .inr (0, [.ref a1, .int (iZ (lm (tv r) : Int))])), (a1, .inl (cI, n, .inl gg1)), (h2, .inr (0, [.ref a2, .int (iZ (lm (bv r) : Int))])), (a2, .inl (cI, n, .inl gg2))] := hD.sub [0, 10, 1, 2, 3, 4, 5, 6, 7, 8, 9] (by decide) rfl
  rw [hQ, ← hAe]
  refine r_v K (lm (tv r), gg1, lm (bv r), gg2) hS d_Rg_load_63 ?_ (fun t ht hv => ?_)
  · try dsimp only
    exact ⟨rfl, i5.congr p1, i6.congr p2⟩
  · exact ⟨by rw [ht]; exact hP9, va_K.moved hv hK, by rw [← hAe]; exact hD9⟩
set_option maxHeartbeats 4000000 in
set_option maxRecDepth 100000 in
/-- exchangeIn(row, a, b) -/
theorem c_Rg_exchangeIn (l : Launch) (D : va_G) (a : Nat) (n : Nat) (f : Nat → Int32) (cI : ClassId) (i : Nat) (j : Nat) (sz : Nat) (hi : i < n) (hj : j < n) (hn : n < 1000000) : Met l y_Rg_exchangeIn (wsB y_Rg_exchangeIn b_Rg_exchangeIn 4 none) ({ frames := 0, cells := 0, slots := 0, locals := 0 }) (va_Pc [.ref a, .int (iZ (i : Int)), .int (iZ (j : Int))] (wPre D [(cI, .int)] [(a, .inl (cI, n, .inl f))] sz)) (va_QV (fun (v_9 : Option Value) (u_9 : Unit) => v_9 = none) (fun u_9 => wPost D [(cI, .int)] [(a, .inl (cI, n, .inl f))] [(a, .inl (cI, n, .inl (sw f i j)))] sz) (va_A [(a, .inl (cI, n, .inl f))] sz)) 0 0 (va_A [(a, .inl (cI, n, .inl f))] sz) := by
  refine met_enter (by decide +kernel) (Nat.le_of_ble_eq_true rfl) ?_
  intro p e s m args below meth c ls A R Q H locs K hin hAe hA hR hQ hP hK hD hS hl
  obtain ⟨hx, hb, hml, hrt, hlk, hts, hown, hno⟩ := id K
  have hl : lv_has ls 4 [(0, .ref a), (1, .int (iZ (i : Int))), (2, .int (iZ (j : Int)))] := hl
  refine lv_aload_n hx hb d_Rg_exchangeIn_0 rfl (lv_at hl 0 rfl) ?_
  refine lv_iload_n hx hb d_Rg_exchangeIn_1 rfl (lv_at hl 1 rfl) ?_
  refine zz_iald hx hb hK hP 0 0 rfl rfl (i) (by omega) (by omega) (by omega) d_Rg_exchangeIn_2 ?_
  refine lv_istore_n (lv' := [(3, .int (f i)), (0, .ref a), (1, .int (iZ (i : Int))), (2, .int (iZ (j : Int)))]) hx hb d_Rg_exchangeIn_3 rfl hl (by decide) rfl (fun ls hl => ?_)
  refine lv_aload_n hx hb d_Rg_exchangeIn_4 rfl (lv_at hl 1 rfl) ?_
  refine lv_iload_n hx hb d_Rg_exchangeIn_5 rfl (lv_at hl 2 rfl) ?_
  refine lv_aload_n hx hb d_Rg_exchangeIn_6 rfl (lv_at hl 1 rfl) ?_
  refine lv_iload_n hx hb d_Rg_exchangeIn_7 rfl (lv_at hl 3 rfl) ?_
  refine zz_iald hx hb hK hP 0 0 rfl rfl (j) (by omega) (by omega) (by omega) d_Rg_exchangeIn_8 ?_
  refine zz_iast hx hb hK hP hD hS 0 0 rfl rfl (i) (by omega) (by omega) (by omega) d_Rg_exchangeIn_9 (fun H locs hP hD hS => ?_)
  have hP : va_P D cls0 [(a, .inl (cI, n, .inl (upd f i (f j))))] H := hP
  have hD : va_D A [(a, .inl (cI, n, .inl (upd f i (f j))))] := hD
  refine lv_aload_n hx hb d_Rg_exchangeIn_10 rfl (lv_at hl 1 rfl) ?_
  refine lv_iload_n hx hb d_Rg_exchangeIn_11 rfl (lv_at hl 3 rfl) ?_
  refine lv_iload_n hx hb d_Rg_exchangeIn_12 rfl (lv_at hl 0 rfl) ?_
  refine zz_iast hx hb hK hP hD hS 0 0 rfl rfl (j) (by omega) (by omega) (by omega) d_Rg_exchangeIn_13 (fun H locs hP hD hS => ?_)
  have hP : va_P D cls0 [(a, .inl (cI, n, .inl (upd (upd f i (f j)) j (f i))))] H := hP
  have hD : va_D A [(a, .inl (cI, n, .inl (upd (upd f i (f j)) j (f i))))] := hD
  rw [upd_sw] at hP hD
  have hP9 : va_P D cls0 [(a, .inl (cI, n, .inl (sw f i j)))] H := hP.sub [0] rfl
  have hD9 : va_D A [(a, .inl (cI, n, .inl (sw f i j)))] := hD.sub [0] (by decide) rfl
  rw [hQ, ← hAe]
  refine r_v K () hS d_Rg_exchangeIn_14 ?_ (fun t ht hv => ?_)
  · exact rfl
  · exact ⟨by rw [ht]; exact hP9, va_K.moved hv hK, by rw [← hAe]; exact hD9⟩
set_option maxHeartbeats 4000000 in
set_option maxRecDepth 100000 in
/-- exchange(a, b) -/
theorem c_Rg_exchange (l : Launch) (D : va_G) (hg : Nat) (ap : Nat) (af : Nat) (aT : Nat) (aB : Nat) (aS : Nat) (np : Nat) (fp : Nat → Int32) (ff : Nat → Int32) (ft : Nat → Int32) (fb : Nat → Int32) (fs : Nat → Int32) (tk : Nat) (cI : ClassId) (F : Nat → Nat) (tv : Nat → Nat) (bv : Nat → Nat) (sg : Nat → Int) (i : Nat) (j : Nat) (sz : Nat) (I : RgI fp ff ft fb fs tk np F tv bv sg) (hi : i < 32) (hj : j < 32) : Met l y_Rg_exchange (wsB y_Rg_exchange b_Rg_exchange 3 none) ({ frames := 1, cells := 0, slots := 0, locals := 23 }) (va_Pc [.ref hg, .int (iZ (i : Int)), .int (iZ (j : Int))] (wPre D [(cI, .int)] [(hg, .inr (4, [.ref ap, .ref af, .ref aT, .ref aB, .ref aS, .int (iZ (tk : Int))])), (ap, .inl (cI, np, .inl fp)), (af, .inl (cI, 32, .inl ff)), (aT, .inl (cI, 32, .inl ft)), (aB, .inl (cI, 32, .inl fb)), (aS, .inl (cI, 32, .inl fs))] sz)) (va_QV (fun (v_9 : Option Value) (u_9 : Unit) => v_9 = none ∧ (RgI fp (sw ff i j) (sw ft i j) (sw fb i j) (sw fs i j) tk np (sw F i j) (sw tv i j) (sw bv i j) (sw sg i j))) (fun u_9 => wPost D [(cI, .int)] [(hg, .inr (4, [.ref ap, .ref af, .ref aT, .ref aB, .ref aS, .int (iZ (tk : Int))])), (ap, .inl (cI, np, .inl fp)), (af, .inl (cI, 32, .inl ff)), (aT, .inl (cI, 32, .inl ft)), (aB, .inl (cI, 32, .inl fb)), (aS, .inl (cI, 32, .inl fs))] [(hg, .inr (4, [.ref ap, .ref af, .ref aT, .ref aB, .ref aS, .int (iZ (tk : Int))])), (ap, .inl (cI, np, .inl fp)), (af, .inl (cI, 32, .inl (sw ff i j))), (aT, .inl (cI, 32, .inl (sw ft i j))), (aB, .inl (cI, 32, .inl (sw fb i j))), (aS, .inl (cI, 32, .inl (sw fs i j)))] sz) (va_A [(hg, .inr (4, [.ref ap, .ref af, .ref aT, .ref aB, .ref aS, .int (iZ (tk : Int))])), (ap, .inl (cI, np, .inl fp)), (af, .inl (cI, 32, .inl ff)), (aT, .inl (cI, 32, .inl ft)), (aB, .inl (cI, 32, .inl fb)), (aS, .inl (cI, 32, .inl fs))] sz)) 0 0 (va_A [(hg, .inr (4, [.ref ap, .ref af, .ref aT, .ref aB, .ref aS, .int (iZ (tk : Int))])), (ap, .inl (cI, np, .inl fp)), (af, .inl (cI, 32, .inl ff)), (aT, .inl (cI, 32, .inl ft)), (aB, .inl (cI, 32, .inl fb)), (aS, .inl (cI, 32, .inl fs))] sz) := by
  refine met_enter (by decide +kernel) (Nat.le_of_ble_eq_true rfl) ?_
  intro p e s m args below meth c ls A R Q H locs K hin hAe hA hR hQ hP hK hD hS hl
  obtain ⟨hx, hb, hml, hrt, hlk, hts, hown, hno⟩ := id K
  have hl : lv_has ls 3 [(0, .ref hg), (1, .int (iZ (i : Int))), (2, .int (iZ (j : Int)))] := hl
  refine lv_aload_n hx hb d_Rg_exchange_0 rfl (lv_at hl 0 rfl) ?_
  refine va_get (D := D) (ci := 4) (v := .ref af) (C := R_Rg) (T := F_Rg) (N := 6) hx hb hts i_Rg hown hK hP 0 rfl rfl 1 (by decide) (hts _ (big_in mw_51 rfl)) (fun _ h9 => h9) rfl d_Rg_exchange_1 ?_
  refine lv_iload_n hx hb d_Rg_exchange_4 rfl (lv_at hl 1 rfl) ?_
  refine lv_iload_n hx hb d_Rg_exchange_5 rfl (lv_at hl 2 rfl) ?_
  refine cs (n := 3) (wr := [(hg, .inr (4, [.ref ap, .ref af, .ref aT, .ref aB, .ref aS, .int (iZ (tk : Int))])), (ap, .inl (cI, np, .inl fp)), (aT, .inl (cI, 32, .inl ft)), (aB, .inl (cI, 32, .inl fb)), (aS, .inl (cI, 32, .inl fs))]) (w1 := (fun (u : Unit) => [(af, .inl (cI, 32, .inl (sw ff i j)))])) (As := [.ref af, .int (iZ (i : Int)), .int (iZ (j : Int))]) (rest := []) K hP hD hK hS hA hl.1 (c_Rg_exchangeIn l D af 32 ff cI i j H.size (by omega) (by omega) (by omega)) [2] [0, 1, 3, 4, 5] [0] rfl rfl rfl (by decide) (by decide) (by decide) (big_in mw_834 rfl) (big_in mw_2 rfl) (big_in mw_832 rfl) (big_in mw_833 rfl) rfl rfl (by decide +kernel) ⟨by rw [hR]; exact Nat.le_of_ble_eq_true rfl, by rw [hR]; exact Nat.le_of_ble_eq_true rfl⟩ rfl (Nat.le_of_ble_eq_true rfl) d_Rg_exchange_6 ⟨by rw [hR]; exact Nat.le_of_ble_eq_true rfl, by rw [hR]; exact Nat.le_of_ble_eq_true rfl⟩ rfl (fun v u H locs hp1 hP hD hS _ => ?_)
  obtain rfl := hp1
  have hP : va_P D cls0 [(hg, .inr (4, [.ref ap, .ref af, .ref aT, .ref aB, .ref aS, .int (iZ (tk : Int))])), (ap, .inl (cI, np, .inl fp)), (aT, .inl (cI, 32, .inl ft)), (aB, .inl (cI, 32, .inl fb)), (aS, .inl (cI, 32, .inl fs)), (af, .inl (cI, 32, .inl (sw ff i j)))] H := hP
  have hD : va_D A [(hg, .inr (4, [.ref ap, .ref af, .ref aT, .ref aB, .ref aS, .int (iZ (tk : Int))])), (ap, .inl (cI, np, .inl fp)), (aT, .inl (cI, 32, .inl ft)), (aB, .inl (cI, 32, .inl fb)), (aS, .inl (cI, 32, .inl fs)), (af, .inl (cI, 32, .inl (sw ff i j)))] := hD
  show W p l e R s m args below meth c H locs _ _ Q (F0 m 9 ls [])
  refine lv_aload_n hx hb d_Rg_exchange_9 rfl (lv_at hl 0 rfl) ?_
  refine va_get (D := D) (ci := 4) (v := .ref aT) (C := R_Rg) (T := F_Rg) (N := 6) hx hb hts i_Rg hown hK hP 0 rfl rfl 2 (by decide) (hts _ (big_in mw_52 rfl)) (fun _ h9 => h9) rfl d_Rg_exchange_10 ?_
  refine lv_iload_n hx hb d_Rg_exchange_13 rfl (lv_at hl 1 rfl) ?_
  refine lv_iload_n hx hb d_Rg_exchange_14 rfl (lv_at hl 2 rfl) ?_
  refine cs (n := 3) (wr := [(hg, .inr (4, [.ref ap, .ref af, .ref aT, .ref aB, .ref aS, .int (iZ (tk : Int))])), (ap, .inl (cI, np, .inl fp)), (aB, .inl (cI, 32, .inl fb)), (aS, .inl (cI, 32, .inl fs)), (af, .inl (cI, 32, .inl (sw ff i j)))]) (w1 := (fun (u : Unit) => [(aT, .inl (cI, 32, .inl (sw ft i j)))])) (As := [.ref aT, .int (iZ (i : Int)), .int (iZ (j : Int))]) (rest := []) K hP hD hK hS hA hl.1 (c_Rg_exchangeIn l D aT 32 ft cI i j H.size (by omega) (by omega) (by omega)) [2] [0, 1, 3, 4, 5] [0] rfl rfl rfl (by decide) (by decide) (by decide) (big_in mw_834 rfl) (big_in mw_2 rfl) (big_in mw_832 rfl) (big_in mw_833 rfl) rfl rfl (by decide +kernel) ⟨by rw [hR]; exact Nat.le_of_ble_eq_true rfl, by rw [hR]; exact Nat.le_of_ble_eq_true rfl⟩ rfl (Nat.le_of_ble_eq_true rfl) d_Rg_exchange_15 ⟨by rw [hR]; exact Nat.le_of_ble_eq_true rfl, by rw [hR]; exact Nat.le_of_ble_eq_true rfl⟩ rfl (fun v u H locs hp2 hP hD hS _ => ?_)
  obtain rfl := hp2
  have hP : va_P D cls0 [(hg, .inr (4, [.ref ap, .ref af, .ref aT, .ref aB, .ref aS, .int (iZ (tk : Int))])), (ap, .inl (cI, np, .inl fp)), (aB, .inl (cI, 32, .inl fb)), (aS, .inl (cI, 32, .inl fs)), (af, .inl (cI, 32, .inl (sw ff i j))), (aT, .inl (cI, 32, .inl (sw ft i j)))] H := hP
  have hD : va_D A [(hg, .inr (4, [.ref ap, .ref af, .ref aT, .ref aB, .ref aS, .int (iZ (tk : Int))])), (ap, .inl (cI, np, .inl fp)), (aB, .inl (cI, 32, .inl fb)), (aS, .inl (cI, 32, .inl fs)), (af, .inl (cI, 32, .inl (sw ff i j))), (aT, .inl (cI, 32, .inl (sw ft i j)))] := hD
  show W p l e R s m args below meth c H locs _ _ Q (F0 m 18 ls [])
  refine lv_aload_n hx hb d_Rg_exchange_18 rfl (lv_at hl 0 rfl) ?_
  refine va_get (D := D) (ci := 4) (v := .ref aB) (C := R_Rg) (T := F_Rg) (N := 6) hx hb hts i_Rg hown hK hP 0 rfl rfl 3 (by decide) (hts _ (big_in mw_53 rfl)) (fun _ h9 => h9) rfl d_Rg_exchange_19 ?_
  refine lv_iload_n hx hb d_Rg_exchange_22 rfl (lv_at hl 1 rfl) ?_
  refine lv_iload_n hx hb d_Rg_exchange_23 rfl (lv_at hl 2 rfl) ?_
  refine cs (n := 3) (wr := [(hg, .inr (4, [.ref ap, .ref af, .ref aT, .ref aB, .ref aS, .int (iZ (tk : Int))])), (ap, .inl (cI, np, .inl fp)), (aS, .inl (cI, 32, .inl fs)), (af, .inl (cI, 32, .inl (sw ff i j))), (aT, .inl (cI, 32, .inl (sw ft i j)))]) (w1 := (fun (u : Unit) => [(aB, .inl (cI, 32, .inl (sw fb i j)))])) (As := [.ref aB, .int (iZ (i : Int)), .int (iZ (j : Int))]) (rest := []) K hP hD hK hS hA hl.1 (c_Rg_exchangeIn l D aB 32 fb cI i j H.size (by omega) (by omega) (by omega)) [2] [0, 1, 3, 4, 5] [0] rfl rfl rfl (by decide) (by decide) (by decide) (big_in mw_834 rfl) (big_in mw_2 rfl) (big_in mw_832 rfl) (big_in mw_833 rfl) rfl rfl (by decide +kernel) ⟨by rw [hR]; exact Nat.le_of_ble_eq_true rfl, by rw [hR]; exact Nat.le_of_ble_eq_true rfl⟩ rfl (Nat.le_of_ble_eq_true rfl) d_Rg_exchange_24 ⟨by rw [hR]; exact Nat.le_of_ble_eq_true rfl, by rw [hR]; exact Nat.le_of_ble_eq_true rfl⟩ rfl (fun v u H locs hp3 hP hD hS _ => ?_)
  obtain rfl := hp3
  have hP : va_P D cls0 [(hg, .inr (4, [.ref ap, .ref af, .ref aT, .ref aB, .ref aS, .int (iZ (tk : Int))])), (ap, .inl (cI, np, .inl fp)), (aS, .inl (cI, 32, .inl fs)), (af, .inl (cI, 32, .inl (sw ff i j))), (aT, .inl (cI, 32, .inl (sw ft i j))), (aB, .inl (cI, 32, .inl (sw fb i j)))] H := hP
  have hD : va_D A [(hg, .inr (4, [.ref ap, .ref af, .ref aT, .ref aB, .ref aS, .int (iZ (tk : Int))])), (ap, .inl (cI, np, .inl fp)), (aS, .inl (cI, 32, .inl fs)), (af, .inl (cI, 32, .inl (sw ff i j))), (aT, .inl (cI, 32, .inl (sw ft i j))), (aB, .inl (cI, 32, .inl (sw fb i j)))] := hD
  show W p l e R s m args below meth c H locs _ _ Q (F0 m 27 ls [])
  refine lv_aload_n hx hb d_Rg_exchange_27 rfl (lv_at hl 0 rfl) ?_
  refine va_get (D := D) (ci := 4) (v := .ref aS) (C := R_Rg) (T := F_Rg) (N := 6) hx hb hts i_Rg hown hK hP 0 rfl rfl 4 (by decide) (hts _ (big_in mw_54 rfl)) (fun _ h9 => h9) rfl d_Rg_exchange_28 ?_
  refine lv_iload_n hx hb d_Rg_exchange_31 rfl (lv_at hl 1 rfl) ?_
  refine lv_iload_n hx hb d_Rg_exchange_32 rfl (lv_at hl 2 rfl) ?_
  refine cs (n := 3) (wr := [(hg, .inr (4, [.ref ap, .ref af, .ref aT, .ref aB, .ref aS, .int (iZ (tk : Int))])), (ap, .inl (cI, np, .inl fp)), (af, .inl (cI, 32, .inl (sw ff i j))), (aT, .inl (cI, 32, .inl (sw ft i j))), (aB, .inl (cI, 32, .inl (sw fb i j)))]) (w1 := (fun (u : Unit) => [(aS, .inl (cI, 32, .inl (sw fs i j)))])) (As := [.ref aS, .int (iZ (i : Int)), .int (iZ (j : Int))]) (rest := []) K hP hD hK hS hA hl.1 (c_Rg_exchangeIn l D aS 32 fs cI i j H.size (by omega) (by omega) (by omega)) [2] [0, 1, 3, 4, 5] [0] rfl rfl rfl (by decide) (by decide) (by decide) (big_in mw_834 rfl) (big_in mw_2 rfl) (big_in mw_832 rfl) (big_in mw_833 rfl) rfl rfl (by decide +kernel) ⟨by rw [hR]; exact Nat.le_of_ble_eq_true rfl, by rw [hR]; exact Nat.le_of_ble_eq_true rfl⟩ rfl (Nat.le_of_ble_eq_true rfl) d_Rg_exchange_33 ⟨by rw [hR]; exact Nat.le_of_ble_eq_true rfl, by rw [hR]; exact Nat.le_of_ble_eq_true rfl⟩ rfl (fun v u H locs hp4 hP hD hS _ => ?_)
  obtain rfl := hp4
  have hP : va_P D cls0 [(hg, .inr (4, [.ref ap, .ref af, .ref aT, .ref aB, .ref aS, .int (iZ (tk : Int))])), (ap, .inl (cI, np, .inl fp)), (af, .inl (cI, 32, .inl (sw ff i j))), (aT, .inl (cI, 32, .inl (sw ft i j))), (aB, .inl (cI, 32, .inl (sw fb i j))), (aS, .inl (cI, 32, .inl (sw fs i j)))] H := hP
  have hD : va_D A [(hg, .inr (4, [.ref ap, .ref af, .ref aT, .ref aB, .ref aS, .int (iZ (tk : Int))])), (ap, .inl (cI, np, .inl fp)), (af, .inl (cI, 32, .inl (sw ff i j))), (aT, .inl (cI, 32, .inl (sw ft i j))), (aB, .inl (cI, 32, .inl (sw fb i j))), (aS, .inl (cI, 32, .inl (sw fs i j)))] := hD
  show W p l e R s m args below meth c H locs _ _ Q (F0 m 36 ls [])
  have hP9 : va_P D cls0 [(hg, .inr (4, [.ref ap, .ref af, .ref aT, .ref aB, .ref aS, .int (iZ (tk : Int))])), (ap, .inl (cI, np, .inl fp)), (af, .inl (cI, 32, .inl (sw ff i j))), (aT, .inl (cI, 32, .inl (sw ft i j))), (aB, .inl (cI, 32, .inl (sw fb i j))), (aS, .inl (cI, 32, .inl (sw fs i j)))] H := hP.sub [0, 1, 2, 3, 4, 5] rfl
  have hD9 : va_D A [(hg, .inr (4, [.ref ap, .ref af, .ref aT, .ref aB, .ref aS, .int (iZ (tk : Int))])), (ap, .inl (cI, np, .inl fp)), (af, .inl (cI, 32, .inl (sw ff i j))), (aT, .inl (cI, 32, .inl (sw ft i j))), (aB, .inl (cI, 32, .inl (sw fb i j))), (aS, .inl (cI, 32, .inl (sw fs i j)))] := hD.sub [0, 1, 2, 3, 4, 5] (by decide) rfl
  rw [hQ, ← hAe]
  refine r_v K () hS d_Rg_exchange_36 ?_ (fun t ht hv => ?_)
  · exact ⟨rfl, I.swap hi hj⟩
  · exact ⟨by rw [ht]; exact hP9, va_K.moved hv hK, by rw [← hAe]; exact hD9⟩
set_option maxHeartbeats 4000000 in
set_option maxRecDepth 100000 in
/-- takeOut(r) -/
theorem c_Rg_takeOut (l : Launch) (D : va_G) (hg : Nat) (ap : Nat) (af : Nat) (aT : Nat) (aB : Nat) (aS : Nat) (np : Nat) (fp : Nat → Int32) (ff : Nat → Int32) (ft : Nat → Int32) (fb : Nat → Int32) (fs : Nat → Int32) (tk : Nat) (cI : ClassId) (F : Nat → Nat) (tv : Nat → Nat) (bv : Nat → Nat) (sg : Nat → Int) (r : Nat) (sz : Nat) (I : RgI fp ff ft fb fs tk np F tv bv sg) (hr : r < 32) (hnp : np ≤ 1024) : Met l y_Rg_takeOut (wsB y_Rg_takeOut b_Rg_takeOut 5 none) ({ frames := 1, cells := 0, slots := 0, locals := 100 }) (va_Pc [.ref hg, .int (iZ (r : Int))] (wPre D [(cI, .int)] [(hg, .inr (4, [.ref ap, .ref af, .ref aT, .ref aB, .ref aS, .int (iZ (tk : Int))])), (ap, .inl (cI, np, .inl fp)), (af, .inl (cI, 32, .inl ff)), (aT, .inl (cI, 32, .inl ft)), (aB, .inl (cI, 32, .inl fb)), (aS, .inl (cI, 32, .inl fs))] sz)) (va_QV (fun (v_9 : Option Value) (u_9 : Nat × (Nat → Int32)) => v_9 = none ∧ (u_9.1 + (lm (tv r) + lm (bv r)) = tk) ∧ (∀ q, q < 32 → u_9.2 q = iZ ((if F r + (lm (tv r) + lm (bv r)) ≤ F q then F q - (lm (tv r) + lm (bv r)) else F q : Nat) : Int))) (fun u_9 => wPost D [(cI, .int)] [(hg, .inr (4, [.ref ap, .ref af, .ref aT, .ref aB, .ref aS, .int (iZ (tk : Int))])), (ap, .inl (cI, np, .inl fp)), (af, .inl (cI, 32, .inl ff)), (aT, .inl (cI, 32, .inl ft)), (aB, .inl (cI, 32, .inl fb)), (aS, .inl (cI, 32, .inl fs))] [(hg, .inr (4, [.ref ap, .ref af, .ref aT, .ref aB, .ref aS, .int (iZ (u_9.1 : Int))])), (ap, .inl (cI, np, .inl (va_cpy fp fp (F r + (lm (tv r) + lm (bv r))) (F r) (tk - (F r + (lm (tv r) + lm (bv r))))))), (af, .inl (cI, 32, .inl u_9.2)), (aT, .inl (cI, 32, .inl ft)), (aB, .inl (cI, 32, .inl fb)), (aS, .inl (cI, 32, .inl fs))] sz) (va_A [(hg, .inr (4, [.ref ap, .ref af, .ref aT, .ref aB, .ref aS, .int (iZ (tk : Int))])), (ap, .inl (cI, np, .inl fp)), (af, .inl (cI, 32, .inl ff)), (aT, .inl (cI, 32, .inl ft)), (aB, .inl (cI, 32, .inl fb)), (aS, .inl (cI, 32, .inl fs))] sz)) 0 0 (va_A [(hg, .inr (4, [.ref ap, .ref af, .ref aT, .ref aB, .ref aS, .int (iZ (tk : Int))])), (ap, .inl (cI, np, .inl fp)), (af, .inl (cI, 32, .inl ff)), (aT, .inl (cI, 32, .inl ft)), (aB, .inl (cI, 32, .inl fb)), (aS, .inl (cI, 32, .inl fs))] sz) := by
  refine met_enter (by decide +kernel) (Nat.le_of_ble_eq_true rfl) ?_
  intro p e s m args below meth c ls A R Q H locs K hin hAe hA hR hQ hP hK hD hS hl
  obtain ⟨hx, hb, hml, hrt, hlk, hts, hown, hno⟩ := id K
  have hl : lv_has ls 5 [(0, .ref hg), (1, .int (iZ (r : Int)))] := hl
  obtain ⟨i1, i2, i3, i4, i5, i6, i7, i8⟩ := I.at hr
  have i9 := I.2.2.1
  refine lv_aload_n hx hb d_Rg_takeOut_0 rfl (lv_at hl 0 rfl) ?_
  refine lv_iload_n hx hb d_Rg_takeOut_1 rfl (lv_at hl 1 rfl) ?_
  refine cv (n := 1) (wr := []) (w1 := (fun (u : Unit) => [(hg, .inr (4, [.ref ap, .ref af, .ref aT, .ref aB, .ref aS, .int (iZ (tk : Int))])), (ap, .inl (cI, np, .inl fp)), (af, .inl (cI, 32, .inl ff)), (aT, .inl (cI, 32, .inl ft)), (aB, .inl (cI, 32, .inl fb)), (aS, .inl (cI, 32, .inl fs))])) (As := [.int (iZ (r : Int))]) (rest := []) K hP hD hK hS hA hl.1 (c_Rg_needOf l D hg ap af aT aB aS np fp ff ft fb fs tk cI F tv bv sg r H.size I hr hnp) [0, 1, 2, 3, 4, 5] [] [0] rfl rfl rfl (by decide) (by decide) (by decide) 0 rfl rfl (big_in mw_797 rfl) (big_in mw_2 rfl) (big_in mw_794 rfl) (big_in mw_795 rfl) (big_in mw_796 rfl) rfl rfl (by decide +kernel) ⟨by rw [hR]; exact Nat.le_of_ble_eq_true rfl, by rw [hR]; exact Nat.le_of_ble_eq_true rfl⟩ rfl (Nat.le_of_ble_eq_true rfl) d_Rg_takeOut_2 ⟨by rw [hR]; exact Nat.le_of_ble_eq_true rfl, by rw [hR]; exact Nat.le_of_ble_eq_true rfl⟩ rfl (fun v u H locs hp1 hP hD hS _ => ?_)
  obtain rfl := hp1
  have hP : va_P D cls0 [(hg, .inr (4, [.ref ap, .ref af, .ref aT, .ref aB, .ref aS, .int (iZ (tk : Int))])), (ap, .inl (cI, np, .inl fp)), (af, .inl (cI, 32, .inl ff)), (aT, .inl (cI, 32, .inl ft)), (aB, .inl (cI, 32, .inl fb)), (aS, .inl (cI, 32, .inl fs))] H := hP
  have hD : va_D A [(hg, .inr (4, [.ref ap, .ref af, .ref aT, .ref aB, .ref aS, .int (iZ (tk : Int))])), (ap, .inl (cI, np, .inl fp)), (af, .inl (cI, 32, .inl ff)), (aT, .inl (cI, 32, .inl ft)), (aB, .inl (cI, 32, .inl fb)), (aS, .inl (cI, 32, .inl fs))] := hD
  show W p l e R s m args below meth c H locs _ _ Q (F0 m 5 ls [.int (iZ ((lm (tv r) : Int) + (lm (bv r) : Int)))])
  refine lv_istore_n (lv' := [(2, .int (iZ ((lm (tv r) : Int) + (lm (bv r) : Int)))), (0, .ref hg), (1, .int (iZ (r : Int)))]) hx hb d_Rg_takeOut_5 rfl hl (by decide) rfl (fun ls hl => ?_)
  refine lv_aload_n hx hb d_Rg_takeOut_6 rfl (lv_at hl 1 rfl) ?_
  refine va_get (D := D) (ci := 4) (v := .ref af) (C := R_Rg) (T := F_Rg) (N := 6) hx hb hts i_Rg hown hK hP 0 rfl rfl 1 (by decide) (hts _ (big_in mw_51 rfl)) (fun _ h9 => h9) rfl d_Rg_takeOut_7 ?_
  refine lv_iload_n hx hb d_Rg_takeOut_10 rfl (lv_at hl 2 rfl) ?_
  refine zz_iald hx hb hK hP 2 0 rfl rfl (r) (by omega) (by omega) (by omega) d_Rg_takeOut_11 ?_
  rw [i1]
  refine lv_iload_n hx hb d_Rg_takeOut_12 rfl (lv_at hl 0 rfl) ?_
  refine zz_iadd hx hb d_Rg_takeOut_13 ?_
  refine lv_istore_n (lv' := [(3, .int (iZ ((F r : Int) + ((lm (tv r) : Int) + (lm (bv r) : Int))))), (2, .int (iZ ((lm (tv r) : Int) + (lm (bv r) : Int)))), (0, .ref hg), (1, .int (iZ (r : Int)))]) hx hb d_Rg_takeOut_14 rfl hl (by decide) rfl (fun ls hl => ?_)
  refine lv_aload_n hx hb d_Rg_takeOut_15 rfl (lv_at hl 2 rfl) ?_
  refine va_get (D := D) (ci := 4) (v := .ref ap) (C := R_Rg) (T := F_Rg) (N := 6) hx hb hts i_Rg hown hK hP 0 rfl rfl 0 (by decide) (hts _ (big_in mw_50 rfl)) (fun _ h9 => h9) rfl d_Rg_takeOut_16 ?_
  refine lv_iload_n hx hb d_Rg_takeOut_19 rfl (lv_at hl 0 rfl) ?_
  refine lv_aload_n hx hb d_Rg_takeOut_20 rfl (lv_at hl 2 rfl) ?_
  refine va_get (D := D) (ci := 4) (v := .ref ap) (C := R_Rg) (T := F_Rg) (N := 6) hx hb hts i_Rg hown hK hP 0 rfl rfl 0 (by decide) (hts _ (big_in mw_50 rfl)) (fun _ h9 => h9) rfl d_Rg_takeOut_21 ?_
  refine lv_aload_n hx hb d_Rg_takeOut_24 rfl (lv_at hl 2 rfl) ?_
  refine va_get (D := D) (ci := 4) (v := .ref af) (C := R_Rg) (T := F_Rg) (N := 6) hx hb hts i_Rg hown hK hP 0 rfl rfl 1 (by decide) (hts _ (big_in mw_51 rfl)) (fun _ h9 => h9) rfl d_Rg_takeOut_25 ?_
  refine lv_iload_n hx hb d_Rg_takeOut_28 rfl (lv_at hl 3 rfl) ?_
  refine zz_iald hx hb hK hP 2 0 rfl rfl (r) (by omega) (by omega) (by omega) d_Rg_takeOut_29 ?_
  rw [i1]
  refine lv_aload_n hx hb d_Rg_takeOut_30 rfl (lv_at hl 2 rfl) ?_
  refine va_get (D := D) (ci := 4) (v := .int (iZ (tk : Int))) (C := R_Rg) (T := F_Rg) (N := 6) hx hb hts i_Rg hown hK hP 0 rfl rfl 5 (by decide) (hts _ (big_in mw_55 rfl)) (fun _ h9 => h9) rfl d_Rg_takeOut_31 ?_
  refine lv_iload_n hx hb d_Rg_takeOut_34 rfl (lv_at hl 0 rfl) ?_
  refine zz_isub hx hb d_Rg_takeOut_35 ?_
  refine zz_copyi hx hb (hml.trans hl.1.symm) hown (hts _ (big_in mw_805 rfl)) (hts _ (big_in mw_425 rfl)) (hts _ (big_in mw_424 rfl)) (hts _ (big_in mw_17 rfl)) hK hP hD hS 1 1 0 0 rfl rfl rfl rfl rfl (F r + (lm (tv r) + lm (bv r))) (F r) (tk - (F r + (lm (tv r) + lm (bv r)))) (by omega) (by omega) (by omega) (by omega) (by omega) (by omega) (by omega) (fun _ _ => rfl) (by rw [hR]; exact Nat.le_of_ble_eq_true rfl) (by rw [hR]; decide +kernel) d_Rg_takeOut_36 (fun H locs hP hD hS => ?_)
  have hP : va_P D cls0 [(hg, .inr (4, [.ref ap, .ref af, .ref aT, .ref aB, .ref aS, .int (iZ (tk : Int))])), (ap, .inl (cI, np, .inl (va_cpy fp fp (F r + (lm (tv r) + lm (bv r))) (F r) (tk - (F r + (lm (tv r) + lm (bv r))))))), (af, .inl (cI, 32, .inl ff)), (aT, .inl (cI, 32, .inl ft)), (aB, .inl (cI, 32, .inl fb)), (aS, .inl (cI, 32, .inl fs))] H := hP
  have hD : va_D A [(hg, .inr (4, [.ref ap, .ref af, .ref aT, .ref aB, .ref aS, .int (iZ (tk : Int))])), (ap, .inl (cI, np, .inl (va_cpy fp fp (F r + (lm (tv r) + lm (bv r))) (F r) (tk - (F r + (lm (tv r) + lm (bv r))))))), (af, .inl (cI, 32, .inl ff)), (aT, .inl (cI, 32, .inl ft)), (aB, .inl (cI, 32, .inl fb)), (aS, .inl (cI, 32, .inl fs))] := hD
  refine lv_iconst (v := iZ (0)) hx hb d_Rg_takeOut_39 (by decide +kernel) ?_
  refine lv_istore (lv' := [(4, .int (iZ 0)), (3, .int (iZ ((F r : Int) + ((lm (tv r) : Int) + (lm (bv r) : Int))))), (2, .int (iZ ((lm (tv r) : Int) + (lm (bv r) : Int)))), (0, .ref hg), (1, .int (iZ (r : Int)))]) hx hb d_Rg_takeOut_40 hl (by decide) rfl (fun ls hl => ?_)
  have L42 : ∀ (N : Nat) (i : Nat) (g : Nat → Int32) (H : Heap) (locs : List Loc) (ls : Array Slot), 32 - i < N → (i ≤ 32) → (∀ q, q < 32 → g q = iZ ((if q < i ∧ F r + (lm (tv r) + lm (bv r)) ≤ F q then F q - (lm (tv r) + lm (bv r)) else F q : Nat) : Int)) → va_P D cls0 [(hg, .inr (4, [.ref ap, .ref af, .ref aT, .ref aB, .ref aS, .int (iZ (tk : Int))])), (ap, .inl (cI, np, .inl (va_cpy fp fp (F r + (lm (tv r) + lm (bv r))) (F r) (tk - (F r + (lm (tv r) + lm (bv r))))))), (af, .inl (cI, 32, .inl g)), (aT, .inl (cI, 32, .inl ft)), (aB, .inl (cI, 32, .inl fb)), (aS, .inl (cI, 32, .inl fs))] H → va_D A [(hg, .inr (4, [.ref ap, .ref af, .ref aT, .ref aB, .ref aS, .int (iZ (tk : Int))])), (ap, .inl (cI, np, .inl (va_cpy fp fp (F r + (lm (tv r) + lm (bv r))) (F r) (tk - (F r + (lm (tv r) + lm (bv r))))))), (af, .inl (cI, 32, .inl g)), (aT, .inl (cI, 32, .inl ft)), (aB, .inl (cI, 32, .inl fb)), (aS, .inl (cI, 32, .inl fs))] → va_S A s.heap H locs → lv_has ls 5 [(0, .ref hg), (1, .int (iZ (r : Int))), (2, .int (iZ ((lm (tv r) : Int) + (lm (bv r) : Int)))), (3, .int (iZ ((F r : Int) + ((lm (tv r) : Int) + (lm (bv r) : Int))))), (4, .int (iZ (i : Int)))] → W p l e R s m args below meth c H locs 0 0 Q (F0 m 42 ls []) := by
    intro N
    induction N with
    | zero => intro i g H locs ls hN; exact absurd hN (Nat.not_lt_zero _)
    | succ N ih =>
      intro i g H locs ls hN ii ig hP hD hS hl
      refine lv_iload hx hb d_Rg_takeOut_42 (lv_at hl 4 rfl) ?_
      refine lv_bipush (v := iZ (32)) hx hb d_Rg_takeOut_44 (by decide +kernel) ?_
      refine zz_icmp_ge (tgt := 77) hx hb d_Rg_takeOut_46 (by decide) (by omega) (by omega) (fun c46 => ?_) (fun c46 => ?_)
      · refine lv_aload_n hx hb d_Rg_takeOut_77 rfl (lv_at hl 0 rfl) ?_
        refine lv_dup hx hb d_Rg_takeOut_78 rfl ?_
        refine va_get (D := D) (ci := 4) (v := .int (iZ (tk : Int))) (C := R_Rg) (T := F_Rg) (N := 6) hx hb hts i_Rg hown hK hP 0 rfl rfl 5 (by decide) (hts _ (big_in mw_55 rfl)) (fun _ h9 => h9) rfl d_Rg_takeOut_79 ?_
        refine lv_iload_n hx hb d_Rg_takeOut_82 rfl (lv_at hl 2 rfl) ?_
        refine zz_isub hx hb d_Rg_takeOut_83 ?_
        obtain ⟨t2, ht2, bt2⟩ : ∃ x : Nat, x = tk - (lm (tv r) + lm (bv r)) ∧ x < 1000000 := ⟨_, rfl, by omega⟩
        rw [show ((tk : Int) - ((lm (tv r) : Int) + (lm (bv r) : Int)) : Int) = (t2 : Int) by rw [ht2]; omega] 
        refine va_put (D := D) (ci := 4) (v := .int (iZ (t2 : Int))) (ty := .int) (C := R_Rg) (T := F_Rg) (N := 6) hx hb hts i_Rg t_Rg t_Rg_ok n_Rg hown hK hP hD hS 0 rfl rfl 5 (by decide) (hts _ (big_in mw_55 rfl)) (fun _ h9 => h9) rfl (by decide +kernel) rfl rfl (Nat.le_of_ble_eq_true rfl) d_Rg_takeOut_84 (fun H locs hP hD hS => ?_)
        have hP : va_P D cls0 [(hg, .inr (4, [.ref ap, .ref af, .ref aT, .ref aB, .ref aS, .int (iZ (t2 : Int))])), (ap, .inl (cI, np, .inl (va_cpy fp fp (F r + (lm (tv r) + lm (bv r))) (F r) (tk - (F r + (lm (tv r) + lm (bv r))))))), (af, .inl (cI, 32, .inl g)), (aT, .inl (cI, 32, .inl ft)), (aB, .inl (cI, 32, .inl fb)), (aS, .inl (cI, 32, .inl fs))] H := hP
        have hD : va_D A [(hg, .inr (4, [.ref ap, .ref af, .ref aT, .ref aB, .ref aS, .int (iZ (t2 : Int))])), (ap, .inl (cI, np, .inl (va_cpy fp fp (F r + (lm (tv r) + lm (bv r))) (F r) (tk - (F r + (lm (tv r) + lm (bv r))))))), (af, .inl (cI, 32, .inl g)), (aT, .inl (cI, 32, .inl ft)), (aB, .inl (cI, 32, .inl fb)), (aS, .inl (cI, 32, .inl fs))] := hD
        have hP9 : va_P D cls0 [(hg, .inr (4, [.ref ap, .ref af, .ref aT, .ref aB, .ref aS, .int (iZ (t2 : Int))])), (ap, .inl (cI, np, .inl (va_cpy fp fp (F r + (lm (tv r) + lm (bv r))) (F r) (tk - (F r + (lm (tv r) + lm (bv r))))))), (af, .inl (cI, 32, .inl g)), (aT, .inl (cI, 32, .inl ft)), (aB, .inl (cI, 32, .inl fb)), (aS, .inl (cI, 32, .inl fs))] H := hP.sub [0, 1, 2, 3, 4, 5] rfl
        have hD9 : va_D A [(hg, .inr (4, [.ref ap, .ref af, .ref aT, .ref aB, .ref aS, .int (iZ (t2 : Int))])), (ap, .inl (cI, np, .inl (va_cpy fp fp (F r + (lm (tv r) + lm (bv r))) (F r) (tk - (F r + (lm (tv r) + lm (bv r))))))), (af, .inl (cI, 32, .inl g)), (aT, .inl (cI, 32, .inl ft)), (aB, .inl (cI, 32, .inl fb)), (aS, .inl (cI, 32, .inl fs))] := hD.sub [0, 1, 2, 3, 4, 5] (by decide) rfl
        rw [hQ, ← hAe]
        refine r_v K (t2, g) hS d_Rg_takeOut_87 ?_ (fun t ht hv => ?_)
        · try dsimp only
          have ei : i = 32 := by omega
          subst ei
          exact ⟨rfl, by omega, fun q hq => by rw [ig q hq]; congr 2; by_cases z : F r + (lm (tv r) + lm (bv r)) ≤ F q; rw [if_pos ⟨hq, z⟩, if_pos z]; rw [if_neg (by omega), if_neg z]⟩
        · exact ⟨by rw [ht]; exact hP9, va_K.moved hv hK, by rw [← hAe]; exact hD9⟩
      · refine lv_aload_n hx hb d_Rg_takeOut_49 rfl (lv_at hl 0 rfl) ?_
        refine va_get (D := D) (ci := 4) (v := .ref af) (C := R_Rg) (T := F_Rg) (N := 6) hx hb hts i_Rg hown hK hP 0 rfl rfl 1 (by decide) (hts _ (big_in mw_51 rfl)) (fun _ h9 => h9) rfl d_Rg_takeOut_50 ?_
        refine lv_iload hx hb d_Rg_takeOut_53 (lv_at hl 4 rfl) ?_
        refine zz_iald hx hb hK hP 2 0 rfl rfl (i) (by omega) (by omega) (by omega) d_Rg_takeOut_55 ?_
        have hgi : g i = iZ (F i : Int) := by rw [ig i (by omega), if_neg (by omega)]
        have hFi := (I.at (r := i) (by omega)).2.2.2.2.2.2.1
        rw [hgi]
        refine lv_iload_n hx hb d_Rg_takeOut_56 rfl (lv_at hl 3 rfl) ?_
        refine zz_icmp_lt (tgt := 71) hx hb d_Rg_takeOut_57 (by decide) (by omega) (by omega) (fun c57 => ?_) (fun c57 => ?_)
        · refine lv_iinc (v := iZ ((i : Int) + 1)) (lv' := [(4, .int (iZ ((i : Int) + 1))), (0, .ref hg), (1, .int (iZ (r : Int))), (2, .int (iZ ((lm (tv r) : Int) + (lm (bv r) : Int)))), (3, .int (iZ ((F r : Int) + ((lm (tv r) : Int) + (lm (bv r) : Int)))))]) hx hb d_Rg_takeOut_71 hl (k := 4) rfl (iZ_add _ _) (by decide) rfl (fun ls hl => ?_)
          refine lv_goto (tgt := 42) hx hb d_Rg_takeOut_74 (by decide) ?_
          rw [show ((i : Int) + 1 : Int) = ((i + 1 : Nat) : Int) by omega] at hl
          exact ih (i + 1) g _ _ _ (by omega) (by omega) (fun q hq => by rw [ig q hq]; congr 2; by_cases z : q < i ∧ F r + (lm (tv r) + lm (bv r)) ≤ F q; rw [if_pos z, if_pos ⟨by omega, z.2⟩]; rw [if_neg z, if_neg (by intro y; apply z; refine ⟨?_, y.2⟩; rcases Nat.lt_or_ge q i with w | w; exact w; (have e : q = i := by omega); subst e; omega)]) (hP.sub (ws' := [(hg, .inr (4, [.ref ap, .ref af, .ref aT, .ref aB, .ref aS, .int (iZ (tk : Int))])), (ap, .inl (cI, np, .inl (va_cpy fp fp (F r + (lm (tv r) + lm (bv r))) (F r) (tk - (F r + (lm (tv r) + lm (bv r))))))), (af, .inl (cI, 32, .inl g)), (aT, .inl (cI, 32, .inl ft)), (aB, .inl (cI, 32, .inl fb)), (aS, .inl (cI, 32, .inl fs))]) [0, 1, 2, 3, 4, 5] rfl) (hD.sub (ws' := [(hg, .inr (4, [.ref ap, .ref af, .ref aT, .ref aB, .ref aS, .int (iZ (tk : Int))])), (ap, .inl (cI, np, .inl (va_cpy fp fp (F r + (lm (tv r) + lm (bv r))) (F r) (tk - (F r + (lm (tv r) + lm (bv r))))))), (af, .inl (cI, 32, .inl g)), (aT, .inl (cI, 32, .inl ft)), (aB, .inl (cI, 32, .inl fb)), (aS, .inl (cI, 32, .inl fs))]) [0, 1, 2, 3, 4, 5] (by decide) rfl) hS (lv_sub hl [1, 2, 3, 4, 0] rfl)
        · refine lv_aload_n hx hb d_Rg_takeOut_60 rfl (lv_at hl 0 rfl) ?_
          refine va_get (D := D) (ci := 4) (v := .ref af) (C := R_Rg) (T := F_Rg) (N := 6) hx hb hts i_Rg hown hK hP 0 rfl rfl 1 (by decide) (hts _ (big_in mw_51 rfl)) (fun _ h9 => h9) rfl d_Rg_takeOut_61 ?_
          refine lv_iload hx hb d_Rg_takeOut_64 (lv_at hl 4 rfl) ?_
          refine lv_dup2_11 hx hb d_Rg_takeOut_66 rfl rfl ?_
          refine zz_iald hx hb hK hP 2 0 rfl rfl (i) (by omega) (by omega) (by omega) d_Rg_takeOut_67 ?_
          rw [hgi]
          refine lv_iload_n hx hb d_Rg_takeOut_68 rfl (lv_at hl 2 rfl) ?_
          refine zz_isub hx hb d_Rg_takeOut_69 ?_
          refine zz_iast hx hb hK hP hD hS 2 0 rfl rfl (i) (by omega) (by omega) (by omega) d_Rg_takeOut_70 (fun H locs hP hD hS => ?_)
          have hP : va_P D cls0 [(hg, .inr (4, [.ref ap, .ref af, .ref aT, .ref aB, .ref aS, .int (iZ (tk : Int))])), (ap, .inl (cI, np, .inl (va_cpy fp fp (F r + (lm (tv r) + lm (bv r))) (F r) (tk - (F r + (lm (tv r) + lm (bv r))))))), (af, .inl (cI, 32, .inl (upd g i (iZ ((F i : Int) - ((lm (tv r) : Int) + (lm (bv r) : Int))))))), (aT, .inl (cI, 32, .inl ft)), (aB, .inl (cI, 32, .inl fb)), (aS, .inl (cI, 32, .inl fs))] H := hP
          have hD : va_D A [(hg, .inr (4, [.ref ap, .ref af, .ref aT, .ref aB, .ref aS, .int (iZ (tk : Int))])), (ap, .inl (cI, np, .inl (va_cpy fp fp (F r + (lm (tv r) + lm (bv r))) (F r) (tk - (F r + (lm (tv r) + lm (bv r))))))), (af, .inl (cI, 32, .inl (upd g i (iZ ((F i : Int) - ((lm (tv r) : Int) + (lm (bv r) : Int))))))), (aT, .inl (cI, 32, .inl ft)), (aB, .inl (cI, 32, .inl fb)), (aS, .inl (cI, 32, .inl fs))] := hD
          refine lv_iinc (v := iZ ((i : Int) + 1)) (lv' := [(4, .int (iZ ((i : Int) + 1))), (0, .ref hg), (1, .int (iZ (r : Int))), (2, .int (iZ ((lm (tv r) : Int) + (lm (bv r) : Int)))), (3, .int (iZ ((F r : Int) + ((lm (tv r) : Int) + (lm (bv r) : Int)))))]) hx hb d_Rg_takeOut_71 hl (k := 4) rfl (iZ_add _ _) (by decide) rfl (fun ls hl => ?_)
          refine lv_goto (tgt := 42) hx hb d_Rg_takeOut_74 (by decide) ?_
          rw [show ((i : Int) + 1 : Int) = ((i + 1 : Nat) : Int) by omega] at hl
          exact ih (i + 1) (upd g i (iZ ((F i : Int) - ((lm (tv r) : Int) + (lm (bv r) : Int))))) _ _ _ (by omega) (by omega) (fun q hq => by by_cases e : q = i; (rw [e, pk_us, if_pos ⟨by omega, by omega⟩]; congr 1; omega); (rw [pk_un e, ig q hq]; congr 2; by_cases z : q < i ∧ F r + (lm (tv r) + lm (bv r)) ≤ F q; rw [if_pos z, if_pos ⟨by omega, z.2⟩]; rw [if_neg z, if_neg (by omega)])) (hP.sub (ws' := [(hg, .inr (4, [.ref ap, .ref af, .ref aT, .ref aB, .ref aS, .int (iZ (tk : Int))])), (ap, .inl (cI, np, .inl (va_cpy fp fp (F r + (lm (tv r) + lm (bv r))) (F r) (tk - (F r + (lm (tv r) + lm (bv r))))))), (af, .inl (cI, 32, .inl (upd g i (iZ ((F i : Int) - ((lm (tv r) : Int) + (lm (bv r) : Int))))))), (aT, .inl (cI, 32, .inl ft)), (aB, .inl (cI, 32, .inl fb)), (aS, .inl (cI, 32, .inl fs))]) [0, 1, 2, 3, 4, 5] rfl) (hD.sub (ws' := [(hg, .inr (4, [.ref ap, .ref af, .ref aT, .ref aB, .ref aS, .int (iZ (tk : Int))])), (ap, .inl (cI, np, .inl (va_cpy fp fp (F r + (lm (tv r) + lm (bv r))) (F r) (tk - (F r + (lm (tv r) + lm (bv r))))))), (af, .inl (cI, 32, .inl (upd g i (iZ ((F i : Int) - ((lm (tv r) : Int) + (lm (bv r) : Int))))))), (aT, .inl (cI, 32, .inl ft)), (aB, .inl (cI, 32, .inl fb)), (aS, .inl (cI, 32, .inl fs))]) [0, 1, 2, 3, 4, 5] (by decide) rfl) hS (lv_sub hl [1, 2, 3, 4, 0] rfl)
  exact L42 _ 0 ff _ _ _ (Nat.lt_succ_self _) (by omega) (fun q hq => by rw [if_neg (by omega)]; exact (I.at hq).1) (hP.sub (ws' := [(hg, .inr (4, [.ref ap, .ref af, .ref aT, .ref aB, .ref aS, .int (iZ (tk : Int))])), (ap, .inl (cI, np, .inl (va_cpy fp fp (F r + (lm (tv r) + lm (bv r))) (F r) (tk - (F r + (lm (tv r) + lm (bv r))))))), (af, .inl (cI, 32, .inl ff)), (aT, .inl (cI, 32, .inl ft)), (aB, .inl (cI, 32, .inl fb)), (aS, .inl (cI, 32, .inl fs))]) [0, 1, 2, 3, 4, 5] rfl) (hD.sub (ws' := [(hg, .inr (4, [.ref ap, .ref af, .ref aT, .ref aB, .ref aS, .int (iZ (tk : Int))])), (ap, .inl (cI, np, .inl (va_cpy fp fp (F r + (lm (tv r) + lm (bv r))) (F r) (tk - (F r + (lm (tv r) + lm (bv r))))))), (af, .inl (cI, 32, .inl ff)), (aT, .inl (cI, 32, .inl ft)), (aB, .inl (cI, 32, .inl fb)), (aS, .inl (cI, 32, .inl fs))]) [0, 1, 2, 3, 4, 5] (by decide) rfl) hS (lv_sub hl [3, 4, 2, 1, 0] rfl)
set_option maxHeartbeats 4000000 in
set_option maxRecDepth 100000 in
/-- keep(r, x) where it fits -/
theorem c_Rg_keep (l : Launch) (D : va_G) (hg : Nat) (ap : Nat) (af : Nat) (aT : Nat) (aB : Nat) (aS : Nat) (np : Nat) (fp : Nat → Int32) (ff : Nat → Int32) (ft : Nat → Int32) (fb : Nat → Int32) (fs : Nat → Int32) (tk : Nat) (ra : Nat) (sx : Int) (h1 : Nat) (a1 : Nat) (k1 : Nat) (f1 : Nat → Int32) (h2 : Nat) (a2 : Nat) (k2 : Nat) (f2 : Nat → Int32) (n : Nat) (cI : ClassId) (F : Nat → Nat) (tv : Nat → Nat) (bv : Nat → Nat) (sg : Nat → Int) (r : Nat) (v1 : Nat) (v2 : Nat) (sz : Nat) (I : RgI fp ff ft fb fs tk np F tv bv sg) (hr : r < 32) (hnp : np ≤ 1024) (r1 : Rp f1 k1 v1) (r2 : Rp f2 k2 v2) (h20 : 0 < v2) (hk1 : k1 ≤ n) (hk2 : k2 ≤ n) (hfit : tk + (k1 + k2) ≤ np + (lm (tv r) + lm (bv r))) (hn : n ≤ 2240) : Met l y_Rg_keep (wsB y_Rg_keep b_Rg_keep 4 (some .int)) ({ frames := 2, cells := 0, slots := 0, locals := 124 }) (va_Pc [.ref hg, .int (iZ (r : Int)), .ref ra] (wPre D [(cI, .int)] [(hg, .inr (4, [.ref ap, .ref af, .ref aT, .ref aB, .ref aS, .int (iZ (tk : Int))])), (ap, .inl (cI, np, .inl fp)), (af, .inl (cI, 32, .inl ff)), (aT, .inl (cI, 32, .inl ft)), (aB, .inl (cI, 32, .inl fb)), (aS, .inl (cI, 32, .inl fs)), (ra, .inr (1, [.int (iZ sx), .ref h1, .ref h2])), (h1, .inr (0, [.ref a1, .int (iZ (k1 : Int))])), (a1, .inl (cI, n, .inl f1)), (h2, .inr (0, [.ref a2, .int (iZ (k2 : Int))])), (a2, .inl (cI, n, .inl f2))] sz)) (va_QV (fun (v_9 : Option Value) (u_9 : (Nat → Int32) × (Nat → Int32) × (Nat → Int32) × (Nat → Int32) × (Nat → Int32) × Nat × (Nat → Nat)) => v_9 = some (.int (iZ ((k1 : Int) + (k2 : Int)))) ∧ (RgI u_9.1 u_9.2.1 u_9.2.2.1 u_9.2.2.2.1 u_9.2.2.2.2.1 u_9.2.2.2.2.2.1 np u_9.2.2.2.2.2.2 (up tv r v1) (up bv r v2) (up sg r sx))) (fun u_9 => wPost D [(cI, .int)] [(hg, .inr (4, [.ref ap, .ref af, .ref aT, .ref aB, .ref aS, .int (iZ (tk : Int))])), (ap, .inl (cI, np, .inl fp)), (af, .inl (cI, 32, .inl ff)), (aT, .inl (cI, 32, .inl ft)), (aB, .inl (cI, 32, .inl fb)), (aS, .inl (cI, 32, .inl fs)), (ra, .inr (1, [.int (iZ sx), .ref h1, .ref h2])), (h1, .inr (0, [.ref a1, .int (iZ (k1 : Int))])), (a1, .inl (cI, n, .inl f1)), (h2, .inr (0, [.ref a2, .int (iZ (k2 : Int))])), (a2, .inl (cI, n, .inl f2))] [(hg, .inr (4, [.ref ap, .ref af, .ref aT, .ref aB, .ref aS, .int (iZ (u_9.2.2.2.2.2.1 : Int))])), (ap, .inl (cI, np, .inl u_9.1)), (af, .inl (cI, 32, .inl u_9.2.1)), (aT, .inl (cI, 32, .inl u_9.2.2.1)), (aB, .inl (cI, 32, .inl u_9.2.2.2.1)), (aS, .inl (cI, 32, .inl u_9.2.2.2.2.1)), (ra, .inr (1, [.int (iZ sx), .ref h1, .ref h2])), (h1, .inr (0, [.ref a1, .int (iZ (k1 : Int))])), (a1, .inl (cI, n, .inl f1)), (h2, .inr (0, [.ref a2, .int (iZ (k2 : Int))])), (a2, .inl (cI, n, .inl f2))] sz) (va_A [(hg, .inr (4, [.ref ap, .ref af, .ref aT, .ref aB, .ref aS, .int (iZ (tk : Int))])), (ap, .inl (cI, np, .inl fp)), (af, .inl (cI, 32, .inl ff)), (aT, .inl (cI, 32, .inl ft)), (aB, .inl (cI, 32, .inl fb)), (aS, .inl (cI, 32, .inl fs)), (ra, .inr (1, [.int (iZ sx), .ref h1, .ref h2])), (h1, .inr (0, [.ref a1, .int (iZ (k1 : Int))])), (a1, .inl (cI, n, .inl f1)), (h2, .inr (0, [.ref a2, .int (iZ (k2 : Int))])), (a2, .inl (cI, n, .inl f2))] sz)) 0 0 (va_A [(hg, .inr (4, [.ref ap, .ref af, .ref aT, .ref aB, .ref aS, .int (iZ (tk : Int))])), (ap, .inl (cI, np, .inl fp)), (af, .inl (cI, 32, .inl ff)), (aT, .inl (cI, 32, .inl ft)), (aB, .inl (cI, 32, .inl fb)), (aS, .inl (cI, 32, .inl fs)), (ra, .inr (1, [.int (iZ sx), .ref h1, .ref h2])), (h1, .inr (0, [.ref a1, .int (iZ (k1 : Int))])), (a1, .inl (cI, n, .inl f1)), (h2, .inr (0, [.ref a2, .int (iZ (k2 : Int))])), (a2, .inl (cI, n, .inl f2))] sz) := by
  refine met_enter (by decide +kernel) (Nat.le_of_ble_eq_true rfl) ?_
  intro p e s m args below meth c ls A R Q H locs K hin hAe hA hR hQ hP hK hD hS hl
  obtain ⟨hx, hb, hml, hrt, hlk, hts, hown, hno⟩ := id K
  have hl : lv_has ls 4 [(0, .ref hg), (1, .int (iZ (r : Int))), (2, .ref ra)] := hl
  obtain ⟨i1, i2, i3, i4, i5, i6, i7, i8⟩ := I.at hr
  have i9 := I.2.2.1
  refine lv_aload_n hx hb d_Rg_keep_0 rfl (lv_at hl 2 rfl) ?_
  refine va_get (D := D) (ci := 1) (v := .ref h1) (C := R_Ra) (T := F_Ra) (N := 3) hx hb hts i_Ra hown hK hP 6 rfl rfl 1 (by decide) (hts _ (big_in mw_196 rfl)) (fun _ h9 => h9) rfl d_Rg_keep_1 ?_
  refine va_get (D := D) (ci := 0) (v := .int (iZ (k1 : Int))) (C := R_Wh) (T := F_Wh) (N := 2) hx hb hts i_Wh hown hK hP 7 rfl rfl 1 (by decide) (hts _ (big_in mw_98 rfl)) (fun _ h9 => h9) rfl d_Rg_keep_4 ?_
  refine lv_aload_n hx hb d_Rg_keep_7 rfl (lv_at hl 2 rfl) ?_
  refine va_get (D := D) (ci := 1) (v := .ref h2) (C := R_Ra) (T := F_Ra) (N := 3) hx hb hts i_Ra hown hK hP 6 rfl rfl 2 (by decide) (hts _ (big_in mw_202 rfl)) (fun _ h9 => h9) rfl d_Rg_keep_8 ?_
  refine va_get (D := D) (ci := 0) (v := .int (iZ (k2 : Int))) (C := R_Wh) (T := F_Wh) (N := 2) hx hb hts i_Wh hown hK hP 9 rfl rfl 1 (by decide) (hts _ (big_in mw_98 rfl)) (fun _ h9 => h9) rfl d_Rg_keep_11 ?_
  refine zz_iadd hx hb d_Rg_keep_14 ?_
  refine lv_istore_n (lv' := [(3, .int (iZ ((k1 : Int) + (k2 : Int)))), (0, .ref hg), (1, .int (iZ (r : Int))), (2, .ref ra)]) hx hb d_Rg_keep_15 rfl hl (by decide) rfl (fun ls hl => ?_)
  refine lv_aload_n hx hb d_Rg_keep_16 rfl (lv_at hl 1 rfl) ?_
  refine va_get (D := D) (ci := 4) (v := .int (iZ (tk : Int))) (C := R_Rg) (T := F_Rg) (N := 6) hx hb hts i_Rg hown hK hP 0 rfl rfl 5 (by decide) (hts _ (big_in mw_55 rfl)) (fun _ h9 => h9) rfl d_Rg_keep_17 ?_
  refine lv_aload_n hx hb d_Rg_keep_20 rfl (lv_at hl 1 rfl) ?_
  refine lv_iload_n hx hb d_Rg_keep_21 rfl (lv_at hl 2 rfl) ?_
  refine cv (n := 1) (wr := [(ra, .inr (1, [.int (iZ sx), .ref h1, .ref h2])), (h1, .inr (0, [.ref a1, .int (iZ (k1 : Int))])), (a1, .inl (cI, n, .inl f1)), (h2, .inr (0, [.ref a2, .int (iZ (k2 : Int))])), (a2, .inl (cI, n, .inl f2))]) (w1 := (fun (u : Unit) => [(hg, .inr (4, [.ref ap, .ref af, .ref aT, .ref aB, .ref aS, .int (iZ (tk : Int))])), (ap, .inl (cI, np, .inl fp)), (af, .inl (cI, 32, .inl ff)), (aT, .inl (cI, 32, .inl ft)), (aB, .inl (cI, 32, .inl fb)), (aS, .inl (cI, 32, .inl fs))])) (As := [.int (iZ (r : Int))]) (rest := [.int (iZ (tk : Int))]) K hP hD hK hS hA hl.1 (c_Rg_needOf l D hg ap af aT aB aS np fp ff ft fb fs tk cI F tv bv sg r H.size I hr hnp) [0, 1, 2, 3, 4, 5] [6, 7, 8, 9, 10] [0] rfl rfl rfl (by decide) (by decide) (by decide) 0 rfl rfl (big_in mw_797 rfl) (big_in mw_2 rfl) (big_in mw_794 rfl) (big_in mw_795 rfl) (big_in mw_796 rfl) rfl rfl (by decide +kernel) ⟨by rw [hR]; exact Nat.le_of_ble_eq_true rfl, by rw [hR]; exact Nat.le_of_ble_eq_true rfl⟩ rfl (Nat.le_of_ble_eq_true rfl) d_Rg_keep_22 ⟨by rw [hR]; exact Nat.le_of_ble_eq_true rfl, by rw [hR]; exact Nat.le_of_ble_eq_true rfl⟩ rfl (fun v u H locs hp1 hP hD hS _ => ?_)
  obtain rfl := hp1
  have hP : va_P D cls0 [(ra, .inr (1, [.int (iZ sx), .ref h1, .ref h2])), (h1, .inr (0, [.ref a1, .int (iZ (k1 : Int))])), (a1, .inl (cI, n, .inl f1)), (h2, .inr (0, [.ref a2, .int (iZ (k2 : Int))])), (a2, .inl (cI, n, .inl f2)), (hg, .inr (4, [.ref ap, .ref af, .ref aT, .ref aB, .ref aS, .int (iZ (tk : Int))])), (ap, .inl (cI, np, .inl fp)), (af, .inl (cI, 32, .inl ff)), (aT, .inl (cI, 32, .inl ft)), (aB, .inl (cI, 32, .inl fb)), (aS, .inl (cI, 32, .inl fs))] H := hP
  have hD : va_D A [(ra, .inr (1, [.int (iZ sx), .ref h1, .ref h2])), (h1, .inr (0, [.ref a1, .int (iZ (k1 : Int))])), (a1, .inl (cI, n, .inl f1)), (h2, .inr (0, [.ref a2, .int (iZ (k2 : Int))])), (a2, .inl (cI, n, .inl f2)), (hg, .inr (4, [.ref ap, .ref af, .ref aT, .ref aB, .ref aS, .int (iZ (tk : Int))])), (ap, .inl (cI, np, .inl fp)), (af, .inl (cI, 32, .inl ff)), (aT, .inl (cI, 32, .inl ft)), (aB, .inl (cI, 32, .inl fb)), (aS, .inl (cI, 32, .inl fs))] := hD
  show W p l e R s m args below meth c H locs _ _ Q (F0 m 25 ls [.int (iZ ((lm (tv r) : Int) + (lm (bv r) : Int))), .int (iZ (tk : Int))])
  refine zz_isub hx hb d_Rg_keep_25 ?_
  refine lv_iload_n hx hb d_Rg_keep_26 rfl (lv_at hl 0 rfl) ?_
  refine zz_iadd hx hb d_Rg_keep_27 ?_
  refine lv_aload_n hx hb d_Rg_keep_28 rfl (lv_at hl 1 rfl) ?_
  refine va_get (D := D) (ci := 4) (v := .ref ap) (C := R_Rg) (T := F_Rg) (N := 6) hx hb hts i_Rg hown hK hP 5 rfl rfl 0 (by decide) (hts _ (big_in mw_50 rfl)) (fun _ h9 => h9) rfl d_Rg_keep_29 ?_
  refine va_alen hx hb hK hP 6 0 rfl rfl (v := iZ (np : Int)) (nI_iZ _) d_Rg_keep_32 ?_
  refine zz_icmp_le (tgt := 46) hx hb d_Rg_keep_33 (by decide) (by omega) (by omega) (fun c33 => ?_) (fun c33 => False.elim (by omega))
  refine lv_aload_n hx hb d_Rg_keep_46 rfl (lv_at hl 1 rfl) ?_
  refine lv_iload_n hx hb d_Rg_keep_47 rfl (lv_at hl 2 rfl) ?_
  refine cv (n := 1) (wr := [(ra, .inr (1, [.int (iZ sx), .ref h1, .ref h2])), (h1, .inr (0, [.ref a1, .int (iZ (k1 : Int))])), (a1, .inl (cI, n, .inl f1)), (h2, .inr (0, [.ref a2, .int (iZ (k2 : Int))])), (a2, .inl (cI, n, .inl f2))]) (w1 := (fun (u : Nat × (Nat → Int32)) => [(hg, .inr (4, [.ref ap, .ref af, .ref aT, .ref aB, .ref aS, .int (iZ (u.1 : Int))])), (ap, .inl (cI, np, .inl (va_cpy fp fp (F r + (lm (tv r) + lm (bv r))) (F r) (tk - (F r + (lm (tv r) + lm (bv r))))))), (af, .inl (cI, 32, .inl u.2)), (aT, .inl (cI, 32, .inl ft)), (aB, .inl (cI, 32, .inl fb)), (aS, .inl (cI, 32, .inl fs))])) (As := [.int (iZ (r : Int))]) (rest := []) K hP hD hK hS hA hl.1 (c_Rg_takeOut l D hg ap af aT aB aS np fp ff ft fb fs tk cI F tv bv sg r H.size I hr hnp) [5, 6, 7, 8, 9, 10] [0, 1, 2, 3, 4] [0] rfl rfl rfl (by decide) (by decide) (by decide) 0 rfl rfl (big_in mw_804 rfl) (big_in mw_2 rfl) (big_in mw_801 rfl) (big_in mw_803 rfl) (big_in sp_10 rfl) rfl rfl (by decide +kernel) ⟨by rw [hR]; exact Nat.le_of_ble_eq_true rfl, by rw [hR]; exact Nat.le_of_ble_eq_true rfl⟩ rfl (Nat.le_of_ble_eq_true rfl) d_Rg_keep_48 ⟨by rw [hR]; exact Nat.le_of_ble_eq_true rfl, by rw [hR]; exact Nat.le_of_ble_eq_true rfl⟩ rfl (fun v u H locs hp2 hP hD hS _ => ?_)
  obtain ⟨t2, gfo⟩ := u
  try dsimp only at hp2
  obtain ⟨rfl, gt1, gt2⟩ := hp2
  have hP : va_P D cls0 [(ra, .inr (1, [.int (iZ sx), .ref h1, .ref h2])), (h1, .inr (0, [.ref a1, .int (iZ (k1 : Int))])), (a1, .inl (cI, n, .inl f1)), (h2, .inr (0, [.ref a2, .int (iZ (k2 : Int))])), (a2, .inl (cI, n, .inl f2)), (hg, .inr (4, [.ref ap, .ref af, .ref aT, .ref aB, .ref aS, .int (iZ (t2 : Int))])), (ap, .inl (cI, np, .inl (va_cpy fp fp (F r + (lm (tv r) + lm (bv r))) (F r) (tk - (F r + (lm (tv r) + lm (bv r))))))), (af, .inl (cI, 32, .inl gfo)), (aT, .inl (cI, 32, .inl ft)), (aB, .inl (cI, 32, .inl fb)), (aS, .inl (cI, 32, .inl fs))] H := hP
  have hD : va_D A [(ra, .inr (1, [.int (iZ sx), .ref h1, .ref h2])), (h1, .inr (0, [.ref a1, .int (iZ (k1 : Int))])), (a1, .inl (cI, n, .inl f1)), (h2, .inr (0, [.ref a2, .int (iZ (k2 : Int))])), (a2, .inl (cI, n, .inl f2)), (hg, .inr (4, [.ref ap, .ref af, .ref aT, .ref aB, .ref aS, .int (iZ (t2 : Int))])), (ap, .inl (cI, np, .inl (va_cpy fp fp (F r + (lm (tv r) + lm (bv r))) (F r) (tk - (F r + (lm (tv r) + lm (bv r))))))), (af, .inl (cI, 32, .inl gfo)), (aT, .inl (cI, 32, .inl ft)), (aB, .inl (cI, 32, .inl fb)), (aS, .inl (cI, 32, .inl fs))] := hD
  show W p l e R s m args below meth c H locs _ _ Q (F0 m 51 ls [])
  refine lv_aload_n hx hb d_Rg_keep_51 rfl (lv_at hl 1 rfl) ?_
  refine va_get (D := D) (ci := 4) (v := .ref af) (C := R_Rg) (T := F_Rg) (N := 6) hx hb hts i_Rg hown hK hP 5 rfl rfl 1 (by decide) (hts _ (big_in mw_51 rfl)) (fun _ h9 => h9) rfl d_Rg_keep_52 ?_
  refine lv_iload_n hx hb d_Rg_keep_55 rfl (lv_at hl 2 rfl) ?_
  refine lv_aload_n hx hb d_Rg_keep_56 rfl (lv_at hl 1 rfl) ?_
  refine va_get (D := D) (ci := 4) (v := .int (iZ (t2 : Int))) (C := R_Rg) (T := F_Rg) (N := 6) hx hb hts i_Rg hown hK hP 5 rfl rfl 5 (by decide) (hts _ (big_in mw_55 rfl)) (fun _ h9 => h9) rfl d_Rg_keep_57 ?_
  refine zz_iast hx hb hK hP hD hS 7 0 rfl rfl (r) (by omega) (by omega) (by omega) d_Rg_keep_60 (fun H locs hP hD hS => ?_)
  have hP : va_P D cls0 [(ra, .inr (1, [.int (iZ sx), .ref h1, .ref h2])), (h1, .inr (0, [.ref a1, .int (iZ (k1 : Int))])), (a1, .inl (cI, n, .inl f1)), (h2, .inr (0, [.ref a2, .int (iZ (k2 : Int))])), (a2, .inl (cI, n, .inl f2)), (hg, .inr (4, [.ref ap, .ref af, .ref aT, .ref aB, .ref aS, .int (iZ (t2 : Int))])), (ap, .inl (cI, np, .inl (va_cpy fp fp (F r + (lm (tv r) + lm (bv r))) (F r) (tk - (F r + (lm (tv r) + lm (bv r))))))), (af, .inl (cI, 32, .inl (upd gfo r (iZ (t2 : Int))))), (aT, .inl (cI, 32, .inl ft)), (aB, .inl (cI, 32, .inl fb)), (aS, .inl (cI, 32, .inl fs))] H := hP
  have hD : va_D A [(ra, .inr (1, [.int (iZ sx), .ref h1, .ref h2])), (h1, .inr (0, [.ref a1, .int (iZ (k1 : Int))])), (a1, .inl (cI, n, .inl f1)), (h2, .inr (0, [.ref a2, .int (iZ (k2 : Int))])), (a2, .inl (cI, n, .inl f2)), (hg, .inr (4, [.ref ap, .ref af, .ref aT, .ref aB, .ref aS, .int (iZ (t2 : Int))])), (ap, .inl (cI, np, .inl (va_cpy fp fp (F r + (lm (tv r) + lm (bv r))) (F r) (tk - (F r + (lm (tv r) + lm (bv r))))))), (af, .inl (cI, 32, .inl (upd gfo r (iZ (t2 : Int))))), (aT, .inl (cI, 32, .inl ft)), (aB, .inl (cI, 32, .inl fb)), (aS, .inl (cI, 32, .inl fs))] := hD
  refine lv_aload_n hx hb d_Rg_keep_61 rfl (lv_at hl 1 rfl) ?_
  refine va_get (D := D) (ci := 4) (v := .ref aT) (C := R_Rg) (T := F_Rg) (N := 6) hx hb hts i_Rg hown hK hP 5 rfl rfl 2 (by decide) (hts _ (big_in mw_52 rfl)) (fun _ h9 => h9) rfl d_Rg_keep_62 ?_
  refine lv_iload_n hx hb d_Rg_keep_65 rfl (lv_at hl 2 rfl) ?_
  refine lv_aload_n hx hb d_Rg_keep_66 rfl (lv_at hl 3 rfl) ?_
  refine va_get (D := D) (ci := 1) (v := .ref h1) (C := R_Ra) (T := F_Ra) (N := 3) hx hb hts i_Ra hown hK hP 0 rfl rfl 1 (by decide) (hts _ (big_in mw_196 rfl)) (fun _ h9 => h9) rfl d_Rg_keep_67 ?_
  refine va_get (D := D) (ci := 0) (v := .int (iZ (k1 : Int))) (C := R_Wh) (T := F_Wh) (N := 2) hx hb hts i_Wh hown hK hP 1 rfl rfl 1 (by decide) (hts _ (big_in mw_98 rfl)) (fun _ h9 => h9) rfl d_Rg_keep_70 ?_
  refine zz_iast hx hb hK hP hD hS 8 0 rfl rfl (r) (by omega) (by omega) (by omega) d_Rg_keep_73 (fun H locs hP hD hS => ?_)
  have hP : va_P D cls0 [(ra, .inr (1, [.int (iZ sx), .ref h1, .ref h2])), (h1, .inr (0, [.ref a1, .int (iZ (k1 : Int))])), (a1, .inl (cI, n, .inl f1)), (h2, .inr (0, [.ref a2, .int (iZ (k2 : Int))])), (a2, .inl (cI, n, .inl f2)), (hg, .inr (4, [.ref ap, .ref af, .ref aT, .ref aB, .ref aS, .int (iZ (t2 : Int))])), (ap, .inl (cI, np, .inl (va_cpy fp fp (F r + (lm (tv r) + lm (bv r))) (F r) (tk - (F r + (lm (tv r) + lm (bv r))))))), (af, .inl (cI, 32, .inl (upd gfo r (iZ (t2 : Int))))), (aT, .inl (cI, 32, .inl (upd ft r (iZ (k1 : Int))))), (aB, .inl (cI, 32, .inl fb)), (aS, .inl (cI, 32, .inl fs))] H := hP
  have hD : va_D A [(ra, .inr (1, [.int (iZ sx), .ref h1, .ref h2])), (h1, .inr (0, [.ref a1, .int (iZ (k1 : Int))])), (a1, .inl (cI, n, .inl f1)), (h2, .inr (0, [.ref a2, .int (iZ (k2 : Int))])), (a2, .inl (cI, n, .inl f2)), (hg, .inr (4, [.ref ap, .ref af, .ref aT, .ref aB, .ref aS, .int (iZ (t2 : Int))])), (ap, .inl (cI, np, .inl (va_cpy fp fp (F r + (lm (tv r) + lm (bv r))) (F r) (tk - (F r + (lm (tv r) + lm (bv r))))))), (af, .inl (cI, 32, .inl (upd gfo r (iZ (t2 : Int))))), (aT, .inl (cI, 32, .inl (upd ft r (iZ (k1 : Int))))), (aB, .inl (cI, 32, .inl fb)), (aS, .inl (cI, 32, .inl fs))] := hD
  refine lv_aload_n hx hb d_Rg_keep_74 rfl (lv_at hl 1 rfl) ?_
  refine va_get (D := D) (ci := 4) (v := .ref aB) (C := R_Rg) (T := F_Rg) (N := 6) hx hb hts i_Rg hown hK hP 5 rfl rfl 3 (by decide) (hts _ (big_in mw_53 rfl)) (fun _ h9 => h9) rfl d_Rg_keep_75 ?_
  refine lv_iload_n hx hb d_Rg_keep_78 rfl (lv_at hl 2 rfl) ?_
  refine lv_aload_n hx hb d_Rg_keep_79 rfl (lv_at hl 3 rfl) ?_
  refine va_get (D := D) (ci := 1) (v := .ref h2) (C := R_Ra) (T := F_Ra) (N := 3) hx hb hts i_Ra hown hK hP 0 rfl rfl 2 (by decide) (hts _ (big_in mw_202 rfl)) (fun _ h9 => h9) rfl d_Rg_keep_80 ?_
  refine va_get (D := D) (ci := 0) (v := .int (iZ (k2 : Int))) (C := R_Wh) (T := F_Wh) (N := 2) hx hb hts i_Wh hown hK hP 3 rfl rfl 1 (by decide) (hts _ (big_in mw_98 rfl)) (fun _ h9 => h9) rfl d_Rg_keep_83 ?_
  refine zz_iast hx hb hK hP hD hS 9 0 rfl rfl (r) (by omega) (by omega) (by omega) d_Rg_keep_86 (fun H locs hP hD hS => ?_)
  have hP : va_P D cls0 [(ra, .inr (1, [.int (iZ sx), .ref h1, .ref h2])), (h1, .inr (0, [.ref a1, .int (iZ (k1 : Int))])), (a1, .inl (cI, n, .inl f1)), (h2, .inr (0, [.ref a2, .int (iZ (k2 : Int))])), (a2, .inl (cI, n, .inl f2)), (hg, .inr (4, [.ref ap, .ref af, .ref aT, .ref aB, .ref aS, .int (iZ (t2 : Int))])), (ap, .inl (cI, np, .inl (va_cpy fp fp (F r + (lm (tv r) + lm (bv r))) (F r) (tk - (F r + (lm (tv r) + lm (bv r))))))), (af, .inl (cI, 32, .inl (upd gfo r (iZ (t2 : Int))))), (aT, .inl (cI, 32, .inl (upd ft r (iZ (k1 : Int))))), (aB, .inl (cI, 32, .inl (upd fb r (iZ (k2 : Int))))), (aS, .inl (cI, 32, .inl fs))] H := hP
  have hD : va_D A [(ra, .inr (1, [.int (iZ sx), .ref h1, .ref h2])), (h1, .inr (0, [.ref a1, .int (iZ (k1 : Int))])), (a1, .inl (cI, n, .inl f1)), (h2, .inr (0, [.ref a2, .int (iZ (k2 : Int))])), (a2, .inl (cI, n, .inl f2)), (hg, .inr (4, [.ref ap, .ref af, .ref aT, .ref aB, .ref aS, .int (iZ (t2 : Int))])), (ap, .inl (cI, np, .inl (va_cpy fp fp (F r + (lm (tv r) + lm (bv r))) (F r) (tk - (F r + (lm (tv r) + lm (bv r))))))), (af, .inl (cI, 32, .inl (upd gfo r (iZ (t2 : Int))))), (aT, .inl (cI, 32, .inl (upd ft r (iZ (k1 : Int))))), (aB, .inl (cI, 32, .inl (upd fb r (iZ (k2 : Int))))), (aS, .inl (cI, 32, .inl fs))] := hD
  refine lv_aload_n hx hb d_Rg_keep_87 rfl (lv_at hl 1 rfl) ?_
  refine va_get (D := D) (ci := 4) (v := .ref aS) (C := R_Rg) (T := F_Rg) (N := 6) hx hb hts i_Rg hown hK hP 5 rfl rfl 4 (by decide) (hts _ (big_in mw_54 rfl)) (fun _ h9 => h9) rfl d_Rg_keep_88 ?_
  refine lv_iload_n hx hb d_Rg_keep_91 rfl (lv_at hl 2 rfl) ?_
  refine lv_aload_n hx hb d_Rg_keep_92 rfl (lv_at hl 3 rfl) ?_
  refine va_get (D := D) (ci := 1) (v := .int (iZ sx)) (C := R_Ra) (T := F_Ra) (N := 3) hx hb hts i_Ra hown hK hP 0 rfl rfl 0 (by decide) (hts _ (big_in mw_190 rfl)) (fun _ h9 => h9) rfl d_Rg_keep_93 ?_
  refine zz_iast hx hb hK hP hD hS 10 0 rfl rfl (r) (by omega) (by omega) (by omega) d_Rg_keep_96 (fun H locs hP hD hS => ?_)
  have hP : va_P D cls0 [(ra, .inr (1, [.int (iZ sx), .ref h1, .ref h2])), (h1, .inr (0, [.ref a1, .int (iZ (k1 : Int))])), (a1, .inl (cI, n, .inl f1)), (h2, .inr (0, [.ref a2, .int (iZ (k2 : Int))])), (a2, .inl (cI, n, .inl f2)), (hg, .inr (4, [.ref ap, .ref af, .ref aT, .ref aB, .ref aS, .int (iZ (t2 : Int))])), (ap, .inl (cI, np, .inl (va_cpy fp fp (F r + (lm (tv r) + lm (bv r))) (F r) (tk - (F r + (lm (tv r) + lm (bv r))))))), (af, .inl (cI, 32, .inl (upd gfo r (iZ (t2 : Int))))), (aT, .inl (cI, 32, .inl (upd ft r (iZ (k1 : Int))))), (aB, .inl (cI, 32, .inl (upd fb r (iZ (k2 : Int))))), (aS, .inl (cI, 32, .inl (upd fs r (iZ sx))))] H := hP
  have hD : va_D A [(ra, .inr (1, [.int (iZ sx), .ref h1, .ref h2])), (h1, .inr (0, [.ref a1, .int (iZ (k1 : Int))])), (a1, .inl (cI, n, .inl f1)), (h2, .inr (0, [.ref a2, .int (iZ (k2 : Int))])), (a2, .inl (cI, n, .inl f2)), (hg, .inr (4, [.ref ap, .ref af, .ref aT, .ref aB, .ref aS, .int (iZ (t2 : Int))])), (ap, .inl (cI, np, .inl (va_cpy fp fp (F r + (lm (tv r) + lm (bv r))) (F r) (tk - (F r + (lm (tv r) + lm (bv r))))))), (af, .inl (cI, 32, .inl (upd gfo r (iZ (t2 : Int))))), (aT, .inl (cI, 32, .inl (upd ft r (iZ (k1 : Int))))), (aB, .inl (cI, 32, .inl (upd fb r (iZ (k2 : Int))))), (aS, .inl (cI, 32, .inl (upd fs r (iZ sx))))] := hD
  refine lv_aload_n hx hb d_Rg_keep_97 rfl (lv_at hl 3 rfl) ?_
  refine va_get (D := D) (ci := 1) (v := .ref h1) (C := R_Ra) (T := F_Ra) (N := 3) hx hb hts i_Ra hown hK hP 0 rfl rfl 1 (by decide) (hts _ (big_in mw_196 rfl)) (fun _ h9 => h9) rfl d_Rg_keep_98 ?_
  refine va_get (D := D) (ci := 0) (v := .ref a1) (C := R_Wh) (T := F_Wh) (N := 2) hx hb hts i_Wh hown hK hP 1 rfl rfl 0 (by decide) (hts _ (big_in mw_92 rfl)) (fun _ h9 => h9) rfl d_Rg_keep_101 ?_
  refine lv_iconst (v := iZ (0)) hx hb d_Rg_keep_104 (by decide +kernel) ?_
  refine lv_aload_n hx hb d_Rg_keep_105 rfl (lv_at hl 1 rfl) ?_
  refine va_get (D := D) (ci := 4) (v := .ref ap) (C := R_Rg) (T := F_Rg) (N := 6) hx hb hts i_Rg hown hK hP 5 rfl rfl 0 (by decide) (hts _ (big_in mw_50 rfl)) (fun _ h9 => h9) rfl d_Rg_keep_106 ?_
  refine lv_aload_n hx hb d_Rg_keep_109 rfl (lv_at hl 1 rfl) ?_
  refine va_get (D := D) (ci := 4) (v := .int (iZ (t2 : Int))) (C := R_Rg) (T := F_Rg) (N := 6) hx hb hts i_Rg hown hK hP 5 rfl rfl 5 (by decide) (hts _ (big_in mw_55 rfl)) (fun _ h9 => h9) rfl d_Rg_keep_110 ?_
  refine lv_aload_n hx hb d_Rg_keep_113 rfl (lv_at hl 3 rfl) ?_
  refine va_get (D := D) (ci := 1) (v := .ref h1) (C := R_Ra) (T := F_Ra) (N := 3) hx hb hts i_Ra hown hK hP 0 rfl rfl 1 (by decide) (hts _ (big_in mw_196 rfl)) (fun _ h9 => h9) rfl d_Rg_keep_114 ?_
  refine va_get (D := D) (ci := 0) (v := .int (iZ (k1 : Int))) (C := R_Wh) (T := F_Wh) (N := 2) hx hb hts i_Wh hown hK hP 1 rfl rfl 1 (by decide) (hts _ (big_in mw_98 rfl)) (fun _ h9 => h9) rfl d_Rg_keep_117 ?_
  refine zz_copyi hx hb (hml.trans hl.1.symm) hown (hts _ (big_in mw_805 rfl)) (hts _ (big_in mw_425 rfl)) (hts _ (big_in mw_424 rfl)) (hts _ (big_in mw_17 rfl)) hK hP hD hS 2 6 0 0 rfl rfl rfl rfl rfl 0 t2 k1 (by omega) (by omega) (by omega) (by omega) (by omega) (by omega) (by omega) (fun _ _ => rfl) (by rw [hR]; exact Nat.le_of_ble_eq_true rfl) (by rw [hR]; decide +kernel) d_Rg_keep_120 (fun H locs hP hD hS => ?_)
  have hP : va_P D cls0 [(ra, .inr (1, [.int (iZ sx), .ref h1, .ref h2])), (h1, .inr (0, [.ref a1, .int (iZ (k1 : Int))])), (a1, .inl (cI, n, .inl f1)), (h2, .inr (0, [.ref a2, .int (iZ (k2 : Int))])), (a2, .inl (cI, n, .inl f2)), (hg, .inr (4, [.ref ap, .ref af, .ref aT, .ref aB, .ref aS, .int (iZ (t2 : Int))])), (ap, .inl (cI, np, .inl (va_cpy f1 (va_cpy fp fp (F r + (lm (tv r) + lm (bv r))) (F r) (tk - (F r + (lm (tv r) + lm (bv r))))) 0 t2 k1))), (af, .inl (cI, 32, .inl (upd gfo r (iZ (t2 : Int))))), (aT, .inl (cI, 32, .inl (upd ft r (iZ (k1 : Int))))), (aB, .inl (cI, 32, .inl (upd fb r (iZ (k2 : Int))))), (aS, .inl (cI, 32, .inl (upd fs r (iZ sx))))] H := hP
  have hD : va_D A [(ra, .inr (1, [.int (iZ sx), .ref h1, .ref h2])), (h1, .inr (0, [.ref a1, .int (iZ (k1 : Int))])), (a1, .inl (cI, n, .inl f1)), (h2, .inr (0, [.ref a2, .int (iZ (k2 : Int))])), (a2, .inl (cI, n, .inl f2)), (hg, .inr (4, [.ref ap, .ref af, .ref aT, .ref aB, .ref aS, .int (iZ (t2 : Int))])), (ap, .inl (cI, np, .inl (va_cpy f1 (va_cpy fp fp (F r + (lm (tv r) + lm (bv r))) (F r) (tk - (F r + (lm (tv r) + lm (bv r))))) 0 t2 k1))), (af, .inl (cI, 32, .inl (upd gfo r (iZ (t2 : Int))))), (aT, .inl (cI, 32, .inl (upd ft r (iZ (k1 : Int))))), (aB, .inl (cI, 32, .inl (upd fb r (iZ (k2 : Int))))), (aS, .inl (cI, 32, .inl (upd fs r (iZ sx))))] := hD
  refine lv_aload_n hx hb d_Rg_keep_123 rfl (lv_at hl 3 rfl) ?_
  refine va_get (D := D) (ci := 1) (v := .ref h2) (C := R_Ra) (T := F_Ra) (N := 3) hx hb hts i_Ra hown hK hP 0 rfl rfl 2 (by decide) (hts _ (big_in mw_202 rfl)) (fun _ h9 => h9) rfl d_Rg_keep_124 ?_
  refine va_get (D := D) (ci := 0) (v := .ref a2) (C := R_Wh) (T := F_Wh) (N := 2) hx hb hts i_Wh hown hK hP 3 rfl rfl 0 (by decide) (hts _ (big_in mw_92 rfl)) (fun _ h9 => h9) rfl d_Rg_keep_127 ?_
  refine lv_iconst (v := iZ (0)) hx hb d_Rg_keep_130 (by decide +kernel) ?_
  refine lv_aload_n hx hb d_Rg_keep_131 rfl (lv_at hl 1 rfl) ?_
  refine va_get (D := D) (ci := 4) (v := .ref ap) (C := R_Rg) (T := F_Rg) (N := 6) hx hb hts i_Rg hown hK hP 5 rfl rfl 0 (by decide) (hts _ (big_in mw_50 rfl)) (fun _ h9 => h9) rfl d_Rg_keep_132 ?_
  refine lv_aload_n hx hb d_Rg_keep_135 rfl (lv_at hl 1 rfl) ?_
  refine va_get (D := D) (ci := 4) (v := .int (iZ (t2 : Int))) (C := R_Rg) (T := F_Rg) (N := 6) hx hb hts i_Rg hown hK hP 5 rfl rfl 5 (by decide) (hts _ (big_in mw_55 rfl)) (fun _ h9 => h9) rfl d_Rg_keep_136 ?_
  refine lv_aload_n hx hb d_Rg_keep_139 rfl (lv_at hl 3 rfl) ?_
  refine va_get (D := D) (ci := 1) (v := .ref h1) (C := R_Ra) (T := F_Ra) (N := 3) hx hb hts i_Ra hown hK hP 0 rfl rfl 1 (by decide) (hts _ (big_in mw_196 rfl)) (fun _ h9 => h9) rfl d_Rg_keep_140 ?_
  refine va_get (D := D) (ci := 0) (v := .int (iZ (k1 : Int))) (C := R_Wh) (T := F_Wh) (N := 2) hx hb hts i_Wh hown hK hP 1 rfl rfl 1 (by decide) (hts _ (big_in mw_98 rfl)) (fun _ h9 => h9) rfl d_Rg_keep_143 ?_
  refine zz_iadd hx hb d_Rg_keep_146 ?_
  refine lv_aload_n hx hb d_Rg_keep_147 rfl (lv_at hl 3 rfl) ?_
  refine va_get (D := D) (ci := 1) (v := .ref h2) (C := R_Ra) (T := F_Ra) (N := 3) hx hb hts i_Ra hown hK hP 0 rfl rfl 2 (by decide) (hts _ (big_in mw_202 rfl)) (fun _ h9 => h9) rfl d_Rg_keep_148 ?_
  refine va_get (D := D) (ci := 0) (v := .int (iZ (k2 : Int))) (C := R_Wh) (T := F_Wh) (N := 2) hx hb hts i_Wh hown hK hP 3 rfl rfl 1 (by decide) (hts _ (big_in mw_98 rfl)) (fun _ h9 => h9) rfl d_Rg_keep_151 ?_
  refine zz_copyi hx hb (hml.trans hl.1.symm) hown (hts _ (big_in mw_805 rfl)) (hts _ (big_in mw_425 rfl)) (hts _ (big_in mw_424 rfl)) (hts _ (big_in mw_17 rfl)) hK hP hD hS 4 6 0 0 rfl rfl rfl rfl rfl 0 (t2 + k1) k2 (by omega) (by omega) (by omega) (by omega) (by omega) (by omega) (by omega) (fun _ _ => rfl) (by rw [hR]; exact Nat.le_of_ble_eq_true rfl) (by rw [hR]; decide +kernel) d_Rg_keep_154 (fun H locs hP hD hS => ?_)
  have hP : va_P D cls0 [(ra, .inr (1, [.int (iZ sx), .ref h1, .ref h2])), (h1, .inr (0, [.ref a1, .int (iZ (k1 : Int))])), (a1, .inl (cI, n, .inl f1)), (h2, .inr (0, [.ref a2, .int (iZ (k2 : Int))])), (a2, .inl (cI, n, .inl f2)), (hg, .inr (4, [.ref ap, .ref af, .ref aT, .ref aB, .ref aS, .int (iZ (t2 : Int))])), (ap, .inl (cI, np, .inl (va_cpy f2 (va_cpy f1 (va_cpy fp fp (F r + (lm (tv r) + lm (bv r))) (F r) (tk - (F r + (lm (tv r) + lm (bv r))))) 0 t2 k1) 0 (t2 + k1) k2))), (af, .inl (cI, 32, .inl (upd gfo r (iZ (t2 : Int))))), (aT, .inl (cI, 32, .inl (upd ft r (iZ (k1 : Int))))), (aB, .inl (cI, 32, .inl (upd fb r (iZ (k2 : Int))))), (aS, .inl (cI, 32, .inl (upd fs r (iZ sx))))] H := hP
  have hD : va_D A [(ra, .inr (1, [.int (iZ sx), .ref h1, .ref h2])), (h1, .inr (0, [.ref a1, .int (iZ (k1 : Int))])), (a1, .inl (cI, n, .inl f1)), (h2, .inr (0, [.ref a2, .int (iZ (k2 : Int))])), (a2, .inl (cI, n, .inl f2)), (hg, .inr (4, [.ref ap, .ref af, .ref aT, .ref aB, .ref aS, .int (iZ (t2 : Int))])), (ap, .inl (cI, np, .inl (va_cpy f2 (va_cpy f1 (va_cpy fp fp (F r + (lm (tv r) + lm (bv r))) (F r) (tk - (F r + (lm (tv r) + lm (bv r))))) 0 t2 k1) 0 (t2 + k1) k2))), (af, .inl (cI, 32, .inl (upd gfo r (iZ (t2 : Int))))), (aT, .inl (cI, 32, .inl (upd ft r (iZ (k1 : Int))))), (aB, .inl (cI, 32, .inl (upd fb r (iZ (k2 : Int))))), (aS, .inl (cI, 32, .inl (upd fs r (iZ sx))))] := hD
  refine lv_aload_n hx hb d_Rg_keep_157 rfl (lv_at hl 1 rfl) ?_
  refine lv_dup hx hb d_Rg_keep_158 rfl ?_
  refine va_get (D := D) (ci := 4) (v := .int (iZ (t2 : Int))) (C := R_Rg) (T := F_Rg) (N := 6) hx hb hts i_Rg hown hK hP 5 rfl rfl 5 (by decide) (hts _ (big_in mw_55 rfl)) (fun _ h9 => h9) rfl d_Rg_keep_159 ?_
  refine lv_iload_n hx hb d_Rg_keep_162 rfl (lv_at hl 0 rfl) ?_
  refine zz_iadd hx hb d_Rg_keep_163 ?_
  refine va_put (D := D) (ci := 4) (v := .int (iZ ((t2 : Int) + ((k1 : Int) + (k2 : Int))))) (ty := .int) (C := R_Rg) (T := F_Rg) (N := 6) hx hb hts i_Rg t_Rg t_Rg_ok n_Rg hown hK hP hD hS 5 rfl rfl 5 (by decide) (hts _ (big_in mw_55 rfl)) (fun _ h9 => h9) rfl (by decide +kernel) rfl rfl (Nat.le_of_ble_eq_true rfl) d_Rg_keep_164 (fun H locs hP hD hS => ?_)
  have hP : va_P D cls0 [(ra, .inr (1, [.int (iZ sx), .ref h1, .ref h2])), (h1, .inr (0, [.ref a1, .int (iZ (k1 : Int))])), (a1, .inl (cI, n, .inl f1)), (h2, .inr (0, [.ref a2, .int (iZ (k2 : Int))])), (a2, .inl (cI, n, .inl f2)), (hg, .inr (4, [.ref ap, .ref af, .ref aT, .ref aB, .ref aS, .int (iZ ((t2 : Int) + ((k1 : Int) + (k2 : Int))))])), (ap, .inl (cI, np, .inl (va_cpy f2 (va_cpy f1 (va_cpy fp fp (F r + (lm (tv r) + lm (bv r))) (F r) (tk - (F r + (lm (tv r) + lm (bv r))))) 0 t2 k1) 0 (t2 + k1) k2))), (af, .inl (cI, 32, .inl (upd gfo r (iZ (t2 : Int))))), (aT, .inl (cI, 32, .inl (upd ft r (iZ (k1 : Int))))), (aB, .inl (cI, 32, .inl (upd fb r (iZ (k2 : Int))))), (aS, .inl (cI, 32, .inl (upd fs r (iZ sx))))] H := hP
  have hD : va_D A [(ra, .inr (1, [.int (iZ sx), .ref h1, .ref h2])), (h1, .inr (0, [.ref a1, .int (iZ (k1 : Int))])), (a1, .inl (cI, n, .inl f1)), (h2, .inr (0, [.ref a2, .int (iZ (k2 : Int))])), (a2, .inl (cI, n, .inl f2)), (hg, .inr (4, [.ref ap, .ref af, .ref aT, .ref aB, .ref aS, .int (iZ ((t2 : Int) + ((k1 : Int) + (k2 : Int))))])), (ap, .inl (cI, np, .inl (va_cpy f2 (va_cpy f1 (va_cpy fp fp (F r + (lm (tv r) + lm (bv r))) (F r) (tk - (F r + (lm (tv r) + lm (bv r))))) 0 t2 k1) 0 (t2 + k1) k2))), (af, .inl (cI, 32, .inl (upd gfo r (iZ (t2 : Int))))), (aT, .inl (cI, 32, .inl (upd ft r (iZ (k1 : Int))))), (aB, .inl (cI, 32, .inl (upd fb r (iZ (k2 : Int))))), (aS, .inl (cI, 32, .inl (upd fs r (iZ sx))))] := hD
  refine lv_iload_n hx hb d_Rg_keep_167 rfl (lv_at hl 0 rfl) ?_
  rw [show ((t2 : Int) + ((k1 : Int) + (k2 : Int)) : Int) = (t2 + (k1 + k2) : Int) by omega] at hP hD
  have hP9 : va_P D cls0 [(hg, .inr (4, [.ref ap, .ref af, .ref aT, .ref aB, .ref aS, .int (iZ (t2 + (k1 + k2) : Int))])), (ap, .inl (cI, np, .inl (va_cpy f2 (va_cpy f1 (va_cpy fp fp (F r + (lm (tv r) + lm (bv r))) (F r) (tk - (F r + (lm (tv r) + lm (bv r))))) 0 t2 k1) 0 (t2 + k1) k2))), (af, .inl (cI, 32, .inl (upd gfo r (iZ (t2 : Int))))), (aT, .inl (cI, 32, .inl (upd ft r (iZ (k1 : Int))))), (aB, .inl (cI, 32, .inl (upd fb r (iZ (k2 : Int))))), (aS, .inl (cI, 32, .inl (upd fs r (iZ sx)))), (ra, .inr (1, [.int (iZ sx), .ref h1, .ref h2])), (h1, .inr (0, [.ref a1, .int (iZ (k1 : Int))])), (a1, .inl (cI, n, .inl f1)), (h2, .inr (0, [.ref a2, .int (iZ (k2 : Int))])), (a2, .inl (cI, n, .inl f2))] H := hP.sub [5, 6, 7, 8, 9, 10, 0, 1, 2, 3, 4] rfl
  have hD9 : va_D A [(hg, .inr (4, [.ref ap, .ref af, .ref aT, .ref aB, .ref aS, .int (iZ (t2 + (k1 + k2) : Int))])), (ap, .inl (cI, np, .inl (va_cpy f2 (va_cpy f1 (va_cpy fp fp (F r + (lm (tv r) + lm (bv r))) (F r) (tk - (F r + (lm (tv r) + lm (bv r))))) 0 t2 k1) 0 (t2 + k1) k2))), (af, .inl (cI, 32, .inl (upd gfo r (iZ (t2 : Int))))), (aT, .inl (cI, 32, .inl (upd ft r (iZ (k1 : Int))))), (aB, .inl (cI, 32, .inl (upd fb r (iZ (k2 : Int))))), (aS, .inl (cI, 32, .inl (upd fs r (iZ sx)))), (ra, .inr (1, [.int (iZ sx), .ref h1, .ref h2])), (h1, .inr (0, [.ref a1, .int (iZ (k1 : Int))])), (a1, .inl (cI, n, .inl f1)), (h2, .inr (0, [.ref a2, .int (iZ (k2 : Int))])), (a2, .inl (cI, n, .inl f2))] := hD.sub [5, 6, 7, 8, 9, 10, 0, 1, 2, 3, 4] (by decide) rfl
  rw [hQ, ← hAe]
  refine r_i (v := (iZ ((k1 : Int) + (k2 : Int)))) K (va_cpy f2 (va_cpy f1 (va_cpy fp fp (F r + (lm (tv r) + lm (bv r))) (F r) (tk - (F r + (lm (tv r) + lm (bv r))))) 0 t2 k1) 0 (t2 + k1) k2, upd gfo r (iZ (t2 : Int)), upd ft r (iZ (k1 : Int)), upd fb r (iZ (k2 : Int)), upd fs r (iZ sx), t2 + (k1 + k2), up (fun q => (if F r + (lm (tv r) + lm (bv r)) ≤ F q then F q - (lm (tv r) + lm (bv r)) else F q )) r t2) hS d_Rg_keep_168 ?_ (fun t ht hv => ?_)
  · try dsimp only
    exact ⟨rfl, RgI.keep hr I r1 r2 h20 gt1 (by omega) gt2⟩
  · exact ⟨by rw [ht]; exact hP9, va_K.moved hv hK, by rw [← hAe]; exact hD9⟩
