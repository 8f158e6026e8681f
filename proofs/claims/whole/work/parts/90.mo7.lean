set_option maxHeartbeats 4000000 in
set_option maxRecDepth 100000 in
/-- isRegister(r) -/
theorem c_Mo_isRegister (l : Launch) (D : va_G) (z : Int) (sz : Nat) (hz : -2147483648 ≤ z ∧ z < 2147483648) : Met l y_Mo_isRegister (wsB y_Mo_isRegister b_Mo_isRegister 1 (some .boolean)) ({ frames := 0, cells := 0, slots := 0, locals := 0 }) (va_Pc [.int (iZ z)] (wPre D [] [] sz)) (va_QV (fun (v_9 : Option Value) (u_9 : Int) => v_9 = some (.int (iZ u_9)) ∧ ((0 ≤ z ∧ z < 32 ∧ u_9 = 1) ∨ ((z < 0 ∨ 32 ≤ z) ∧ u_9 = 0))) (fun u_9 => wPost D [] [] [] sz) (va_A [] sz)) 0 0 (va_A [] sz) := by
  refine met_enter (by decide +kernel) (Nat.le_of_ble_eq_true rfl) ?_
  intro p e s m args below meth c ls A R Q H locs K hin hAe hA hR hQ hP hK hD hS hl
  obtain ⟨hx, hb, hml, hrt, hlk, hts, hown, hno⟩ := id K
  have hl : lv_has ls 1 [(0, .int (iZ z))] := hl
  refine lv_iload_n hx hb d_Mo_isRegister_0 rfl (lv_at hl 0 rfl) ?_
  refine zz_if_lt (tgt := 14) hx hb d_Mo_isRegister_1 (by decide) (by omega) (fun c1 => ?_) (fun c1 => ?_)
  · refine lv_iconst (v := iZ (0)) hx hb d_Mo_isRegister_14 (by decide +kernel) ?_
    have hP9 : va_P D cls0 [] H := hP.sub [] rfl
    have hD9 : va_D A [] := hD.sub [] (by decide) rfl
    rw [hQ, ← hAe]
    refine r_z (v := (iZ 0)) K 0 hS rfl d_Mo_isRegister_15 ?_ (fun t ht hv => ?_)
    · refine ⟨rfl, ?_⟩
      omega
    · exact ⟨by rw [ht]; exact hP9, va_K.moved hv hK, by rw [← hAe]; exact hD9⟩
  · refine lv_iload_n hx hb d_Mo_isRegister_4 rfl (lv_at hl 0 rfl) ?_
    refine lv_bipush (v := iZ (32)) hx hb d_Mo_isRegister_5 (by decide +kernel) ?_
    refine zz_icmp_ge (tgt := 14) hx hb d_Mo_isRegister_7 (by decide) (by omega) (by omega) (fun c7 => ?_) (fun c7 => ?_)
    · refine lv_iconst (v := iZ (0)) hx hb d_Mo_isRegister_14 (by decide +kernel) ?_
      have hP9 : va_P D cls0 [] H := hP.sub [] rfl
      have hD9 : va_D A [] := hD.sub [] (by decide) rfl
      rw [hQ, ← hAe]
      refine r_z (v := (iZ 0)) K 0 hS rfl d_Mo_isRegister_15 ?_ (fun t ht hv => ?_)
      · refine ⟨rfl, ?_⟩
        omega
      · exact ⟨by rw [ht]; exact hP9, va_K.moved hv hK, by rw [← hAe]; exact hD9⟩
    · refine lv_iconst (v := iZ (1)) hx hb d_Mo_isRegister_10 (by decide +kernel) ?_
      refine lv_goto (tgt := 15) hx hb d_Mo_isRegister_11 (by decide) ?_
      have hP9 : va_P D cls0 [] H := hP.sub [] rfl
      have hD9 : va_D A [] := hD.sub [] (by decide) rfl
      rw [hQ, ← hAe]
      refine r_z (v := (iZ 1)) K 1 hS rfl d_Mo_isRegister_15 ?_ (fun t ht hv => ?_)
      · refine ⟨rfl, ?_⟩
        omega
      · exact ⟨by rw [ht]; exact hP9, va_K.moved hv hK, by rw [← hAe]; exact hD9⟩
set_option maxHeartbeats 4000000 in
set_option maxRecDepth 100000 in
/-- refuses(c) -/
theorem c_Mo_refuses (l : Launch) (D : va_G) (mo : Nat) (qc : Int32) (np : Nat) (ow : Nat) (om : Nat) (ok_ : Nat) (oK : Nat) (og : Nat) (on_ : Nat) (oh : Nat) (ox : Nat) (qn : Int32) (qf : Int32) (op_ : Nat) (ql : Int32) (z : Int) (sz : Nat) (hz : -2147483648 ≤ z ∧ z < 2147483648) : Met l y_Mo_refuses (wsB y_Mo_refuses b_Mo_refuses 2 (some .boolean)) ({ frames := 0, cells := 0, slots := 0, locals := 0 }) (va_Pc [.ref mo, .int (iZ z)] (wPre D [] [(mo, .inr (8, [.int qc, .int (iZ (np : Int)), .ref ow, .ref om, .ref ok_, .ref oK, .ref og, .ref on_, .ref oh, .ref ox, .int qn, .int qf, .ref op_, .int ql]))] sz)) (va_QV (fun (v_9 : Option Value) (u_9 : Int) => v_9 = some (.int (iZ u_9)) ∧ ((0 < z ∧ u_9 = 1) ∨ (z ≤ 0 ∧ u_9 = 0))) (fun u_9 => wPost D [] [(mo, .inr (8, [.int qc, .int (iZ (np : Int)), .ref ow, .ref om, .ref ok_, .ref oK, .ref og, .ref on_, .ref oh, .ref ox, .int qn, .int qf, .ref op_, .int ql]))] [(mo, .inr (8, [.int (iZ z), .int (iZ (np : Int)), .ref ow, .ref om, .ref ok_, .ref oK, .ref og, .ref on_, .ref oh, .ref ox, .int qn, .int qf, .ref op_, .int ql]))] sz) (va_A [(mo, .inr (8, [.int qc, .int (iZ (np : Int)), .ref ow, .ref om, .ref ok_, .ref oK, .ref og, .ref on_, .ref oh, .ref ox, .int qn, .int qf, .ref op_, .int ql]))] sz)) 0 0 (va_A [(mo, .inr (8, [.int qc, .int (iZ (np : Int)), .ref ow, .ref om, .ref ok_, .ref oK, .ref og, .ref on_, .ref oh, .ref ox, .int qn, .int qf, .ref op_, .int ql]))] sz) := by
  refine met_enter (by decide +kernel) (Nat.le_of_ble_eq_true rfl) ?_
  intro p e s m args below meth c ls A R Q H locs K hin hAe hA hR hQ hP hK hD hS hl
  obtain ⟨hx, hb, hml, hrt, hlk, hts, hown, hno⟩ := id K
  have hl : lv_has ls 2 [(0, .ref mo), (1, .int (iZ z))] := hl
  refine lv_aload_n hx hb d_Mo_refuses_0 rfl (lv_at hl 0 rfl) ?_
  refine lv_iload_n hx hb d_Mo_refuses_1 rfl (lv_at hl 1 rfl) ?_
  refine va_put (D := D) (ci := 8) (v := .int (iZ z)) (ty := .int) (C := R_Mo) (T := F_Mo) (N := 14) hx hb hts i_Mo t_Mo t_Mo_ok n_Mo hown hK hP hD hS 0 rfl rfl 0 (by decide) (hts _ (big_in mw_1115 rfl)) (fun _ h9 => h9) rfl (by decide +kernel) rfl rfl (Nat.le_of_ble_eq_true rfl) d_Mo_refuses_2 (fun H locs hP hD hS => ?_)
  have hP : va_P D cls0 [(mo, .inr (8, [.int (iZ z), .int (iZ (np : Int)), .ref ow, .ref om, .ref ok_, .ref oK, .ref og, .ref on_, .ref oh, .ref ox, .int qn, .int qf, .ref op_, .int ql]))] H := hP
  have hD : va_D A [(mo, .inr (8, [.int (iZ z), .int (iZ (np : Int)), .ref ow, .ref om, .ref ok_, .ref oK, .ref og, .ref on_, .ref oh, .ref ox, .int qn, .int qf, .ref op_, .int ql]))] := hD
  refine lv_iload_n hx hb d_Mo_refuses_5 rfl (lv_at hl 1 rfl) ?_
  refine zz_if_le (tgt := 13) hx hb d_Mo_refuses_6 (by decide) (by omega) (fun c6 => ?_) (fun c6 => ?_)
  · refine lv_iconst (v := iZ (0)) hx hb d_Mo_refuses_13 (by decide +kernel) ?_
    have hP9 : va_P D cls0 [(mo, .inr (8, [.int (iZ z), .int (iZ (np : Int)), .ref ow, .ref om, .ref ok_, .ref oK, .ref og, .ref on_, .ref oh, .ref ox, .int qn, .int qf, .ref op_, .int ql]))] H := hP.sub [0] rfl
    have hD9 : va_D A [(mo, .inr (8, [.int (iZ z), .int (iZ (np : Int)), .ref ow, .ref om, .ref ok_, .ref oK, .ref og, .ref on_, .ref oh, .ref ox, .int qn, .int qf, .ref op_, .int ql]))] := hD.sub [0] (by decide) rfl
    rw [hQ, ← hAe]
    refine r_z (v := (iZ 0)) K 0 hS rfl d_Mo_refuses_14 ?_ (fun t ht hv => ?_)
    · refine ⟨rfl, ?_⟩
      omega
    · exact ⟨by rw [ht]; exact hP9, va_K.moved hv hK, by rw [← hAe]; exact hD9⟩
  · refine lv_iconst (v := iZ (1)) hx hb d_Mo_refuses_9 (by decide +kernel) ?_
    refine lv_goto (tgt := 14) hx hb d_Mo_refuses_10 (by decide) ?_
    have hP9 : va_P D cls0 [(mo, .inr (8, [.int (iZ z), .int (iZ (np : Int)), .ref ow, .ref om, .ref ok_, .ref oK, .ref og, .ref on_, .ref oh, .ref ox, .int qn, .int qf, .ref op_, .int ql]))] H := hP.sub [0] rfl
    have hD9 : va_D A [(mo, .inr (8, [.int (iZ z), .int (iZ (np : Int)), .ref ow, .ref om, .ref ok_, .ref oK, .ref og, .ref on_, .ref oh, .ref ox, .int qn, .int qf, .ref op_, .int ql]))] := hD.sub [0] (by decide) rfl
    rw [hQ, ← hAe]
    refine r_z (v := (iZ 1)) K 1 hS rfl d_Mo_refuses_14 ?_ (fun t ht hv => ?_)
    · refine ⟨rfl, ?_⟩
      omega
    · exact ⟨by rw [ht]; exact hP9, va_K.moved hv hK, by rw [← hAe]; exact hD9⟩
set_option maxHeartbeats 4000000 in
set_option maxRecDepth 100000 in
/-- thrown() -/
theorem c_Mo_thrown (l : Launch) (D : va_G) (mo : Nat) (qc : Int32) (np : Nat) (ow : Nat) (om : Nat) (ok_ : Nat) (oK : Nat) (og : Nat) (on_ : Nat) (oh : Nat) (ox : Nat) (qn : Int32) (qf : Int32) (op_ : Nat) (ql : Int32) (sz : Nat) : Met l y_Mo_thrown (wsB y_Mo_thrown b_Mo_thrown 1 (some .int)) ({ frames := 0, cells := 0, slots := 0, locals := 0 }) (va_Pc [.ref mo] (wPre D [] [(mo, .inr (8, [.int qc, .int (iZ (np : Int)), .ref ow, .ref om, .ref ok_, .ref oK, .ref og, .ref on_, .ref oh, .ref ox, .int qn, .int qf, .ref op_, .int ql]))] sz)) (va_QV (fun (v_9 : Option Value) (u_9 : Unit) => v_9 = some (.int qc)) (fun u_9 => wPost D [] [(mo, .inr (8, [.int qc, .int (iZ (np : Int)), .ref ow, .ref om, .ref ok_, .ref oK, .ref og, .ref on_, .ref oh, .ref ox, .int qn, .int qf, .ref op_, .int ql]))] [(mo, .inr (8, [.int qc, .int (iZ (np : Int)), .ref ow, .ref om, .ref ok_, .ref oK, .ref og, .ref on_, .ref oh, .ref ox, .int qn, .int qf, .ref op_, .int ql]))] sz) (va_A [(mo, .inr (8, [.int qc, .int (iZ (np : Int)), .ref ow, .ref om, .ref ok_, .ref oK, .ref og, .ref on_, .ref oh, .ref ox, .int qn, .int qf, .ref op_, .int ql]))] sz)) 0 0 (va_A [(mo, .inr (8, [.int qc, .int (iZ (np : Int)), .ref ow, .ref om, .ref ok_, .ref oK, .ref og, .ref on_, .ref oh, .ref ox, .int qn, .int qf, .ref op_, .int ql]))] sz) := by
  refine met_enter (by decide +kernel) (Nat.le_of_ble_eq_true rfl) ?_
  intro p e s m args below meth c ls A R Q H locs K hin hAe hA hR hQ hP hK hD hS hl
  obtain ⟨hx, hb, hml, hrt, hlk, hts, hown, hno⟩ := id K
  have hl : lv_has ls 1 [(0, .ref mo)] := hl
  refine lv_aload_n hx hb d_Mo_thrown_0 rfl (lv_at hl 0 rfl) ?_
  refine va_get (D := D) (ci := 8) (v := .int qc) (C := R_Mo) (T := F_Mo) (N := 14) hx hb hts i_Mo hown hK hP 0 rfl rfl 0 (by decide) (hts _ (big_in mw_1115 rfl)) (fun _ h9 => h9) rfl d_Mo_thrown_1 ?_
  have hP9 : va_P D cls0 [(mo, .inr (8, [.int qc, .int (iZ (np : Int)), .ref ow, .ref om, .ref ok_, .ref oK, .ref og, .ref on_, .ref oh, .ref ox, .int qn, .int qf, .ref op_, .int ql]))] H := hP.sub [0] rfl
  have hD9 : va_D A [(mo, .inr (8, [.int qc, .int (iZ (np : Int)), .ref ow, .ref om, .ref ok_, .ref oK, .ref og, .ref on_, .ref oh, .ref ox, .int qn, .int qf, .ref op_, .int ql]))] := hD.sub [0] (by decide) rfl
  rw [hQ, ← hAe]
  refine r_i (v := qc) K () hS d_Mo_thrown_4 ?_ (fun t ht hv => ?_)
  · exact rfl
  · exact ⟨by rw [ht]; exact hP9, va_K.moved hv hK, by rw [← hAe]; exact hD9⟩
set_option maxHeartbeats 4000000 in
set_option maxRecDepth 100000 in
/-- common(Z, Y) -/
theorem c_Mo_common (l : Launch) (D : va_G) (mo : Nat) (qc : Int32) (np : Nat) (ow : Nat) (om : Nat) (ok_ : Nat) (oK : Nat) (og : Nat) (on_ : Nat) (oh : Nat) (ox : Nat) (qn : Int32) (qf : Int32) (op_ : Nat) (ql : Int32) (fw : Nat → Int32) (fm : Nat → Int32) (cI : ClassId) (val : Nat → Nat) (sz : Nat) (hW : WB fw fm val) (hc6 : nd (val 6) < 12000) (hc5 : nd (val 5) < 12000) : Met l y_Mo_common (wsB y_Mo_common b_Mo_common 3 none) ({ frames := 2, cells := 0, slots := 0, locals := 60 }) (va_Pc [.ref mo, .int (iZ 6), .int (iZ 5)] (wPre D [(cI, .int)] [(mo, .inr (8, [.int qc, .int (iZ (np : Int)), .ref ow, .ref om, .ref ok_, .ref oK, .ref og, .ref on_, .ref oh, .ref ox, .int qn, .int qf, .ref op_, .int ql])), (ow, .inl (cI, 108000, .inl fw)), (om, .inl (cI, 9, .inl fm))] sz)) (va_QV (fun (v_9 : Option Value) (u_9 : (Nat → Int32) × (Nat → Int32) × (Nat → Nat)) => v_9 = none ∧ (WB u_9.1 u_9.2.1 u_9.2.2) ∧ (u_9.2.2 7 = Nat.gcd (val 6) (val 5)) ∧ (∀ i, i < 5 → u_9.2.2 i = val i)) (fun u_9 => wPost D [(cI, .int)] [(mo, .inr (8, [.int qc, .int (iZ (np : Int)), .ref ow, .ref om, .ref ok_, .ref oK, .ref og, .ref on_, .ref oh, .ref ox, .int qn, .int qf, .ref op_, .int ql])), (ow, .inl (cI, 108000, .inl fw)), (om, .inl (cI, 9, .inl fm))] [(mo, .inr (8, [.int qc, .int (iZ (np : Int)), .ref ow, .ref om, .ref ok_, .ref oK, .ref og, .ref on_, .ref oh, .ref ox, .int qn, .int qf, .ref op_, .int ql])), (ow, .inl (cI, 108000, .inl u_9.1)), (om, .inl (cI, 9, .inl u_9.2.1))] sz) (va_A [(mo, .inr (8, [.int qc, .int (iZ (np : Int)), .ref ow, .ref om, .ref ok_, .ref oK, .ref og, .ref on_, .ref oh, .ref ox, .int qn, .int qf, .ref op_, .int ql])), (ow, .inl (cI, 108000, .inl fw)), (om, .inl (cI, 9, .inl fm))] sz)) 0 0 (va_A [(mo, .inr (8, [.int qc, .int (iZ (np : Int)), .ref ow, .ref om, .ref ok_, .ref oK, .ref og, .ref on_, .ref oh, .ref ox, .int qn, .int qf, .ref op_, .int ql])), (ow, .inl (cI, 108000, .inl fw)), (om, .inl (cI, 9, .inl fm))] sz) := by
  refine met_enter (by decide +kernel) (Nat.le_of_ble_eq_true rfl) ?_
  intro p e s m args below meth c ls A R Q H locs K hin hAe hA hR hQ hP hK hD hS hl
  obtain ⟨hx, hb, hml, hrt, hlk, hts, hown, hno⟩ := id K
  have hl : lv_has ls 3 [(0, .ref mo), (1, .int (iZ 6)), (2, .int (iZ 5))] := hl
  have L0 : ∀ (N : Nat) (fx : Nat → Int32) (fy : Nat → Int32) (vl : Nat → Nat) (H : Heap) (locs : List Loc) (ls : Array Slot), vl 5 < N → (WB fx fy vl) → (Nat.gcd (vl 6) (vl 5) = Nat.gcd (val 6) (val 5)) → (∀ i, i < 5 → vl i = val i) → (nd (vl 6) < 12000) → (nd (vl 5) < 12000) → va_P D cls0 [(mo, .inr (8, [.int qc, .int (iZ (np : Int)), .ref ow, .ref om, .ref ok_, .ref oK, .ref og, .ref on_, .ref oh, .ref ox, .int qn, .int qf, .ref op_, .int ql])), (ow, .inl (cI, 108000, .inl fx)), (om, .inl (cI, 9, .inl fy))] H → va_D A [(mo, .inr (8, [.int qc, .int (iZ (np : Int)), .ref ow, .ref om, .ref ok_, .ref oK, .ref og, .ref on_, .ref oh, .ref ox, .int qn, .int qf, .ref op_, .int ql])), (ow, .inl (cI, 108000, .inl fx)), (om, .inl (cI, 9, .inl fy))] → va_S A s.heap H locs → lv_has ls 3 [(0, .ref mo), (1, .int (iZ 6)), (2, .int (iZ 5))] → W p l e R s m args below meth c H locs 0 0 Q (F0 m 0 ls []) := by
    intro N
    induction N with
    | zero => intro fx fy vl H locs ls hN; exact absurd hN (Nat.not_lt_zero _)
    | succ N ih =>
      intro fx fy vl H locs ls hN iW ig io j6 j5 hP hD hS hl
      refine lv_aload_n hx hb d_Mo_common_0 rfl (lv_at hl 0 rfl) ?_
      refine va_get (D := D) (ci := 8) (v := .ref om) (C := R_Mo) (T := F_Mo) (N := 14) hx hb hts i_Mo hown hK hP 0 rfl rfl 3 (by decide) (hts _ (big_in mw_1118 rfl)) (fun _ h9 => h9) rfl d_Mo_common_1 ?_
      refine lv_iload_n hx hb d_Mo_common_4 rfl (lv_at hl 2 rfl) ?_
      refine zz_iald hx hb hK hP 2 0 rfl rfl (5) (by omega) (by omega) (by omega) d_Mo_common_5 ?_
      rw [iW.m (by decide)]
      refine zz_if_le (tgt := 40) hx hb d_Mo_common_6 (by decide) (by omega) (fun c6 => ?_) (fun c6 => ?_)
      · have p5 : vl 5 = 0 := Nat.eq_zero_of_not_pos (fun q => by have z := nd_pos.mpr q; omega)
        refine lv_aload_n hx hb d_Mo_common_40 rfl (lv_at hl 0 rfl) ?_
        refine lv_bipush (v := iZ (7)) hx hb d_Mo_common_41 (by decide +kernel) ?_
        refine lv_iload_n hx hb d_Mo_common_43 rfl (lv_at hl 1 rfl) ?_
        refine cv (n := 2) (wr := []) (w1 := (fun (u : (Nat → Int32) × (Nat → Int32)) => [(mo, .inr (8, [.int qc, .int (iZ (np : Int)), .ref ow, .ref om, .ref ok_, .ref oK, .ref og, .ref on_, .ref oh, .ref ox, .int qn, .int qf, .ref op_, .int ql])), (ow, .inl (cI, 108000, .inl u.1)), (om, .inl (cI, 9, .inl u.2))])) (As := [.int (iZ 7), .int (iZ 6)]) (rest := []) K hP hD hK hS hA hl.1 (c_Mo_copyTo l D mo qc np ow om ok_ oK og on_ oh ox qn qf op_ ql fx fy cI vl 7 6 H.size iW (by omega) (by omega) (by omega)) [0, 1, 2] [] [0] rfl rfl rfl (by decide) (by decide) (by decide) 0 rfl rfl (big_in mw_1193 rfl) (big_in mw_10 rfl) (big_in mw_1190 rfl) (big_in mw_1192 rfl) (big_in sp_22 rfl) rfl rfl (by decide +kernel) ⟨by rw [hR]; exact Nat.le_of_ble_eq_true rfl, by rw [hR]; exact Nat.le_of_ble_eq_true rfl⟩ rfl (Nat.le_of_ble_eq_true rfl) d_Mo_common_44 ⟨by rw [hR]; exact Nat.le_of_ble_eq_true rfl, by rw [hR]; exact Nat.le_of_ble_eq_true rfl⟩ rfl (fun v u H locs hp1 hP hD hS _ => ?_)
        obtain ⟨fx9, fy9⟩ := u
        try dsimp only at hp1
        obtain ⟨rfl, w9⟩ := hp1
        have hP : va_P D cls0 [(mo, .inr (8, [.int qc, .int (iZ (np : Int)), .ref ow, .ref om, .ref ok_, .ref oK, .ref og, .ref on_, .ref oh, .ref ox, .int qn, .int qf, .ref op_, .int ql])), (ow, .inl (cI, 108000, .inl fx9)), (om, .inl (cI, 9, .inl fy9))] H := hP
        have hD : va_D A [(mo, .inr (8, [.int qc, .int (iZ (np : Int)), .ref ow, .ref om, .ref ok_, .ref oK, .ref og, .ref on_, .ref oh, .ref ox, .int qn, .int qf, .ref op_, .int ql])), (ow, .inl (cI, 108000, .inl fx9)), (om, .inl (cI, 9, .inl fy9))] := hD
        show W p l e R s m args below meth c H locs _ _ Q (F0 m 47 ls [])
        have hP9 : va_P D cls0 [(mo, .inr (8, [.int qc, .int (iZ (np : Int)), .ref ow, .ref om, .ref ok_, .ref oK, .ref og, .ref on_, .ref oh, .ref ox, .int qn, .int qf, .ref op_, .int ql])), (ow, .inl (cI, 108000, .inl fx9)), (om, .inl (cI, 9, .inl fy9))] H := hP.sub [0, 1, 2] rfl
        have hD9 : va_D A [(mo, .inr (8, [.int qc, .int (iZ (np : Int)), .ref ow, .ref om, .ref ok_, .ref oK, .ref og, .ref on_, .ref oh, .ref ox, .int qn, .int qf, .ref op_, .int ql])), (ow, .inl (cI, 108000, .inl fx9)), (om, .inl (cI, 9, .inl fy9))] := hD.sub [0, 1, 2] (by decide) rfl
        rw [hQ, ← hAe]
        refine r_v K (fx9, fy9, up vl 7 (vl 6)) hS d_Mo_common_47 ?_ (fun t ht hv => ?_)
        · try dsimp only
          refine ⟨rfl, w9, ?_, fun i hi => ?_⟩
          · rw [up_s, ← ig, p5, Nat.gcd_zero_right]
          · rw [up_n (by omega)]; exact io i hi
        · exact ⟨by rw [ht]; exact hP9, va_K.moved hv hK, by rw [← hAe]; exact hD9⟩
      · have p5 : 0 < vl 5 := nd_pos.mp (by omega)
        refine lv_aload_n hx hb d_Mo_common_9 rfl (lv_at hl 0 rfl) ?_
        refine lv_bipush (v := iZ (8)) hx hb d_Mo_common_10 (by decide +kernel) ?_
        refine lv_iload_n hx hb d_Mo_common_12 rfl (lv_at hl 1 rfl) ?_
        refine lv_iload_n hx hb d_Mo_common_13 rfl (lv_at hl 2 rfl) ?_
        refine cv (n := 3) (wr := []) (w1 := (fun (u : (Nat → Int32) × (Nat → Int32)) => [(mo, .inr (8, [.int qc, .int (iZ (np : Int)), .ref ow, .ref om, .ref ok_, .ref oK, .ref og, .ref on_, .ref oh, .ref ox, .int qn, .int qf, .ref op_, .int ql])), (ow, .inl (cI, 108000, .inl u.1)), (om, .inl (cI, 9, .inl u.2))])) (As := [.int (iZ 8), .int (iZ 6), .int (iZ 5)]) (rest := []) K hP hD hK hS hA hl.1 (c_Mo_divideBy l D mo qc np ow om ok_ oK og on_ oh ox qn qf op_ ql fx fy cI vl 8 6 5 H.size iW (by decide) (by decide) (by decide) (by decide) (by decide) (by decide) p5 j6) [0, 1, 2] [] [0] rfl rfl rfl (by decide) (by decide) (by decide) 0 rfl rfl (big_in mw_1201 rfl) (big_in mw_10 rfl) (big_in mw_1198 rfl) (big_in mw_1200 rfl) (big_in sp_24 rfl) rfl rfl (by decide +kernel) ⟨by rw [hR]; exact Nat.le_of_ble_eq_true rfl, by rw [hR]; exact Nat.le_of_ble_eq_true rfl⟩ rfl (Nat.le_of_ble_eq_true rfl) d_Mo_common_14 ⟨by rw [hR]; exact Nat.le_of_ble_eq_true rfl, by rw [hR]; exact Nat.le_of_ble_eq_true rfl⟩ rfl (fun v u H locs hp2 hP hD hS _ => ?_)
        obtain ⟨fx1, fy1⟩ := u
        try dsimp only at hp2
        obtain ⟨rfl, w1⟩ := hp2
        have hP : va_P D cls0 [(mo, .inr (8, [.int qc, .int (iZ (np : Int)), .ref ow, .ref om, .ref ok_, .ref oK, .ref og, .ref on_, .ref oh, .ref ox, .int qn, .int qf, .ref op_, .int ql])), (ow, .inl (cI, 108000, .inl fx1)), (om, .inl (cI, 9, .inl fy1))] H := hP
        have hD : va_D A [(mo, .inr (8, [.int qc, .int (iZ (np : Int)), .ref ow, .ref om, .ref ok_, .ref oK, .ref og, .ref on_, .ref oh, .ref ox, .int qn, .int qf, .ref op_, .int ql])), (ow, .inl (cI, 108000, .inl fx1)), (om, .inl (cI, 9, .inl fy1))] := hD
        show W p l e R s m args below meth c H locs _ _ Q (F0 m 17 ls [])
        obtain ⟨v1, hv1⟩ : ∃ z, z = up (up vl 8 (vl 6 / vl 5)) 6 (vl 6 % vl 5) := ⟨_, rfl⟩
        rw [← hv1] at w1
        refine lv_aload_n hx hb d_Mo_common_17 rfl (lv_at hl 0 rfl) ?_
        refine lv_bipush (v := iZ (7)) hx hb d_Mo_common_18 (by decide +kernel) ?_
        refine lv_iload_n hx hb d_Mo_common_20 rfl (lv_at hl 1 rfl) ?_
        refine cv (n := 2) (wr := []) (w1 := (fun (u : (Nat → Int32) × (Nat → Int32)) => [(mo, .inr (8, [.int qc, .int (iZ (np : Int)), .ref ow, .ref om, .ref ok_, .ref oK, .ref og, .ref on_, .ref oh, .ref ox, .int qn, .int qf, .ref op_, .int ql])), (ow, .inl (cI, 108000, .inl u.1)), (om, .inl (cI, 9, .inl u.2))])) (As := [.int (iZ 7), .int (iZ 6)]) (rest := []) K hP hD hK hS hA hl.1 (c_Mo_copyTo l D mo qc np ow om ok_ oK og on_ oh ox qn qf op_ ql fx1 fy1 cI v1 7 6 H.size w1 (by omega) (by omega) (by omega)) [0, 1, 2] [] [0] rfl rfl rfl (by decide) (by decide) (by decide) 0 rfl rfl (big_in mw_1193 rfl) (big_in mw_10 rfl) (big_in mw_1190 rfl) (big_in mw_1192 rfl) (big_in sp_22 rfl) rfl rfl (by decide +kernel) ⟨by rw [hR]; exact Nat.le_of_ble_eq_true rfl, by rw [hR]; exact Nat.le_of_ble_eq_true rfl⟩ rfl (Nat.le_of_ble_eq_true rfl) d_Mo_common_21 ⟨by rw [hR]; exact Nat.le_of_ble_eq_true rfl, by rw [hR]; exact Nat.le_of_ble_eq_true rfl⟩ rfl (fun v u H locs hp3 hP hD hS _ => ?_)
        obtain ⟨fx2, fy2⟩ := u
        try dsimp only at hp3
        obtain ⟨rfl, w2⟩ := hp3
        have hP : va_P D cls0 [(mo, .inr (8, [.int qc, .int (iZ (np : Int)), .ref ow, .ref om, .ref ok_, .ref oK, .ref og, .ref on_, .ref oh, .ref ox, .int qn, .int qf, .ref op_, .int ql])), (ow, .inl (cI, 108000, .inl fx2)), (om, .inl (cI, 9, .inl fy2))] H := hP
        have hD : va_D A [(mo, .inr (8, [.int qc, .int (iZ (np : Int)), .ref ow, .ref om, .ref ok_, .ref oK, .ref og, .ref on_, .ref oh, .ref ox, .int qn, .int qf, .ref op_, .int ql])), (ow, .inl (cI, 108000, .inl fx2)), (om, .inl (cI, 9, .inl fy2))] := hD
        show W p l e R s m args below meth c H locs _ _ Q (F0 m 24 ls [])
        obtain ⟨v2, hv2⟩ : ∃ z, z = up v1 7 (v1 6) := ⟨_, rfl⟩
        rw [← hv2] at w2
        refine lv_aload_n hx hb d_Mo_common_24 rfl (lv_at hl 0 rfl) ?_
        refine lv_iload_n hx hb d_Mo_common_25 rfl (lv_at hl 1 rfl) ?_
        refine lv_iload_n hx hb d_Mo_common_26 rfl (lv_at hl 2 rfl) ?_
        refine cv (n := 2) (wr := []) (w1 := (fun (u : (Nat → Int32) × (Nat → Int32)) => [(mo, .inr (8, [.int qc, .int (iZ (np : Int)), .ref ow, .ref om, .ref ok_, .ref oK, .ref og, .ref on_, .ref oh, .ref ox, .int qn, .int qf, .ref op_, .int ql])), (ow, .inl (cI, 108000, .inl u.1)), (om, .inl (cI, 9, .inl u.2))])) (As := [.int (iZ 6), .int (iZ 5)]) (rest := []) K hP hD hK hS hA hl.1 (c_Mo_copyTo l D mo qc np ow om ok_ oK og on_ oh ox qn qf op_ ql fx2 fy2 cI v2 6 5 H.size w2 (by omega) (by omega) (by omega)) [0, 1, 2] [] [0] rfl rfl rfl (by decide) (by decide) (by decide) 0 rfl rfl (big_in mw_1193 rfl) (big_in mw_10 rfl) (big_in mw_1190 rfl) (big_in mw_1192 rfl) (big_in sp_22 rfl) rfl rfl (by decide +kernel) ⟨by rw [hR]; exact Nat.le_of_ble_eq_true rfl, by rw [hR]; exact Nat.le_of_ble_eq_true rfl⟩ rfl (Nat.le_of_ble_eq_true rfl) d_Mo_common_27 ⟨by rw [hR]; exact Nat.le_of_ble_eq_true rfl, by rw [hR]; exact Nat.le_of_ble_eq_true rfl⟩ rfl (fun v u H locs hp4 hP hD hS _ => ?_)
        obtain ⟨fx3, fy3⟩ := u
        try dsimp only at hp4
        obtain ⟨rfl, w3⟩ := hp4
        have hP : va_P D cls0 [(mo, .inr (8, [.int qc, .int (iZ (np : Int)), .ref ow, .ref om, .ref ok_, .ref oK, .ref og, .ref on_, .ref oh, .ref ox, .int qn, .int qf, .ref op_, .int ql])), (ow, .inl (cI, 108000, .inl fx3)), (om, .inl (cI, 9, .inl fy3))] H := hP
        have hD : va_D A [(mo, .inr (8, [.int qc, .int (iZ (np : Int)), .ref ow, .ref om, .ref ok_, .ref oK, .ref og, .ref on_, .ref oh, .ref ox, .int qn, .int qf, .ref op_, .int ql])), (ow, .inl (cI, 108000, .inl fx3)), (om, .inl (cI, 9, .inl fy3))] := hD
        show W p l e R s m args below meth c H locs _ _ Q (F0 m 30 ls [])
        obtain ⟨v3, hv3⟩ : ∃ z, z = up v2 6 (v2 5) := ⟨_, rfl⟩
        rw [← hv3] at w3
        refine lv_aload_n hx hb d_Mo_common_30 rfl (lv_at hl 0 rfl) ?_
        refine lv_iload_n hx hb d_Mo_common_31 rfl (lv_at hl 2 rfl) ?_
        refine lv_bipush (v := iZ (7)) hx hb d_Mo_common_32 (by decide +kernel) ?_
        refine cv (n := 2) (wr := []) (w1 := (fun (u : (Nat → Int32) × (Nat → Int32)) => [(mo, .inr (8, [.int qc, .int (iZ (np : Int)), .ref ow, .ref om, .ref ok_, .ref oK, .ref og, .ref on_, .ref oh, .ref ox, .int qn, .int qf, .ref op_, .int ql])), (ow, .inl (cI, 108000, .inl u.1)), (om, .inl (cI, 9, .inl u.2))])) (As := [.int (iZ 5), .int (iZ 7)]) (rest := []) K hP hD hK hS hA hl.1 (c_Mo_copyTo l D mo qc np ow om ok_ oK og on_ oh ox qn qf op_ ql fx3 fy3 cI v3 5 7 H.size w3 (by omega) (by omega) (by omega)) [0, 1, 2] [] [0] rfl rfl rfl (by decide) (by decide) (by decide) 0 rfl rfl (big_in mw_1193 rfl) (big_in mw_10 rfl) (big_in mw_1190 rfl) (big_in mw_1192 rfl) (big_in sp_22 rfl) rfl rfl (by decide +kernel) ⟨by rw [hR]; exact Nat.le_of_ble_eq_true rfl, by rw [hR]; exact Nat.le_of_ble_eq_true rfl⟩ rfl (Nat.le_of_ble_eq_true rfl) d_Mo_common_34 ⟨by rw [hR]; exact Nat.le_of_ble_eq_true rfl, by rw [hR]; exact Nat.le_of_ble_eq_true rfl⟩ rfl (fun v u H locs hp5 hP hD hS _ => ?_)
        obtain ⟨fx4, fy4⟩ := u
        try dsimp only at hp5
        obtain ⟨rfl, w4⟩ := hp5
        have hP : va_P D cls0 [(mo, .inr (8, [.int qc, .int (iZ (np : Int)), .ref ow, .ref om, .ref ok_, .ref oK, .ref og, .ref on_, .ref oh, .ref ox, .int qn, .int qf, .ref op_, .int ql])), (ow, .inl (cI, 108000, .inl fx4)), (om, .inl (cI, 9, .inl fy4))] H := hP
        have hD : va_D A [(mo, .inr (8, [.int qc, .int (iZ (np : Int)), .ref ow, .ref om, .ref ok_, .ref oK, .ref og, .ref on_, .ref oh, .ref ox, .int qn, .int qf, .ref op_, .int ql])), (ow, .inl (cI, 108000, .inl fx4)), (om, .inl (cI, 9, .inl fy4))] := hD
        show W p l e R s m args below meth c H locs _ _ Q (F0 m 37 ls [])
        obtain ⟨v4, hv4⟩ : ∃ z, z = up v3 5 (v3 7) := ⟨_, rfl⟩
        rw [← hv4] at w4
        have e5 : v4 5 = vl 6 % vl 5 := by simp [hv4, hv3, hv2, hv1, up]
        have e6 : v4 6 = vl 5 := by simp [hv4, hv3, hv2, hv1, up]
        have eo : ∀ i, i < 5 → v4 i = vl i := fun i hi => by rw [hv4, up_n (by omega), hv3, up_n (by omega), hv2, up_n (by omega), hv1, up_n (by omega), up_n (by omega)]
        refine lv_goto (tgt := 0) hx hb d_Mo_common_37 (by decide) ?_
        exact ih fx4 fy4 v4 _ _ _ (by rw [e5]; have z := Nat.mod_lt (vl 6) p5; omega) w4 (by rw [e6, e5, ← ig, Nat.gcd_comm (vl 6) (vl 5)]; exact (Nat.gcd_comm _ _).trans (Nat.gcd_rec _ _).symm) (fun i hi => by rw [eo i hi]; exact io i hi) (by rw [e6]; exact j5) (by rw [e5]; exact Nat.lt_of_le_of_lt (nd_mono (Nat.le_of_lt (Nat.mod_lt _ p5))) j5) (hP.sub (ws' := [(mo, .inr (8, [.int qc, .int (iZ (np : Int)), .ref ow, .ref om, .ref ok_, .ref oK, .ref og, .ref on_, .ref oh, .ref ox, .int qn, .int qf, .ref op_, .int ql])), (ow, .inl (cI, 108000, .inl fx4)), (om, .inl (cI, 9, .inl fy4))]) [0, 1, 2] rfl) (hD.sub (ws' := [(mo, .inr (8, [.int qc, .int (iZ (np : Int)), .ref ow, .ref om, .ref ok_, .ref oK, .ref og, .ref on_, .ref oh, .ref ox, .int qn, .int qf, .ref op_, .int ql])), (ow, .inl (cI, 108000, .inl fx4)), (om, .inl (cI, 9, .inl fy4))]) [0, 1, 2] (by decide) rfl) hS (lv_sub hl [0, 1, 2] rfl)
  exact L0 _ fw fm val _ _ _ (Nat.lt_succ_self _) hW rfl (fun i hi => rfl) hc6 hc5 (hP.sub (ws' := [(mo, .inr (8, [.int qc, .int (iZ (np : Int)), .ref ow, .ref om, .ref ok_, .ref oK, .ref og, .ref on_, .ref oh, .ref ox, .int qn, .int qf, .ref op_, .int ql])), (ow, .inl (cI, 108000, .inl fw)), (om, .inl (cI, 9, .inl fm))]) [0, 1, 2] rfl) (hD.sub (ws' := [(mo, .inr (8, [.int qc, .int (iZ (np : Int)), .ref ow, .ref om, .ref ok_, .ref oK, .ref og, .ref on_, .ref oh, .ref ox, .int qn, .int qf, .ref op_, .int ql])), (ow, .inl (cI, 108000, .inl fw)), (om, .inl (cI, 9, .inl fm))]) [0, 1, 2] (by decide) rfl) hS (lv_sub hl [0, 1, 2] rfl)
set_option maxHeartbeats 4000000 in
set_option maxRecDepth 100000 in
/-- reduce() -/
theorem c_Mo_reduce (l : Launch) (D : va_G) (mo : Nat) (qc : Int32) (np : Nat) (ow : Nat) (om : Nat) (ok_ : Nat) (oK : Nat) (og : Nat) (on_ : Nat) (oh : Nat) (ox : Nat) (qn : Int32) (qf : Int32) (op_ : Nat) (ql : Int32) (fw : Nat → Int32) (fm : Nat → Int32) (cI : ClassId) (val : Nat → Nat) (sz : Nat) (hW : WB fw fm val) (h10 : 0 < val 1) (hc0 : nd (val 0) < 12000) (hc1 : nd (val 1) < 12000) : Met l y_Mo_reduce (wsB y_Mo_reduce b_Mo_reduce 1 none) ({ frames := 3, cells := 0, slots := 0, locals := 82 }) (va_Pc [.ref mo] (wPre D [(cI, .int)] [(mo, .inr (8, [.int qc, .int (iZ (np : Int)), .ref ow, .ref om, .ref ok_, .ref oK, .ref og, .ref on_, .ref oh, .ref ox, .int qn, .int qf, .ref op_, .int ql])), (ow, .inl (cI, 108000, .inl fw)), (om, .inl (cI, 9, .inl fm))] sz)) (va_QV (fun (v_9 : Option Value) (u_9 : (Nat → Int32) × (Nat → Int32) × (Nat → Nat)) => v_9 = none ∧ (WB u_9.1 u_9.2.1 u_9.2.2) ∧ (u_9.2.2 0 = rdN (val 0) (val 1)) ∧ (u_9.2.2 1 = rdD (val 0) (val 1))) (fun u_9 => wPost D [(cI, .int)] [(mo, .inr (8, [.int qc, .int (iZ (np : Int)), .ref ow, .ref om, .ref ok_, .ref oK, .ref og, .ref on_, .ref oh, .ref ox, .int qn, .int qf, .ref op_, .int ql])), (ow, .inl (cI, 108000, .inl fw)), (om, .inl (cI, 9, .inl fm))] [(mo, .inr (8, [.int qc, .int (iZ (np : Int)), .ref ow, .ref om, .ref ok_, .ref oK, .ref og, .ref on_, .ref oh, .ref ox, .int qn, .int qf, .ref op_, .int ql])), (ow, .inl (cI, 108000, .inl u_9.1)), (om, .inl (cI, 9, .inl u_9.2.1))] sz) (va_A [(mo, .inr (8, [.int qc, .int (iZ (np : Int)), .ref ow, .ref om, .ref ok_, .ref oK, .ref og, .ref on_, .ref oh, .ref ox, .int qn, .int qf, .ref op_, .int ql])), (ow, .inl (cI, 108000, .inl fw)), (om, .inl (cI, 9, .inl fm))] sz)) 0 0 (va_A [(mo, .inr (8, [.int qc, .int (iZ (np : Int)), .ref ow, .ref om, .ref ok_, .ref oK, .ref og, .ref on_, .ref oh, .ref ox, .int qn, .int qf, .ref op_, .int ql])), (ow, .inl (cI, 108000, .inl fw)), (om, .inl (cI, 9, .inl fm))] sz) := by
  refine met_enter (by decide +kernel) (Nat.le_of_ble_eq_true rfl) ?_
  intro p e s m args below meth c ls A R Q H locs K hin hAe hA hR hQ hP hK hD hS hl
  obtain ⟨hx, hb, hml, hrt, hlk, hts, hown, hno⟩ := id K
  have hl : lv_has ls 1 [(0, .ref mo)] := hl
  refine lv_aload_n hx hb d_Mo_reduce_0 rfl (lv_at hl 0 rfl) ?_
  refine lv_iconst (v := iZ (5)) hx hb d_Mo_reduce_1 (by decide +kernel) ?_
  refine lv_iconst (v := iZ (0)) hx hb d_Mo_reduce_2 (by decide +kernel) ?_
  refine cv (n := 2) (wr := []) (w1 := (fun (u : (Nat → Int32) × (Nat → Int32)) => [(mo, .inr (8, [.int qc, .int (iZ (np : Int)), .ref ow, .ref om, .ref ok_, .ref oK, .ref og, .ref on_, .ref oh, .ref ox, .int qn, .int qf, .ref op_, .int ql])), (ow, .inl (cI, 108000, .inl u.1)), (om, .inl (cI, 9, .inl u.2))])) (As := [.int (iZ 5), .int (iZ 0)]) (rest := []) K hP hD hK hS hA hl.1 (c_Mo_copyTo l D mo qc np ow om ok_ oK og on_ oh ox qn qf op_ ql fw fm cI val 5 0 H.size hW (by omega) (by omega) (by omega)) [0, 1, 2] [] [0] rfl rfl rfl (by decide) (by decide) (by decide) 0 rfl rfl (big_in mw_1193 rfl) (big_in mw_10 rfl) (big_in mw_1190 rfl) (big_in mw_1192 rfl) (big_in sp_22 rfl) rfl rfl (by decide +kernel) ⟨by rw [hR]; exact Nat.le_of_ble_eq_true rfl, by rw [hR]; exact Nat.le_of_ble_eq_true rfl⟩ rfl (Nat.le_of_ble_eq_true rfl) d_Mo_reduce_3 ⟨by rw [hR]; exact Nat.le_of_ble_eq_true rfl, by rw [hR]; exact Nat.le_of_ble_eq_true rfl⟩ rfl (fun v u H locs hp1 hP hD hS _ => ?_)
  obtain ⟨fx1, fy1⟩ := u
  try dsimp only at hp1
  obtain ⟨rfl, w1⟩ := hp1
  have hP : va_P D cls0 [(mo, .inr (8, [.int qc, .int (iZ (np : Int)), .ref ow, .ref om, .ref ok_, .ref oK, .ref og, .ref on_, .ref oh, .ref ox, .int qn, .int qf, .ref op_, .int ql])), (ow, .inl (cI, 108000, .inl fx1)), (om, .inl (cI, 9, .inl fy1))] H := hP
  have hD : va_D A [(mo, .inr (8, [.int qc, .int (iZ (np : Int)), .ref ow, .ref om, .ref ok_, .ref oK, .ref og, .ref on_, .ref oh, .ref ox, .int qn, .int qf, .ref op_, .int ql])), (ow, .inl (cI, 108000, .inl fx1)), (om, .inl (cI, 9, .inl fy1))] := hD
  show W p l e R s m args below meth c H locs _ _ Q (F0 m 6 ls [])
  obtain ⟨v1, hv1⟩ : ∃ z, z = up val 5 (val 0) := ⟨_, rfl⟩
  rw [← hv1] at w1
  refine lv_aload_n hx hb d_Mo_reduce_6 rfl (lv_at hl 0 rfl) ?_
  refine lv_bipush (v := iZ (6)) hx hb d_Mo_reduce_7 (by decide +kernel) ?_
  refine lv_iconst (v := iZ (1)) hx hb d_Mo_reduce_9 (by decide +kernel) ?_
  refine cv (n := 2) (wr := []) (w1 := (fun (u : (Nat → Int32) × (Nat → Int32)) => [(mo, .inr (8, [.int qc, .int (iZ (np : Int)), .ref ow, .ref om, .ref ok_, .ref oK, .ref og, .ref on_, .ref oh, .ref ox, .int qn, .int qf, .ref op_, .int ql])), (ow, .inl (cI, 108000, .inl u.1)), (om, .inl (cI, 9, .inl u.2))])) (As := [.int (iZ 6), .int (iZ 1)]) (rest := []) K hP hD hK hS hA hl.1 (c_Mo_copyTo l D mo qc np ow om ok_ oK og on_ oh ox qn qf op_ ql fx1 fy1 cI v1 6 1 H.size w1 (by omega) (by omega) (by omega)) [0, 1, 2] [] [0] rfl rfl rfl (by decide) (by decide) (by decide) 0 rfl rfl (big_in mw_1193 rfl) (big_in mw_10 rfl) (big_in mw_1190 rfl) (big_in mw_1192 rfl) (big_in sp_22 rfl) rfl rfl (by decide +kernel) ⟨by rw [hR]; exact Nat.le_of_ble_eq_true rfl, by rw [hR]; exact Nat.le_of_ble_eq_true rfl⟩ rfl (Nat.le_of_ble_eq_true rfl) d_Mo_reduce_10 ⟨by rw [hR]; exact Nat.le_of_ble_eq_true rfl, by rw [hR]; exact Nat.le_of_ble_eq_true rfl⟩ rfl (fun v u H locs hp2 hP hD hS _ => ?_)
  obtain ⟨fx2, fy2⟩ := u
  try dsimp only at hp2
  obtain ⟨rfl, w2⟩ := hp2
  have hP : va_P D cls0 [(mo, .inr (8, [.int qc, .int (iZ (np : Int)), .ref ow, .ref om, .ref ok_, .ref oK, .ref og, .ref on_, .ref oh, .ref ox, .int qn, .int qf, .ref op_, .int ql])), (ow, .inl (cI, 108000, .inl fx2)), (om, .inl (cI, 9, .inl fy2))] H := hP
  have hD : va_D A [(mo, .inr (8, [.int qc, .int (iZ (np : Int)), .ref ow, .ref om, .ref ok_, .ref oK, .ref og, .ref on_, .ref oh, .ref ox, .int qn, .int qf, .ref op_, .int ql])), (ow, .inl (cI, 108000, .inl fx2)), (om, .inl (cI, 9, .inl fy2))] := hD
  show W p l e R s m args below meth c H locs _ _ Q (F0 m 13 ls [])
  obtain ⟨v2, hv2⟩ : ∃ z, z = up v1 6 (v1 1) := ⟨_, rfl⟩
  rw [← hv2] at w2
  have e26 : v2 6 = val 1 := by simp [hv2, hv1, up]
  have e25 : v2 5 = val 0 := by simp [hv2, hv1, up]
  have e20 : v2 0 = val 0 := by simp [hv2, hv1, up]
  have e21 : v2 1 = val 1 := by simp [hv2, hv1, up]
  refine lv_aload_n hx hb d_Mo_reduce_13 rfl (lv_at hl 0 rfl) ?_
  refine lv_bipush (v := iZ (6)) hx hb d_Mo_reduce_14 (by decide +kernel) ?_
  refine lv_iconst (v := iZ (5)) hx hb d_Mo_reduce_16 (by decide +kernel) ?_
  refine cv (n := 2) (wr := []) (w1 := (fun (u : (Nat → Int32) × (Nat → Int32) × (Nat → Nat)) => [(mo, .inr (8, [.int qc, .int (iZ (np : Int)), .ref ow, .ref om, .ref ok_, .ref oK, .ref og, .ref on_, .ref oh, .ref ox, .int qn, .int qf, .ref op_, .int ql])), (ow, .inl (cI, 108000, .inl u.1)), (om, .inl (cI, 9, .inl u.2.1))])) (As := [.int (iZ 6), .int (iZ 5)]) (rest := []) K hP hD hK hS hA hl.1 (c_Mo_common l D mo qc np ow om ok_ oK og on_ oh ox qn qf op_ ql fx2 fy2 cI v2 H.size w2 (by rw [e26]; exact hc1) (by rw [e25]; exact hc0)) [0, 1, 2] [] [0] rfl rfl rfl (by decide) (by decide) (by decide) 0 rfl rfl (big_in mw_1197 rfl) (big_in mw_10 rfl) (big_in mw_1194 rfl) (big_in mw_1196 rfl) (big_in sp_23 rfl) rfl rfl (by decide +kernel) ⟨by rw [hR]; exact Nat.le_of_ble_eq_true rfl, by rw [hR]; exact Nat.le_of_ble_eq_true rfl⟩ rfl (Nat.le_of_ble_eq_true rfl) d_Mo_reduce_17 ⟨by rw [hR]; exact Nat.le_of_ble_eq_true rfl, by rw [hR]; exact Nat.le_of_ble_eq_true rfl⟩ rfl (fun v u H locs hp3 hP hD hS _ => ?_)
  obtain ⟨fx3, fy3, v3⟩ := u
  try dsimp only at hp3
  obtain ⟨rfl, w3, hg3, ho3⟩ := hp3
  have hP : va_P D cls0 [(mo, .inr (8, [.int qc, .int (iZ (np : Int)), .ref ow, .ref om, .ref ok_, .ref oK, .ref og, .ref on_, .ref oh, .ref ox, .int qn, .int qf, .ref op_, .int ql])), (ow, .inl (cI, 108000, .inl fx3)), (om, .inl (cI, 9, .inl fy3))] H := hP
  have hD : va_D A [(mo, .inr (8, [.int qc, .int (iZ (np : Int)), .ref ow, .ref om, .ref ok_, .ref oK, .ref og, .ref on_, .ref oh, .ref ox, .int qn, .int qf, .ref op_, .int ql])), (ow, .inl (cI, 108000, .inl fx3)), (om, .inl (cI, 9, .inl fy3))] := hD
  show W p l e R s m args below meth c H locs _ _ Q (F0 m 20 ls [])
  rw [e26, e25] at hg3
  have e30 : v3 0 = val 0 := by rw [ho3 0 (by decide)]; exact e20
  have e31 : v3 1 = val 1 := by rw [ho3 1 (by decide)]; exact e21
  have pg : 0 < Nat.gcd (val 1) (val 0) := Nat.gcd_pos_of_pos_left _ h10
  refine lv_aload_n hx hb d_Mo_reduce_20 rfl (lv_at hl 0 rfl) ?_
  refine lv_iconst (v := iZ (2)) hx hb d_Mo_reduce_21 (by decide +kernel) ?_
  refine lv_bipush (v := iZ (7)) hx hb d_Mo_reduce_22 (by decide +kernel) ?_
  refine cv (n := 2) (wr := []) (w1 := (fun (u : (Nat → Int32) × (Nat → Int32)) => [(mo, .inr (8, [.int qc, .int (iZ (np : Int)), .ref ow, .ref om, .ref ok_, .ref oK, .ref og, .ref on_, .ref oh, .ref ox, .int qn, .int qf, .ref op_, .int ql])), (ow, .inl (cI, 108000, .inl u.1)), (om, .inl (cI, 9, .inl u.2))])) (As := [.int (iZ 2), .int (iZ 7)]) (rest := []) K hP hD hK hS hA hl.1 (c_Mo_copyTo l D mo qc np ow om ok_ oK og on_ oh ox qn qf op_ ql fx3 fy3 cI v3 2 7 H.size w3 (by omega) (by omega) (by omega)) [0, 1, 2] [] [0] rfl rfl rfl (by decide) (by decide) (by decide) 0 rfl rfl (big_in mw_1193 rfl) (big_in mw_10 rfl) (big_in mw_1190 rfl) (big_in mw_1192 rfl) (big_in sp_22 rfl) rfl rfl (by decide +kernel) ⟨by rw [hR]; exact Nat.le_of_ble_eq_true rfl, by rw [hR]; exact Nat.le_of_ble_eq_true rfl⟩ rfl (Nat.le_of_ble_eq_true rfl) d_Mo_reduce_24 ⟨by rw [hR]; exact Nat.le_of_ble_eq_true rfl, by rw [hR]; exact Nat.le_of_ble_eq_true rfl⟩ rfl (fun v u H locs hp4 hP hD hS _ => ?_)
  obtain ⟨fx4, fy4⟩ := u
  try dsimp only at hp4
  obtain ⟨rfl, w4⟩ := hp4
  have hP : va_P D cls0 [(mo, .inr (8, [.int qc, .int (iZ (np : Int)), .ref ow, .ref om, .ref ok_, .ref oK, .ref og, .ref on_, .ref oh, .ref ox, .int qn, .int qf, .ref op_, .int ql])), (ow, .inl (cI, 108000, .inl fx4)), (om, .inl (cI, 9, .inl fy4))] H := hP
  have hD : va_D A [(mo, .inr (8, [.int qc, .int (iZ (np : Int)), .ref ow, .ref om, .ref ok_, .ref oK, .ref og, .ref on_, .ref oh, .ref ox, .int qn, .int qf, .ref op_, .int ql])), (ow, .inl (cI, 108000, .inl fx4)), (om, .inl (cI, 9, .inl fy4))] := hD
  show W p l e R s m args below meth c H locs _ _ Q (F0 m 27 ls [])
  obtain ⟨v4, hv4⟩ : ∃ z, z = up v3 2 (v3 7) := ⟨_, rfl⟩
  rw [← hv4] at w4
  refine lv_aload_n hx hb d_Mo_reduce_27 rfl (lv_at hl 0 rfl) ?_
  refine lv_iconst (v := iZ (5)) hx hb d_Mo_reduce_28 (by decide +kernel) ?_
  refine lv_iconst (v := iZ (0)) hx hb d_Mo_reduce_29 (by decide +kernel) ?_
  refine cv (n := 2) (wr := []) (w1 := (fun (u : (Nat → Int32) × (Nat → Int32)) => [(mo, .inr (8, [.int qc, .int (iZ (np : Int)), .ref ow, .ref om, .ref ok_, .ref oK, .ref og, .ref on_, .ref oh, .ref ox, .int qn, .int qf, .ref op_, .int ql])), (ow, .inl (cI, 108000, .inl u.1)), (om, .inl (cI, 9, .inl u.2))])) (As := [.int (iZ 5), .int (iZ 0)]) (rest := []) K hP hD hK hS hA hl.1 (c_Mo_copyTo l D mo qc np ow om ok_ oK og on_ oh ox qn qf op_ ql fx4 fy4 cI v4 5 0 H.size w4 (by omega) (by omega) (by omega)) [0, 1, 2] [] [0] rfl rfl rfl (by decide) (by decide) (by decide) 0 rfl rfl (big_in mw_1193 rfl) (big_in mw_10 rfl) (big_in mw_1190 rfl) (big_in mw_1192 rfl) (big_in sp_22 rfl) rfl rfl (by decide +kernel) ⟨by rw [hR]; exact Nat.le_of_ble_eq_true rfl, by rw [hR]; exact Nat.le_of_ble_eq_true rfl⟩ rfl (Nat.le_of_ble_eq_true rfl) d_Mo_reduce_30 ⟨by rw [hR]; exact Nat.le_of_ble_eq_true rfl, by rw [hR]; exact Nat.le_of_ble_eq_true rfl⟩ rfl (fun v u H locs hp5 hP hD hS _ => ?_)
  obtain ⟨fx5, fy5⟩ := u
  try dsimp only at hp5
  obtain ⟨rfl, w5⟩ := hp5
  have hP : va_P D cls0 [(mo, .inr (8, [.int qc, .int (iZ (np : Int)), .ref ow, .ref om, .ref ok_, .ref oK, .ref og, .ref on_, .ref oh, .ref ox, .int qn, .int qf, .ref op_, .int ql])), (ow, .inl (cI, 108000, .inl fx5)), (om, .inl (cI, 9, .inl fy5))] H := hP
  have hD : va_D A [(mo, .inr (8, [.int qc, .int (iZ (np : Int)), .ref ow, .ref om, .ref ok_, .ref oK, .ref og, .ref on_, .ref oh, .ref ox, .int qn, .int qf, .ref op_, .int ql])), (ow, .inl (cI, 108000, .inl fx5)), (om, .inl (cI, 9, .inl fy5))] := hD
  show W p l e R s m args below meth c H locs _ _ Q (F0 m 33 ls [])
  obtain ⟨v5, hv5⟩ : ∃ z, z = up v4 5 (v4 0) := ⟨_, rfl⟩
  rw [← hv5] at w5
  have e52 : v5 2 = Nat.gcd (val 1) (val 0) := by rw [← hg3]; simp [hv5, hv4, up]
  have e55 : v5 5 = val 0 := by rw [← e30]; simp [hv5, hv4, up]
  have e51 : v5 1 = val 1 := by rw [← e31]; simp [hv5, hv4, up]
  refine lv_aload_n hx hb d_Mo_reduce_33 rfl (lv_at hl 0 rfl) ?_
  refine lv_iconst (v := iZ (0)) hx hb d_Mo_reduce_34 (by decide +kernel) ?_
  refine lv_iconst (v := iZ (5)) hx hb d_Mo_reduce_35 (by decide +kernel) ?_
  refine lv_iconst (v := iZ (2)) hx hb d_Mo_reduce_36 (by decide +kernel) ?_
  refine cv (n := 3) (wr := []) (w1 := (fun (u : (Nat → Int32) × (Nat → Int32)) => [(mo, .inr (8, [.int qc, .int (iZ (np : Int)), .ref ow, .ref om, .ref ok_, .ref oK, .ref og, .ref on_, .ref oh, .ref ox, .int qn, .int qf, .ref op_, .int ql])), (ow, .inl (cI, 108000, .inl u.1)), (om, .inl (cI, 9, .inl u.2))])) (As := [.int (iZ 0), .int (iZ 5), .int (iZ 2)]) (rest := []) K hP hD hK hS hA hl.1 (c_Mo_divideBy l D mo qc np ow om ok_ oK og on_ oh ox qn qf op_ ql fx5 fy5 cI v5 0 5 2 H.size w5 (by decide) (by decide) (by decide) (by decide) (by decide) (by decide) (by rw [e52]; exact pg) (by rw [e55]; exact hc0)) [0, 1, 2] [] [0] rfl rfl rfl (by decide) (by decide) (by decide) 0 rfl rfl (big_in mw_1201 rfl) (big_in mw_10 rfl) (big_in mw_1198 rfl) (big_in mw_1200 rfl) (big_in sp_24 rfl) rfl rfl (by decide +kernel) ⟨by rw [hR]; exact Nat.le_of_ble_eq_true rfl, by rw [hR]; exact Nat.le_of_ble_eq_true rfl⟩ rfl (Nat.le_of_ble_eq_true rfl) d_Mo_reduce_37 ⟨by rw [hR]; exact Nat.le_of_ble_eq_true rfl, by rw [hR]; exact Nat.le_of_ble_eq_true rfl⟩ rfl (fun v u H locs hp6 hP hD hS _ => ?_)
  obtain ⟨fx6, fy6⟩ := u
  try dsimp only at hp6
  obtain ⟨rfl, w6⟩ := hp6
  have hP : va_P D cls0 [(mo, .inr (8, [.int qc, .int (iZ (np : Int)), .ref ow, .ref om, .ref ok_, .ref oK, .ref og, .ref on_, .ref oh, .ref ox, .int qn, .int qf, .ref op_, .int ql])), (ow, .inl (cI, 108000, .inl fx6)), (om, .inl (cI, 9, .inl fy6))] H := hP
  have hD : va_D A [(mo, .inr (8, [.int qc, .int (iZ (np : Int)), .ref ow, .ref om, .ref ok_, .ref oK, .ref og, .ref on_, .ref oh, .ref ox, .int qn, .int qf, .ref op_, .int ql])), (ow, .inl (cI, 108000, .inl fx6)), (om, .inl (cI, 9, .inl fy6))] := hD
  show W p l e R s m args below meth c H locs _ _ Q (F0 m 40 ls [])
  obtain ⟨v6, hv6⟩ : ∃ z, z = up (up v5 0 (v5 5 / v5 2)) 5 (v5 5 % v5 2) := ⟨_, rfl⟩
  rw [← hv6] at w6
  refine lv_aload_n hx hb d_Mo_reduce_40 rfl (lv_at hl 0 rfl) ?_
  refine lv_iconst (v := iZ (5)) hx hb d_Mo_reduce_41 (by decide +kernel) ?_
  refine lv_iconst (v := iZ (1)) hx hb d_Mo_reduce_42 (by decide +kernel) ?_
  refine cv (n := 2) (wr := []) (w1 := (fun (u : (Nat → Int32) × (Nat → Int32)) => [(mo, .inr (8, [.int qc, .int (iZ (np : Int)), .ref ow, .ref om, .ref ok_, .ref oK, .ref og, .ref on_, .ref oh, .ref ox, .int qn, .int qf, .ref op_, .int ql])), (ow, .inl (cI, 108000, .inl u.1)), (om, .inl (cI, 9, .inl u.2))])) (As := [.int (iZ 5), .int (iZ 1)]) (rest := []) K hP hD hK hS hA hl.1 (c_Mo_copyTo l D mo qc np ow om ok_ oK og on_ oh ox qn qf op_ ql fx6 fy6 cI v6 5 1 H.size w6 (by omega) (by omega) (by omega)) [0, 1, 2] [] [0] rfl rfl rfl (by decide) (by decide) (by decide) 0 rfl rfl (big_in mw_1193 rfl) (big_in mw_10 rfl) (big_in mw_1190 rfl) (big_in mw_1192 rfl) (big_in sp_22 rfl) rfl rfl (by decide +kernel) ⟨by rw [hR]; exact Nat.le_of_ble_eq_true rfl, by rw [hR]; exact Nat.le_of_ble_eq_true rfl⟩ rfl (Nat.le_of_ble_eq_true rfl) d_Mo_reduce_43 ⟨by rw [hR]; exact Nat.le_of_ble_eq_true rfl, by rw [hR]; exact Nat.le_of_ble_eq_true rfl⟩ rfl (fun v u H locs hp7 hP hD hS _ => ?_)
  obtain ⟨fx7, fy7⟩ := u
  try dsimp only at hp7
  obtain ⟨rfl, w7⟩ := hp7
  have hP : va_P D cls0 [(mo, .inr (8, [.int qc, .int (iZ (np : Int)), .ref ow, .ref om, .ref ok_, .ref oK, .ref og, .ref on_, .ref oh, .ref ox, .int qn, .int qf, .ref op_, .int ql])), (ow, .inl (cI, 108000, .inl fx7)), (om, .inl (cI, 9, .inl fy7))] H := hP
  have hD : va_D A [(mo, .inr (8, [.int qc, .int (iZ (np : Int)), .ref ow, .ref om, .ref ok_, .ref oK, .ref og, .ref on_, .ref oh, .ref ox, .int qn, .int qf, .ref op_, .int ql])), (ow, .inl (cI, 108000, .inl fx7)), (om, .inl (cI, 9, .inl fy7))] := hD
  show W p l e R s m args below meth c H locs _ _ Q (F0 m 46 ls [])
  obtain ⟨v7, hv7⟩ : ∃ z, z = up v6 5 (v6 1) := ⟨_, rfl⟩
  rw [← hv7] at w7
  have e72 : v7 2 = Nat.gcd (val 1) (val 0) := by rw [← e52]; simp [hv7, hv6, up]
  have e75 : v7 5 = val 1 := by rw [← e51]; simp [hv7, hv6, up]
  have e70 : v7 0 = val 0 / Nat.gcd (val 1) (val 0) := by rw [hv7, up_n (by decide), hv6, up_n (by decide), up_s, e55, e52]
  refine lv_aload_n hx hb d_Mo_reduce_46 rfl (lv_at hl 0 rfl) ?_
  refine lv_iconst (v := iZ (1)) hx hb d_Mo_reduce_47 (by decide +kernel) ?_
  refine lv_iconst (v := iZ (5)) hx hb d_Mo_reduce_48 (by decide +kernel) ?_
  refine lv_iconst (v := iZ (2)) hx hb d_Mo_reduce_49 (by decide +kernel) ?_
  refine cv (n := 3) (wr := []) (w1 := (fun (u : (Nat → Int32) × (Nat → Int32)) => [(mo, .inr (8, [.int qc, .int (iZ (np : Int)), .ref ow, .ref om, .ref ok_, .ref oK, .ref og, .ref on_, .ref oh, .ref ox, .int qn, .int qf, .ref op_, .int ql])), (ow, .inl (cI, 108000, .inl u.1)), (om, .inl (cI, 9, .inl u.2))])) (As := [.int (iZ 1), .int (iZ 5), .int (iZ 2)]) (rest := []) K hP hD hK hS hA hl.1 (c_Mo_divideBy l D mo qc np ow om ok_ oK og on_ oh ox qn qf op_ ql fx7 fy7 cI v7 1 5 2 H.size w7 (by decide) (by decide) (by decide) (by decide) (by decide) (by decide) (by rw [e72]; exact pg) (by rw [e75]; exact hc1)) [0, 1, 2] [] [0] rfl rfl rfl (by decide) (by decide) (by decide) 0 rfl rfl (big_in mw_1201 rfl) (big_in mw_10 rfl) (big_in mw_1198 rfl) (big_in mw_1200 rfl) (big_in sp_24 rfl) rfl rfl (by decide +kernel) ⟨by rw [hR]; exact Nat.le_of_ble_eq_true rfl, by rw [hR]; exact Nat.le_of_ble_eq_true rfl⟩ rfl (Nat.le_of_ble_eq_true rfl) d_Mo_reduce_50 ⟨by rw [hR]; exact Nat.le_of_ble_eq_true rfl, by rw [hR]; exact Nat.le_of_ble_eq_true rfl⟩ rfl (fun v u H locs hp8 hP hD hS _ => ?_)
  obtain ⟨fx8, fy8⟩ := u
  try dsimp only at hp8
  obtain ⟨rfl, w8⟩ := hp8
  have hP : va_P D cls0 [(mo, .inr (8, [.int qc, .int (iZ (np : Int)), .ref ow, .ref om, .ref ok_, .ref oK, .ref og, .ref on_, .ref oh, .ref ox, .int qn, .int qf, .ref op_, .int ql])), (ow, .inl (cI, 108000, .inl fx8)), (om, .inl (cI, 9, .inl fy8))] H := hP
  have hD : va_D A [(mo, .inr (8, [.int qc, .int (iZ (np : Int)), .ref ow, .ref om, .ref ok_, .ref oK, .ref og, .ref on_, .ref oh, .ref ox, .int qn, .int qf, .ref op_, .int ql])), (ow, .inl (cI, 108000, .inl fx8)), (om, .inl (cI, 9, .inl fy8))] := hD
  show W p l e R s m args below meth c H locs _ _ Q (F0 m 53 ls [])
  obtain ⟨v8, hv8⟩ : ∃ z, z = up (up v7 1 (v7 5 / v7 2)) 5 (v7 5 % v7 2) := ⟨_, rfl⟩
  rw [← hv8] at w8
  have hP9 : va_P D cls0 [(mo, .inr (8, [.int qc, .int (iZ (np : Int)), .ref ow, .ref om, .ref ok_, .ref oK, .ref og, .ref on_, .ref oh, .ref ox, .int qn, .int qf, .ref op_, .int ql])), (ow, .inl (cI, 108000, .inl fx8)), (om, .inl (cI, 9, .inl fy8))] H := hP.sub [0, 1, 2] rfl
  have hD9 : va_D A [(mo, .inr (8, [.int qc, .int (iZ (np : Int)), .ref ow, .ref om, .ref ok_, .ref oK, .ref og, .ref on_, .ref oh, .ref ox, .int qn, .int qf, .ref op_, .int ql])), (ow, .inl (cI, 108000, .inl fx8)), (om, .inl (cI, 9, .inl fy8))] := hD.sub [0, 1, 2] (by decide) rfl
  rw [hQ, ← hAe]
  refine r_v K (fx8, fy8, v8) hS d_Mo_reduce_53 ?_ (fun t ht hv => ?_)
  · try dsimp only
    refine ⟨rfl, w8, ?_, ?_⟩
    · rw [hv8, up_n (by decide), up_n (by decide), e70]; unfold rdN; rw [Nat.gcd_comm]
    · rw [hv8, up_n (by decide), up_s, e75, e72]; unfold rdD; rw [Nat.gcd_comm]
  · exact ⟨by rw [ht]; exact hP9, va_K.moved hv hK, by rw [← hAe]; exact hD9⟩
