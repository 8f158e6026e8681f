theorem tr_a {V k : Nat} (h : nd V ≤ k) (h0 : 0 < k) (hd : dz V (k - 1) ≠ 0) : k = nd V := by
  apply Nat.le_antisymm _ h
  apply Nat.le_of_not_lt
  intro q
  exact hd (dz_hi (by omega))
theorem tr_b {V k : Nat} (h : nd V ≤ k) (h0 : 0 < k) (hd : dz V (k - 1) = 0) : nd V ≤ k - 1 := by
  rcases Nat.lt_or_ge (nd V) k with q | q
  · omega
  · have e : nd V = k := by omega
    rw [← e] at hd
    exact absurd hd (dz_top (by omega))
set_option maxHeartbeats 4000000 in
set_option maxRecDepth 100000 in
/-- trim(b, n) -/
theorem c_Mo_trim (l : Launch) (D : va_G) (mo : Nat) (qc : Int32) (np : Nat) (ow : Nat) (om : Nat) (ok_ : Nat) (oK : Nat) (og : Nat) (on_ : Nat) (oh : Nat) (ox : Nat) (qn : Int32) (qf : Int32) (op_ : Nat) (ql : Int32) (fw : Nat → Int32) (fm : Nat → Int32) (cI : ClassId) (b : Nat) (n : Nat) (V : Nat) (sz : Nat) (hb9 : b < 9) (hn : n ≤ 12000) (hV : nd V ≤ n) (hd : ∀ i, i < n → fw (12000 * b + i) = iZ (dz V i : Int)) : Met l y_Mo_trim (wsB y_Mo_trim b_Mo_trim 4 none) ({ frames := 0, cells := 0, slots := 0, locals := 0 }) (va_Pc [.ref mo, .int (iZ (b : Int)), .int (iZ (n : Int))] (wPre D [(cI, .int)] [(mo, .inr (8, [.int qc, .int (iZ (np : Int)), .ref ow, .ref om, .ref ok_, .ref oK, .ref og, .ref on_, .ref oh, .ref ox, .int qn, .int qf, .ref op_, .int ql])), (ow, .inl (cI, 108000, .inl fw)), (om, .inl (cI, 9, .inl fm))] sz)) (va_QV (fun (v_9 : Option Value) (u_9 : Unit) => v_9 = none) (fun u_9 => wPost D [(cI, .int)] [(mo, .inr (8, [.int qc, .int (iZ (np : Int)), .ref ow, .ref om, .ref ok_, .ref oK, .ref og, .ref on_, .ref oh, .ref ox, .int qn, .int qf, .ref op_, .int ql])), (ow, .inl (cI, 108000, .inl fw)), (om, .inl (cI, 9, .inl fm))] [(mo, .inr (8, [.int qc, .int (iZ (np : Int)), .ref ow, .ref om, .ref ok_, .ref oK, .ref og, .ref on_, .ref oh, .ref ox, .int qn, .int qf, .ref op_, .int ql])), (ow, .inl (cI, 108000, .inl fw)), (om, .inl (cI, 9, .inl (upd fm b (iZ (nd V : Int)))))] sz) (va_A [(mo, .inr (8, [.int qc, .int (iZ (np : Int)), .ref ow, .ref om, .ref ok_, .ref oK, .ref og, .ref on_, .ref oh, .ref ox, .int qn, .int qf, .ref op_, .int ql])), (ow, .inl (cI, 108000, .inl fw)), (om, .inl (cI, 9, .inl fm))] sz)) 0 0 (va_A [(mo, .inr (8, [.int qc, .int (iZ (np : Int)), .ref ow, .ref om, .ref ok_, .ref oK, .ref og, .ref on_, .ref oh, .ref ox, .int qn, .int qf, .ref op_, .int ql])), (ow, .inl (cI, 108000, .inl fw)), (om, .inl (cI, 9, .inl fm))] sz) := by
  refine met_enter (by decide +kernel) (Nat.le_of_ble_eq_true rfl) ?_
  intro p e s m args below meth c ls A R Q H locs K hin hAe hA hR hQ hP hK hD hS hl
  obtain ⟨hx, hb, hml, hrt, hlk, hts, hown, hno⟩ := id K
  have hl : lv_has ls 4 [(0, .ref mo), (1, .int (iZ (b : Int))), (2, .int (iZ (n : Int)))] := hl
  refine lv_iload_n hx hb d_Mo_trim_0 rfl (lv_at hl 2 rfl) ?_
  refine lv_istore_n (lv' := [(3, .int (iZ (n : Int))), (0, .ref mo), (1, .int (iZ (b : Int))), (2, .int (iZ (n : Int)))]) hx hb d_Mo_trim_1 rfl hl (by decide) rfl (fun ls hl => ?_)
  have L2 : ∀ (N : Nat) (k : Nat) (H : Heap) (locs : List Loc) (ls : Array Slot), k < N → (k ≤ n) → (nd V ≤ k) → va_P D cls0 [(mo, .inr (8, [.int qc, .int (iZ (np : Int)), .ref ow, .ref om, .ref ok_, .ref oK, .ref og, .ref on_, .ref oh, .ref ox, .int qn, .int qf, .ref op_, .int ql])), (ow, .inl (cI, 108000, .inl fw)), (om, .inl (cI, 9, .inl fm))] H → va_D A [(mo, .inr (8, [.int qc, .int (iZ (np : Int)), .ref ow, .ref om, .ref ok_, .ref oK, .ref og, .ref on_, .ref oh, .ref ox, .int qn, .int qf, .ref op_, .int ql])), (ow, .inl (cI, 108000, .inl fw)), (om, .inl (cI, 9, .inl fm))] → va_S A s.heap H locs → lv_has ls 4 [(0, .ref mo), (1, .int (iZ (b : Int))), (2, .int (iZ (n : Int))), (3, .int (iZ (k : Int)))] → W p l e R s m args below meth c H locs 0 0 Q (F0 m 2 ls []) := by
    intro N
    induction N with
    | zero => intro k H locs ls hN; exact absurd hN (Nat.not_lt_zero _)
    | succ N ih =>
      intro k H locs ls hN ik iV hP hD hS hl
      refine lv_iload_n hx hb d_Mo_trim_2 rfl (lv_at hl 3 rfl) ?_
      refine zz_if_le (tgt := 29) hx hb d_Mo_trim_3 (by decide) (by omega) (fun c3 => ?_) (fun c3 => ?_)
      · have ek : k = nd V := by first | omega | exact tr_a iV (by omega) (by omega)
        refine lv_aload_n hx hb d_Mo_trim_29 rfl (lv_at hl 0 rfl) ?_
        refine va_get (D := D) (ci := 8) (v := .ref om) (C := R_Mo) (T := F_Mo) (N := 14) hx hb hts i_Mo hown hK hP 0 rfl rfl 3 (by decide) (hts _ (big_in mw_1118 rfl)) (fun _ h9 => h9) rfl d_Mo_trim_30 ?_
        refine lv_iload_n hx hb d_Mo_trim_33 rfl (lv_at hl 1 rfl) ?_
        refine lv_iload_n hx hb d_Mo_trim_34 rfl (lv_at hl 3 rfl) ?_
        rw [show (k : Int) = (nd V : Int) by omega]
        refine zz_iast hx hb hK hP hD hS 2 0 rfl rfl (b) (by omega) (by omega) (by omega) d_Mo_trim_35 (fun H locs hP hD hS => ?_)
        have hP : va_P D cls0 [(mo, .inr (8, [.int qc, .int (iZ (np : Int)), .ref ow, .ref om, .ref ok_, .ref oK, .ref og, .ref on_, .ref oh, .ref ox, .int qn, .int qf, .ref op_, .int ql])), (ow, .inl (cI, 108000, .inl fw)), (om, .inl (cI, 9, .inl (upd fm b (iZ (nd V : Int)))))] H := hP
        have hD : va_D A [(mo, .inr (8, [.int qc, .int (iZ (np : Int)), .ref ow, .ref om, .ref ok_, .ref oK, .ref og, .ref on_, .ref oh, .ref ox, .int qn, .int qf, .ref op_, .int ql])), (ow, .inl (cI, 108000, .inl fw)), (om, .inl (cI, 9, .inl (upd fm b (iZ (nd V : Int)))))] := hD
        have hP9 : va_P D cls0 [(mo, .inr (8, [.int qc, .int (iZ (np : Int)), .ref ow, .ref om, .ref ok_, .ref oK, .ref og, .ref on_, .ref oh, .ref ox, .int qn, .int qf, .ref op_, .int ql])), (ow, .inl (cI, 108000, .inl fw)), (om, .inl (cI, 9, .inl (upd fm b (iZ (nd V : Int)))))] H := hP.sub [0, 1, 2] rfl
        have hD9 : va_D A [(mo, .inr (8, [.int qc, .int (iZ (np : Int)), .ref ow, .ref om, .ref ok_, .ref oK, .ref og, .ref on_, .ref oh, .ref ox, .int qn, .int qf, .ref op_, .int ql])), (ow, .inl (cI, 108000, .inl fw)), (om, .inl (cI, 9, .inl (upd fm b (iZ (nd V : Int)))))] := hD.sub [0, 1, 2] (by decide) rfl
        rw [hQ, ← hAe]
        refine r_v K () hS d_Mo_trim_36 ?_ (fun t ht hv => ?_)
        · exact rfl
        · exact ⟨by rw [ht]; exact hP9, va_K.moved hv hK, by rw [← hAe]; exact hD9⟩
      · have bd := dz_lt V (k - 1)
        refine lv_aload_n hx hb d_Mo_trim_6 rfl (lv_at hl 0 rfl) ?_
        refine va_get (D := D) (ci := 8) (v := .ref ow) (C := R_Mo) (T := F_Mo) (N := 14) hx hb hts i_Mo hown hK hP 0 rfl rfl 2 (by decide) (hts _ (big_in mw_1117 rfl)) (fun _ h9 => h9) rfl d_Mo_trim_7 ?_
        refine lv_sipush (v := iZ (12000)) hx hb d_Mo_trim_10 (by decide +kernel) ?_
        refine lv_iload_n hx hb d_Mo_trim_13 rfl (lv_at hl 1 rfl) ?_
        refine zz_imul hx hb d_Mo_trim_14 ?_
        refine lv_iload_n hx hb d_Mo_trim_15 rfl (lv_at hl 3 rfl) ?_
        refine zz_iadd hx hb d_Mo_trim_16 ?_
        refine lv_iconst (v := iZ (1)) hx hb d_Mo_trim_17 (by decide +kernel) ?_
        refine zz_isub hx hb d_Mo_trim_18 ?_
        refine zz_iald hx hb hK hP 1 0 rfl rfl (12000 * b + (k - 1)) (by omega) (by omega) (by omega) d_Mo_trim_19 ?_
        rw [hd (k - 1) (by omega)]
        refine zz_if_ne (tgt := 29) hx hb d_Mo_trim_20 (by decide) (by omega) (fun c20 => ?_) (fun c20 => ?_)
        · have ek : k = nd V := by first | omega | exact tr_a iV (by omega) (by omega)
          refine lv_aload_n hx hb d_Mo_trim_29 rfl (lv_at hl 0 rfl) ?_
          refine va_get (D := D) (ci := 8) (v := .ref om) (C := R_Mo) (T := F_Mo) (N := 14) hx hb hts i_Mo hown hK hP 0 rfl rfl 3 (by decide) (hts _ (big_in mw_1118 rfl)) (fun _ h9 => h9) rfl d_Mo_trim_30 ?_
          refine lv_iload_n hx hb d_Mo_trim_33 rfl (lv_at hl 1 rfl) ?_
          refine lv_iload_n hx hb d_Mo_trim_34 rfl (lv_at hl 3 rfl) ?_
          rw [show (k : Int) = (nd V : Int) by omega]
          refine zz_iast hx hb hK hP hD hS 2 0 rfl rfl (b) (by omega) (by omega) (by omega) d_Mo_trim_35 (fun H locs hP hD hS => ?_)
          have hP : va_P D cls0 [(mo, .inr (8, [.int qc, .int (iZ (np : Int)), .ref ow, .ref om, .ref ok_, .ref oK, .ref og, .ref on_, .ref oh, .ref ox, .int qn, .int qf, .ref op_, .int ql])), (ow, .inl (cI, 108000, .inl fw)), (om, .inl (cI, 9, .inl (upd fm b (iZ (nd V : Int)))))] H := hP
          have hD : va_D A [(mo, .inr (8, [.int qc, .int (iZ (np : Int)), .ref ow, .ref om, .ref ok_, .ref oK, .ref og, .ref on_, .ref oh, .ref ox, .int qn, .int qf, .ref op_, .int ql])), (ow, .inl (cI, 108000, .inl fw)), (om, .inl (cI, 9, .inl (upd fm b (iZ (nd V : Int)))))] := hD
          have hP9 : va_P D cls0 [(mo, .inr (8, [.int qc, .int (iZ (np : Int)), .ref ow, .ref om, .ref ok_, .ref oK, .ref og, .ref on_, .ref oh, .ref ox, .int qn, .int qf, .ref op_, .int ql])), (ow, .inl (cI, 108000, .inl fw)), (om, .inl (cI, 9, .inl (upd fm b (iZ (nd V : Int)))))] H := hP.sub [0, 1, 2] rfl
          have hD9 : va_D A [(mo, .inr (8, [.int qc, .int (iZ (np : Int)), .ref ow, .ref om, .ref ok_, .ref oK, .ref og, .ref on_, .ref oh, .ref ox, .int qn, .int qf, .ref op_, .int ql])), (ow, .inl (cI, 108000, .inl fw)), (om, .inl (cI, 9, .inl (upd fm b (iZ (nd V : Int)))))] := hD.sub [0, 1, 2] (by decide) rfl
          rw [hQ, ← hAe]
          refine r_v K () hS d_Mo_trim_36 ?_ (fun t ht hv => ?_)
          · exact rfl
          · exact ⟨by rw [ht]; exact hP9, va_K.moved hv hK, by rw [← hAe]; exact hD9⟩
        · refine lv_iinc (v := iZ ((k : Int) - 1)) (lv' := [(3, .int (iZ ((k : Int) - 1))), (0, .ref mo), (1, .int (iZ (b : Int))), (2, .int (iZ (n : Int)))]) hx hb d_Mo_trim_23 hl (k := 3) rfl (iZ_add _ _) (by decide) rfl (fun ls hl => ?_)
          refine lv_goto (tgt := 2) hx hb d_Mo_trim_26 (by decide) ?_
          rw [show ((k : Int) - 1 : Int) = ((k - 1 : Nat) : Int) by omega] at hl
          exact ih (k - 1) _ _ _ (by omega) (by omega) (tr_b iV (by omega) (by omega)) (hP.sub (ws' := [(mo, .inr (8, [.int qc, .int (iZ (np : Int)), .ref ow, .ref om, .ref ok_, .ref oK, .ref og, .ref on_, .ref oh, .ref ox, .int qn, .int qf, .ref op_, .int ql])), (ow, .inl (cI, 108000, .inl fw)), (om, .inl (cI, 9, .inl fm))]) [0, 1, 2] rfl) (hD.sub (ws' := [(mo, .inr (8, [.int qc, .int (iZ (np : Int)), .ref ow, .ref om, .ref ok_, .ref oK, .ref og, .ref on_, .ref oh, .ref ox, .int qn, .int qf, .ref op_, .int ql])), (ow, .inl (cI, 108000, .inl fw)), (om, .inl (cI, 9, .inl fm))]) [0, 1, 2] (by decide) rfl) hS (lv_sub hl [1, 2, 3, 0] rfl)
  exact L2 _ n _ _ _ (Nat.lt_succ_self _) (Nat.le_refl _) hV (hP.sub (ws' := [(mo, .inr (8, [.int qc, .int (iZ (np : Int)), .ref ow, .ref om, .ref ok_, .ref oK, .ref og, .ref on_, .ref oh, .ref ox, .int qn, .int qf, .ref op_, .int ql])), (ow, .inl (cI, 108000, .inl fw)), (om, .inl (cI, 9, .inl fm))]) [0, 1, 2] rfl) (hD.sub (ws' := [(mo, .inr (8, [.int qc, .int (iZ (np : Int)), .ref ow, .ref om, .ref ok_, .ref oK, .ref og, .ref on_, .ref oh, .ref ox, .int qn, .int qf, .ref op_, .int ql])), (ow, .inl (cI, 108000, .inl fw)), (om, .inl (cI, 9, .inl fm))]) [0, 1, 2] (by decide) rfl) hS (lv_sub hl [1, 2, 3, 0] rfl)
set_option maxHeartbeats 4000000 in
set_option maxRecDepth 100000 in
/-- figure(b, k) -/
theorem c_Mo_figure (l : Launch) (D : va_G) (mo : Nat) (qc : Int32) (np : Nat) (ow : Nat) (om : Nat) (ok_ : Nat) (oK : Nat) (og : Nat) (on_ : Nat) (oh : Nat) (ox : Nat) (qn : Int32) (qf : Int32) (op_ : Nat) (ql : Int32) (fw : Nat → Int32) (fm : Nat → Int32) (cI : ClassId) (b : Nat) (k : Nat) (v : Nat) (sz : Nat) (hb9 : b < 9) (hm : fm b = iZ (nd v : Int)) (hnd : nd v ≤ 12000) (hk : k < 12000) (hd : k < nd v → fw (12000 * b + k) = iZ (dz v k : Int)) : Met l y_Mo_figure (wsB y_Mo_figure b_Mo_figure 3 (some .int)) ({ frames := 0, cells := 0, slots := 0, locals := 0 }) (va_Pc [.ref mo, .int (iZ (b : Int)), .int (iZ (k : Int))] (wPre D [(cI, .int)] [(mo, .inr (8, [.int qc, .int (iZ (np : Int)), .ref ow, .ref om, .ref ok_, .ref oK, .ref og, .ref on_, .ref oh, .ref ox, .int qn, .int qf, .ref op_, .int ql])), (ow, .inl (cI, 108000, .inl fw)), (om, .inl (cI, 9, .inl fm))] sz)) (va_QV (fun (v_9 : Option Value) (u_9 : Nat) => v_9 = some (.int (iZ (u_9 : Int))) ∧ (u_9 = dz v k)) (fun u_9 => wPost D [(cI, .int)] [(mo, .inr (8, [.int qc, .int (iZ (np : Int)), .ref ow, .ref om, .ref ok_, .ref oK, .ref og, .ref on_, .ref oh, .ref ox, .int qn, .int qf, .ref op_, .int ql])), (ow, .inl (cI, 108000, .inl fw)), (om, .inl (cI, 9, .inl fm))] [(mo, .inr (8, [.int qc, .int (iZ (np : Int)), .ref ow, .ref om, .ref ok_, .ref oK, .ref og, .ref on_, .ref oh, .ref ox, .int qn, .int qf, .ref op_, .int ql])), (ow, .inl (cI, 108000, .inl fw)), (om, .inl (cI, 9, .inl fm))] sz) (va_A [(mo, .inr (8, [.int qc, .int (iZ (np : Int)), .ref ow, .ref om, .ref ok_, .ref oK, .ref og, .ref on_, .ref oh, .ref ox, .int qn, .int qf, .ref op_, .int ql])), (ow, .inl (cI, 108000, .inl fw)), (om, .inl (cI, 9, .inl fm))] sz)) 0 0 (va_A [(mo, .inr (8, [.int qc, .int (iZ (np : Int)), .ref ow, .ref om, .ref ok_, .ref oK, .ref og, .ref on_, .ref oh, .ref ox, .int qn, .int qf, .ref op_, .int ql])), (ow, .inl (cI, 108000, .inl fw)), (om, .inl (cI, 9, .inl fm))] sz) := by
  refine met_enter (by decide +kernel) (Nat.le_of_ble_eq_true rfl) ?_
  intro p e s m args below meth c ls A R Q H locs K hin hAe hA hR hQ hP hK hD hS hl
  obtain ⟨hx, hb, hml, hrt, hlk, hts, hown, hno⟩ := id K
  have hl : lv_has ls 3 [(0, .ref mo), (1, .int (iZ (b : Int))), (2, .int (iZ (k : Int)))] := hl
  refine lv_iload_n hx hb d_Mo_figure_0 rfl (lv_at hl 2 rfl) ?_
  refine lv_aload_n hx hb d_Mo_figure_1 rfl (lv_at hl 0 rfl) ?_
  refine va_get (D := D) (ci := 8) (v := .ref om) (C := R_Mo) (T := F_Mo) (N := 14) hx hb hts i_Mo hown hK hP 0 rfl rfl 3 (by decide) (hts _ (big_in mw_1118 rfl)) (fun _ h9 => h9) rfl d_Mo_figure_2 ?_
  refine lv_iload_n hx hb d_Mo_figure_5 rfl (lv_at hl 1 rfl) ?_
  refine zz_iald hx hb hK hP 2 0 rfl rfl (b) (by omega) (by omega) (by omega) d_Mo_figure_6 ?_
  rw [hm]
  refine zz_icmp_ge (tgt := 25) hx hb d_Mo_figure_7 (by decide) (by omega) (by omega) (fun c7 => ?_) (fun c7 => ?_)
  · refine lv_iconst (v := iZ (0)) hx hb d_Mo_figure_25 (by decide +kernel) ?_
    have hP9 : va_P D cls0 [(mo, .inr (8, [.int qc, .int (iZ (np : Int)), .ref ow, .ref om, .ref ok_, .ref oK, .ref og, .ref on_, .ref oh, .ref ox, .int qn, .int qf, .ref op_, .int ql])), (ow, .inl (cI, 108000, .inl fw)), (om, .inl (cI, 9, .inl fm))] H := hP.sub [0, 1, 2] rfl
    have hD9 : va_D A [(mo, .inr (8, [.int qc, .int (iZ (np : Int)), .ref ow, .ref om, .ref ok_, .ref oK, .ref og, .ref on_, .ref oh, .ref ox, .int qn, .int qf, .ref op_, .int ql])), (ow, .inl (cI, 108000, .inl fw)), (om, .inl (cI, 9, .inl fm))] := hD.sub [0, 1, 2] (by decide) rfl
    rw [hQ, ← hAe]
    refine r_i (v := (iZ 0)) K 0 hS d_Mo_figure_26 ?_ (fun t ht hv => ?_)
    · exact ⟨rfl, (dz_hi (by omega)).symm⟩
    · exact ⟨by rw [ht]; exact hP9, va_K.moved hv hK, by rw [← hAe]; exact hD9⟩
  · refine lv_aload_n hx hb d_Mo_figure_10 rfl (lv_at hl 0 rfl) ?_
    refine va_get (D := D) (ci := 8) (v := .ref ow) (C := R_Mo) (T := F_Mo) (N := 14) hx hb hts i_Mo hown hK hP 0 rfl rfl 2 (by decide) (hts _ (big_in mw_1117 rfl)) (fun _ h9 => h9) rfl d_Mo_figure_11 ?_
    refine lv_sipush (v := iZ (12000)) hx hb d_Mo_figure_14 (by decide +kernel) ?_
    refine lv_iload_n hx hb d_Mo_figure_17 rfl (lv_at hl 1 rfl) ?_
    refine zz_imul hx hb d_Mo_figure_18 ?_
    refine lv_iload_n hx hb d_Mo_figure_19 rfl (lv_at hl 2 rfl) ?_
    refine zz_iadd hx hb d_Mo_figure_20 ?_
    refine zz_iald hx hb hK hP 1 0 rfl rfl (12000 * b + k) (by omega) (by omega) (by omega) d_Mo_figure_21 ?_
    rw [hd (by omega)]
    refine lv_goto (tgt := 26) hx hb d_Mo_figure_22 (by decide) ?_
    have hP9 : va_P D cls0 [(mo, .inr (8, [.int qc, .int (iZ (np : Int)), .ref ow, .ref om, .ref ok_, .ref oK, .ref og, .ref on_, .ref oh, .ref ox, .int qn, .int qf, .ref op_, .int ql])), (ow, .inl (cI, 108000, .inl fw)), (om, .inl (cI, 9, .inl fm))] H := hP.sub [0, 1, 2] rfl
    have hD9 : va_D A [(mo, .inr (8, [.int qc, .int (iZ (np : Int)), .ref ow, .ref om, .ref ok_, .ref oK, .ref og, .ref on_, .ref oh, .ref ox, .int qn, .int qf, .ref op_, .int ql])), (ow, .inl (cI, 108000, .inl fw)), (om, .inl (cI, 9, .inl fm))] := hD.sub [0, 1, 2] (by decide) rfl
    rw [hQ, ← hAe]
    refine r_i (v := (iZ (dz v k : Int))) K (dz v k) hS d_Mo_figure_26 ?_ (fun t ht hv => ?_)
    · exact ⟨rfl, rfl⟩
    · exact ⟨by rw [ht]; exact hP9, va_K.moved hv hK, by rw [← hAe]; exact hD9⟩
set_option maxHeartbeats 4000000 in
set_option maxRecDepth 100000 in
/-- copyTo(b, c) -/
theorem c_Mo_copyTo (l : Launch) (D : va_G) (mo : Nat) (qc : Int32) (np : Nat) (ow : Nat) (om : Nat) (ok_ : Nat) (oK : Nat) (og : Nat) (on_ : Nat) (oh : Nat) (ox : Nat) (qn : Int32) (qf : Int32) (op_ : Nat) (ql : Int32) (fw : Nat → Int32) (fm : Nat → Int32) (cI : ClassId) (val : Nat → Nat) (b : Nat) (c_ : Nat) (sz : Nat) (hW : WB fw fm val) (hb9 : b < 9) (hc9 : c_ < 9) (hbc : b ≠ c_) : Met l y_Mo_copyTo (wsB y_Mo_copyTo b_Mo_copyTo 4 none) ({ frames := 0, cells := 0, slots := 0, locals := 0 }) (va_Pc [.ref mo, .int (iZ (b : Int)), .int (iZ (c_ : Int))] (wPre D [(cI, .int)] [(mo, .inr (8, [.int qc, .int (iZ (np : Int)), .ref ow, .ref om, .ref ok_, .ref oK, .ref og, .ref on_, .ref oh, .ref ox, .int qn, .int qf, .ref op_, .int ql])), (ow, .inl (cI, 108000, .inl fw)), (om, .inl (cI, 9, .inl fm))] sz)) (va_QV (fun (v_9 : Option Value) (u_9 : (Nat → Int32) × (Nat → Int32)) => v_9 = none ∧ (WB u_9.1 u_9.2 (up val b (val c_)))) (fun u_9 => wPost D [(cI, .int)] [(mo, .inr (8, [.int qc, .int (iZ (np : Int)), .ref ow, .ref om, .ref ok_, .ref oK, .ref og, .ref on_, .ref oh, .ref ox, .int qn, .int qf, .ref op_, .int ql])), (ow, .inl (cI, 108000, .inl fw)), (om, .inl (cI, 9, .inl fm))] [(mo, .inr (8, [.int qc, .int (iZ (np : Int)), .ref ow, .ref om, .ref ok_, .ref oK, .ref og, .ref on_, .ref oh, .ref ox, .int qn, .int qf, .ref op_, .int ql])), (ow, .inl (cI, 108000, .inl u_9.1)), (om, .inl (cI, 9, .inl u_9.2))] sz) (va_A [(mo, .inr (8, [.int qc, .int (iZ (np : Int)), .ref ow, .ref om, .ref ok_, .ref oK, .ref og, .ref on_, .ref oh, .ref ox, .int qn, .int qf, .ref op_, .int ql])), (ow, .inl (cI, 108000, .inl fw)), (om, .inl (cI, 9, .inl fm))] sz)) 0 0 (va_A [(mo, .inr (8, [.int qc, .int (iZ (np : Int)), .ref ow, .ref om, .ref ok_, .ref oK, .ref og, .ref on_, .ref oh, .ref ox, .int qn, .int qf, .ref op_, .int ql])), (ow, .inl (cI, 108000, .inl fw)), (om, .inl (cI, 9, .inl fm))] sz) := by
  refine met_enter (by decide +kernel) (Nat.le_of_ble_eq_true rfl) ?_
  intro p e s m args below meth c ls A R Q H locs K hin hAe hA hR hQ hP hK hD hS hl
  obtain ⟨hx, hb, hml, hrt, hlk, hts, hown, hno⟩ := id K
  have hl : lv_has ls 4 [(0, .ref mo), (1, .int (iZ (b : Int))), (2, .int (iZ (c_ : Int)))] := hl
  have hn9 := hW.n hc9
  rw [← ovr_0 fw b (val c_)] at hP hD
  refine lv_iconst (v := iZ (0)) hx hb d_Mo_copyTo_0 (by decide +kernel) ?_
  refine lv_istore_n (lv' := [(3, .int (iZ 0)), (0, .ref mo), (1, .int (iZ (b : Int))), (2, .int (iZ (c_ : Int)))]) hx hb d_Mo_copyTo_1 rfl hl (by decide) rfl (fun ls hl => ?_)
  have L2 : ∀ (N : Nat) (k : Nat) (H : Heap) (locs : List Loc) (ls : Array Slot), nd (val c_) - k < N → (k ≤ nd (val c_)) → va_P D cls0 [(mo, .inr (8, [.int qc, .int (iZ (np : Int)), .ref ow, .ref om, .ref ok_, .ref oK, .ref og, .ref on_, .ref oh, .ref ox, .int qn, .int qf, .ref op_, .int ql])), (ow, .inl (cI, 108000, .inl (ovr fw b k (val c_)))), (om, .inl (cI, 9, .inl fm))] H → va_D A [(mo, .inr (8, [.int qc, .int (iZ (np : Int)), .ref ow, .ref om, .ref ok_, .ref oK, .ref og, .ref on_, .ref oh, .ref ox, .int qn, .int qf, .ref op_, .int ql])), (ow, .inl (cI, 108000, .inl (ovr fw b k (val c_)))), (om, .inl (cI, 9, .inl fm))] → va_S A s.heap H locs → lv_has ls 4 [(0, .ref mo), (1, .int (iZ (b : Int))), (2, .int (iZ (c_ : Int))), (3, .int (iZ (k : Int)))] → W p l e R s m args below meth c H locs 0 0 Q (F0 m 2 ls []) := by
    intro N
    induction N with
    | zero => intro k H locs ls hN; exact absurd hN (Nat.not_lt_zero _)
    | succ N ih =>
      intro k H locs ls hN ik hP hD hS hl
      refine lv_iload_n hx hb d_Mo_copyTo_2 rfl (lv_at hl 3 rfl) ?_
      refine lv_aload_n hx hb d_Mo_copyTo_3 rfl (lv_at hl 0 rfl) ?_
      refine va_get (D := D) (ci := 8) (v := .ref om) (C := R_Mo) (T := F_Mo) (N := 14) hx hb hts i_Mo hown hK hP 0 rfl rfl 3 (by decide) (hts _ (big_in mw_1118 rfl)) (fun _ h9 => h9) rfl d_Mo_copyTo_4 ?_
      refine lv_iload_n hx hb d_Mo_copyTo_7 rfl (lv_at hl 2 rfl) ?_
      refine zz_iald hx hb hK hP 2 0 rfl rfl (c_) (by omega) (by omega) (by omega) d_Mo_copyTo_8 ?_
      rw [hW.m hc9]
      refine zz_icmp_ge (tgt := 42) hx hb d_Mo_copyTo_9 (by decide) (by omega) (by omega) (fun c9 => ?_) (fun c9 => ?_)
      · refine lv_aload_n hx hb d_Mo_copyTo_42 rfl (lv_at hl 0 rfl) ?_
        refine va_get (D := D) (ci := 8) (v := .ref om) (C := R_Mo) (T := F_Mo) (N := 14) hx hb hts i_Mo hown hK hP 0 rfl rfl 3 (by decide) (hts _ (big_in mw_1118 rfl)) (fun _ h9 => h9) rfl d_Mo_copyTo_43 ?_
        refine lv_iload_n hx hb d_Mo_copyTo_46 rfl (lv_at hl 1 rfl) ?_
        refine lv_aload_n hx hb d_Mo_copyTo_47 rfl (lv_at hl 0 rfl) ?_
        refine va_get (D := D) (ci := 8) (v := .ref om) (C := R_Mo) (T := F_Mo) (N := 14) hx hb hts i_Mo hown hK hP 0 rfl rfl 3 (by decide) (hts _ (big_in mw_1118 rfl)) (fun _ h9 => h9) rfl d_Mo_copyTo_48 ?_
        refine lv_iload_n hx hb d_Mo_copyTo_51 rfl (lv_at hl 2 rfl) ?_
        refine zz_iald hx hb hK hP 2 0 rfl rfl (c_) (by omega) (by omega) (by omega) d_Mo_copyTo_52 ?_
        rw [hW.m hc9]
        refine zz_iast hx hb hK hP hD hS 2 0 rfl rfl (b) (by omega) (by omega) (by omega) d_Mo_copyTo_53 (fun H locs hP hD hS => ?_)
        have hP : va_P D cls0 [(mo, .inr (8, [.int qc, .int (iZ (np : Int)), .ref ow, .ref om, .ref ok_, .ref oK, .ref og, .ref on_, .ref oh, .ref ox, .int qn, .int qf, .ref op_, .int ql])), (ow, .inl (cI, 108000, .inl (ovr fw b k (val c_)))), (om, .inl (cI, 9, .inl (upd fm b (iZ (nd (val c_) : Int)))))] H := hP
        have hD : va_D A [(mo, .inr (8, [.int qc, .int (iZ (np : Int)), .ref ow, .ref om, .ref ok_, .ref oK, .ref og, .ref on_, .ref oh, .ref ox, .int qn, .int qf, .ref op_, .int ql])), (ow, .inl (cI, 108000, .inl (ovr fw b k (val c_)))), (om, .inl (cI, 9, .inl (upd fm b (iZ (nd (val c_) : Int)))))] := hD
        have hP9 : va_P D cls0 [(mo, .inr (8, [.int qc, .int (iZ (np : Int)), .ref ow, .ref om, .ref ok_, .ref oK, .ref og, .ref on_, .ref oh, .ref ox, .int qn, .int qf, .ref op_, .int ql])), (ow, .inl (cI, 108000, .inl (ovr fw b k (val c_)))), (om, .inl (cI, 9, .inl (upd fm b (iZ (nd (val c_) : Int)))))] H := hP.sub [0, 1, 2] rfl
        have hD9 : va_D A [(mo, .inr (8, [.int qc, .int (iZ (np : Int)), .ref ow, .ref om, .ref ok_, .ref oK, .ref og, .ref on_, .ref oh, .ref ox, .int qn, .int qf, .ref op_, .int ql])), (ow, .inl (cI, 108000, .inl (ovr fw b k (val c_)))), (om, .inl (cI, 9, .inl (upd fm b (iZ (nd (val c_) : Int)))))] := hD.sub [0, 1, 2] (by decide) rfl
        rw [hQ, ← hAe]
        refine r_v K (ovr fw b k (val c_), upd fm b (iZ (nd (val c_) : Int))) hS d_Mo_copyTo_54 ?_ (fun t ht hv => ?_)
        · try dsimp only
          exact ⟨rfl, hW.set (by omega) (by omega) rfl⟩
        · exact ⟨by rw [ht]; exact hP9, va_K.moved hv hK, by rw [← hAe]; exact hD9⟩
      · refine lv_aload_n hx hb d_Mo_copyTo_12 rfl (lv_at hl 0 rfl) ?_
        refine va_get (D := D) (ci := 8) (v := .ref ow) (C := R_Mo) (T := F_Mo) (N := 14) hx hb hts i_Mo hown hK hP 0 rfl rfl 2 (by decide) (hts _ (big_in mw_1117 rfl)) (fun _ h9 => h9) rfl d_Mo_copyTo_13 ?_
        refine lv_sipush (v := iZ (12000)) hx hb d_Mo_copyTo_16 (by decide +kernel) ?_
        refine lv_iload_n hx hb d_Mo_copyTo_19 rfl (lv_at hl 1 rfl) ?_
        refine zz_imul hx hb d_Mo_copyTo_20 ?_
        refine lv_iload_n hx hb d_Mo_copyTo_21 rfl (lv_at hl 3 rfl) ?_
        refine zz_iadd hx hb d_Mo_copyTo_22 ?_
        refine lv_aload_n hx hb d_Mo_copyTo_23 rfl (lv_at hl 0 rfl) ?_
        refine va_get (D := D) (ci := 8) (v := .ref ow) (C := R_Mo) (T := F_Mo) (N := 14) hx hb hts i_Mo hown hK hP 0 rfl rfl 2 (by decide) (hts _ (big_in mw_1117 rfl)) (fun _ h9 => h9) rfl d_Mo_copyTo_24 ?_
        refine lv_sipush (v := iZ (12000)) hx hb d_Mo_copyTo_27 (by decide +kernel) ?_
        refine lv_iload_n hx hb d_Mo_copyTo_30 rfl (lv_at hl 2 rfl) ?_
        refine zz_imul hx hb d_Mo_copyTo_31 ?_
        refine lv_iload_n hx hb d_Mo_copyTo_32 rfl (lv_at hl 3 rfl) ?_
        refine zz_iadd hx hb d_Mo_copyTo_33 ?_
        refine zz_iald hx hb hK hP 1 0 rfl rfl (12000 * c_ + k) (by omega) (by omega) (by omega) d_Mo_copyTo_34 ?_
        rw [ovr_out (by omega), hW.d hc9 (by omega)]
        refine zz_iast hx hb hK hP hD hS 1 0 rfl rfl (12000 * b + k) (by omega) (by omega) (by omega) d_Mo_copyTo_35 (fun H locs hP hD hS => ?_)
        have hP : va_P D cls0 [(mo, .inr (8, [.int qc, .int (iZ (np : Int)), .ref ow, .ref om, .ref ok_, .ref oK, .ref og, .ref on_, .ref oh, .ref ox, .int qn, .int qf, .ref op_, .int ql])), (ow, .inl (cI, 108000, .inl (upd (ovr fw b k (val c_)) (12000 * b + k) (iZ (dz (val c_) k : Int))))), (om, .inl (cI, 9, .inl fm))] H := hP
        have hD : va_D A [(mo, .inr (8, [.int qc, .int (iZ (np : Int)), .ref ow, .ref om, .ref ok_, .ref oK, .ref og, .ref on_, .ref oh, .ref ox, .int qn, .int qf, .ref op_, .int ql])), (ow, .inl (cI, 108000, .inl (upd (ovr fw b k (val c_)) (12000 * b + k) (iZ (dz (val c_) k : Int))))), (om, .inl (cI, 9, .inl fm))] := hD
        rw [ovr_s (rfl)] at hP hD
        refine lv_iinc (v := iZ ((k : Int) + 1)) (lv' := [(3, .int (iZ ((k : Int) + 1))), (0, .ref mo), (1, .int (iZ (b : Int))), (2, .int (iZ (c_ : Int)))]) hx hb d_Mo_copyTo_36 hl (k := 3) rfl (iZ_add _ _) (by decide) rfl (fun ls hl => ?_)
        refine lv_goto (tgt := 2) hx hb d_Mo_copyTo_39 (by decide) ?_
        rw [show ((k : Int) + 1 : Int) = ((k + 1 : Nat) : Int) by omega] at hl
        exact ih (k + 1) _ _ _ (by omega) (by omega) (hP.sub (ws' := [(mo, .inr (8, [.int qc, .int (iZ (np : Int)), .ref ow, .ref om, .ref ok_, .ref oK, .ref og, .ref on_, .ref oh, .ref ox, .int qn, .int qf, .ref op_, .int ql])), (ow, .inl (cI, 108000, .inl (ovr fw b (k + 1) (val c_)))), (om, .inl (cI, 9, .inl fm))]) [0, 1, 2] rfl) (hD.sub (ws' := [(mo, .inr (8, [.int qc, .int (iZ (np : Int)), .ref ow, .ref om, .ref ok_, .ref oK, .ref og, .ref on_, .ref oh, .ref ox, .int qn, .int qf, .ref op_, .int ql])), (ow, .inl (cI, 108000, .inl (ovr fw b (k + 1) (val c_)))), (om, .inl (cI, 9, .inl fm))]) [0, 1, 2] (by decide) rfl) hS (lv_sub hl [1, 2, 3, 0] rfl)
  exact L2 _ 0 _ _ _ (Nat.lt_succ_self _) (Nat.zero_le _) (hP.sub (ws' := [(mo, .inr (8, [.int qc, .int (iZ (np : Int)), .ref ow, .ref om, .ref ok_, .ref oK, .ref og, .ref on_, .ref oh, .ref ox, .int qn, .int qf, .ref op_, .int ql])), (ow, .inl (cI, 108000, .inl (ovr fw b 0 (val c_)))), (om, .inl (cI, 9, .inl fm))]) [0, 1, 2] rfl) (hD.sub (ws' := [(mo, .inr (8, [.int qc, .int (iZ (np : Int)), .ref ow, .ref om, .ref ok_, .ref oK, .ref og, .ref on_, .ref oh, .ref ox, .int qn, .int qf, .ref op_, .int ql])), (ow, .inl (cI, 108000, .inl (ovr fw b 0 (val c_)))), (om, .inl (cI, 9, .inl fm))]) [0, 1, 2] (by decide) rfl) hS (lv_sub hl [1, 2, 3, 0] rfl)
theorem nd_long {v : Nat} (h : v ≤ 9223372036854775808) : nd v ≤ 5 := nd_le.mpr (Nat.lt_of_le_of_lt h (by decide))
theorem sl_d {z : Int} {V k : Nat} (h : z.natAbs = V / tB k) : (z.tmod 10000).natAbs = dz V k := by
  rw [Int.natAbs_tmod, h]; rfl
theorem sl_s {z : Int} {V k : Nat} (h : z.natAbs = V / tB k) : (z.tdiv 10000).natAbs = V / tB (k + 1) := by
  rw [Int.natAbs_tdiv, h, tB_s, ← Nat.div_div_eq_div_mul]; rfl
theorem sl_p {z : Int} {V k : Nat} (h : z.natAbs = V / tB k) (h0 : z ≠ 0) : k < nd V := by
  apply nd_lt.mpr
  apply Nat.le_of_not_lt
  intro q
  rw [Nat.div_eq_of_lt q] at h
  omega
theorem sl_e {z : Int} {V k : Nat} (h : z.natAbs = V / tB k) (h0 : z = 0) : nd V ≤ k := by
  rw [h0] at h
  have h' : V / tB k = 0 := h.symm
  exact nd_le.mpr ((Nat.div_eq_zero_iff_lt (tB_pos k)).mp h')
set_option maxHeartbeats 4000000 in
set_option maxRecDepth 100000 in
/-- setLong(b, v) -/
theorem c_Mo_setLong (l : Launch) (D : va_G) (mo : Nat) (qc : Int32) (np : Nat) (ow : Nat) (om : Nat) (ok_ : Nat) (oK : Nat) (og : Nat) (on_ : Nat) (oh : Nat) (ox : Nat) (qn : Int32) (qf : Int32) (op_ : Nat) (ql : Int32) (fw : Nat → Int32) (fm : Nat → Int32) (cI : ClassId) (val : Nat → Nat) (b : Nat) (zv : Int) (sz : Nat) (hW : WB fw fm val) (hb9 : b < 9) (hzv : -9223372036854775808 ≤ zv ∧ zv < 9223372036854775808) : Met l y_Mo_setLong (wsB y_Mo_setLong b_Mo_setLong 8 none) ({ frames := 0, cells := 0, slots := 0, locals := 0 }) (va_Pc [.ref mo, .int (iZ (b : Int)), .long (lZ zv)] (wPre D [(cI, .int)] [(mo, .inr (8, [.int qc, .int (iZ (np : Int)), .ref ow, .ref om, .ref ok_, .ref oK, .ref og, .ref on_, .ref oh, .ref ox, .int qn, .int qf, .ref op_, .int ql])), (ow, .inl (cI, 108000, .inl fw)), (om, .inl (cI, 9, .inl fm))] sz)) (va_QV (fun (v_9 : Option Value) (u_9 : (Nat → Int32) × (Nat → Int32)) => v_9 = none ∧ (WB u_9.1 u_9.2 (up val b (zv.natAbs)))) (fun u_9 => wPost D [(cI, .int)] [(mo, .inr (8, [.int qc, .int (iZ (np : Int)), .ref ow, .ref om, .ref ok_, .ref oK, .ref og, .ref on_, .ref oh, .ref ox, .int qn, .int qf, .ref op_, .int ql])), (ow, .inl (cI, 108000, .inl fw)), (om, .inl (cI, 9, .inl fm))] [(mo, .inr (8, [.int qc, .int (iZ (np : Int)), .ref ow, .ref om, .ref ok_, .ref oK, .ref og, .ref on_, .ref oh, .ref ox, .int qn, .int qf, .ref op_, .int ql])), (ow, .inl (cI, 108000, .inl u_9.1)), (om, .inl (cI, 9, .inl u_9.2))] sz) (va_A [(mo, .inr (8, [.int qc, .int (iZ (np : Int)), .ref ow, .ref om, .ref ok_, .ref oK, .ref og, .ref on_, .ref oh, .ref ox, .int qn, .int qf, .ref op_, .int ql])), (ow, .inl (cI, 108000, .inl fw)), (om, .inl (cI, 9, .inl fm))] sz)) 0 0 (va_A [(mo, .inr (8, [.int qc, .int (iZ (np : Int)), .ref ow, .ref om, .ref ok_, .ref oK, .ref og, .ref on_, .ref oh, .ref ox, .int qn, .int qf, .ref op_, .int ql])), (ow, .inl (cI, 108000, .inl fw)), (om, .inl (cI, 9, .inl fm))] sz) := by
  refine met_enter (by decide +kernel) (Nat.le_of_ble_eq_true rfl) ?_
  intro p e s m args below meth c ls A R Q H locs K hin hAe hA hR hQ hP hK hD hS hl
  obtain ⟨hx, hb, hml, hrt, hlk, hts, hown, hno⟩ := id K
  have hl : lv_has ls 8 [(0, .ref mo), (1, .int (iZ (b : Int))), (2, .long (lZ zv))] := hl
  have hn9 : nd zv.natAbs ≤ 5 := nd_long (by omega)
  rw [← ovr_0 fw b zv.natAbs] at hP hD
  refine lv_lload_n hx hb d_Mo_setLong_0 rfl (lv_at hl 2 rfl) ?_
  refine lv_lstore (lv' := [(4, .long (lZ zv)), (0, .ref mo), (1, .int (iZ (b : Int))), (2, .long (lZ zv))]) hx hb d_Mo_setLong_1 hl (by decide) rfl (fun ls hl => ?_)
  refine lv_iconst (v := iZ (0)) hx hb d_Mo_setLong_3 (by decide +kernel) ?_
  refine lv_istore (lv' := [(6, .int (iZ 0)), (4, .long (lZ zv)), (0, .ref mo), (1, .int (iZ (b : Int))), (2, .long (lZ zv))]) hx hb d_Mo_setLong_4 hl (by decide) rfl (fun ls hl => ?_)
  have L6 : ∀ (N : Nat) (k : Nat) (lf : Int) (H : Heap) (locs : List Loc) (ls : Array Slot), lf.natAbs < N → (k ≤ nd zv.natAbs) → (lf.natAbs = zv.natAbs / tB k) → (-9223372036854775808 ≤ lf ∧ lf < 9223372036854775808) → va_P D cls0 [(mo, .inr (8, [.int qc, .int (iZ (np : Int)), .ref ow, .ref om, .ref ok_, .ref oK, .ref og, .ref on_, .ref oh, .ref ox, .int qn, .int qf, .ref op_, .int ql])), (ow, .inl (cI, 108000, .inl (ovr fw b k (zv.natAbs)))), (om, .inl (cI, 9, .inl fm))] H → va_D A [(mo, .inr (8, [.int qc, .int (iZ (np : Int)), .ref ow, .ref om, .ref ok_, .ref oK, .ref og, .ref on_, .ref oh, .ref ox, .int qn, .int qf, .ref op_, .int ql])), (ow, .inl (cI, 108000, .inl (ovr fw b k (zv.natAbs)))), (om, .inl (cI, 9, .inl fm))] → va_S A s.heap H locs → lv_has ls 8 [(0, .ref mo), (1, .int (iZ (b : Int))), (2, .long (lZ zv)), (4, .long (lZ lf)), (6, .int (iZ (k : Int)))] → W p l e R s m args below meth c H locs 0 0 Q (F0 m 6 ls []) := by
    intro N
    induction N with
    | zero => intro k lf H locs ls hN; exact absurd hN (Nat.not_lt_zero _)
    | succ N ih =>
      intro k lf H locs ls hN ik ilf ilr hP hD hS hl
      refine lv_lload hx hb d_Mo_setLong_6 (lv_at hl 3 rfl) ?_
      refine lv_lconst (v := lZ (0)) hx hb d_Mo_setLong_8 (by decide +kernel) ?_
      refine zz_lcmp_eq (tgt := 62) hx hb d_Mo_setLong_9 d_Mo_setLong_10 (by decide) (by omega) (by omega) (fun c9 => ?_) (fun c9 => ?_)
      · have ke := sl_e ilf (by omega)
        refine lv_aload_n hx hb d_Mo_setLong_62 rfl (lv_at hl 0 rfl) ?_
        refine va_get (D := D) (ci := 8) (v := .ref om) (C := R_Mo) (T := F_Mo) (N := 14) hx hb hts i_Mo hown hK hP 0 rfl rfl 3 (by decide) (hts _ (big_in mw_1118 rfl)) (fun _ h9 => h9) rfl d_Mo_setLong_63 ?_
        refine lv_iload_n hx hb d_Mo_setLong_66 rfl (lv_at hl 1 rfl) ?_
        refine lv_iload hx hb d_Mo_setLong_67 (lv_at hl 4 rfl) ?_
        rw [show (k : Int) = (nd zv.natAbs : Int) by omega]
        refine zz_iast hx hb hK hP hD hS 2 0 rfl rfl (b) (by omega) (by omega) (by omega) d_Mo_setLong_69 (fun H locs hP hD hS => ?_)
        have hP : va_P D cls0 [(mo, .inr (8, [.int qc, .int (iZ (np : Int)), .ref ow, .ref om, .ref ok_, .ref oK, .ref og, .ref on_, .ref oh, .ref ox, .int qn, .int qf, .ref op_, .int ql])), (ow, .inl (cI, 108000, .inl (ovr fw b k (zv.natAbs)))), (om, .inl (cI, 9, .inl (upd fm b (iZ (nd zv.natAbs : Int)))))] H := hP
        have hD : va_D A [(mo, .inr (8, [.int qc, .int (iZ (np : Int)), .ref ow, .ref om, .ref ok_, .ref oK, .ref og, .ref on_, .ref oh, .ref ox, .int qn, .int qf, .ref op_, .int ql])), (ow, .inl (cI, 108000, .inl (ovr fw b k (zv.natAbs)))), (om, .inl (cI, 9, .inl (upd fm b (iZ (nd zv.natAbs : Int)))))] := hD
        have hP9 : va_P D cls0 [(mo, .inr (8, [.int qc, .int (iZ (np : Int)), .ref ow, .ref om, .ref ok_, .ref oK, .ref og, .ref on_, .ref oh, .ref ox, .int qn, .int qf, .ref op_, .int ql])), (ow, .inl (cI, 108000, .inl (ovr fw b k (zv.natAbs)))), (om, .inl (cI, 9, .inl (upd fm b (iZ (nd zv.natAbs : Int)))))] H := hP.sub [0, 1, 2] rfl
        have hD9 : va_D A [(mo, .inr (8, [.int qc, .int (iZ (np : Int)), .ref ow, .ref om, .ref ok_, .ref oK, .ref og, .ref on_, .ref oh, .ref ox, .int qn, .int qf, .ref op_, .int ql])), (ow, .inl (cI, 108000, .inl (ovr fw b k (zv.natAbs)))), (om, .inl (cI, 9, .inl (upd fm b (iZ (nd zv.natAbs : Int)))))] := hD.sub [0, 1, 2] (by decide) rfl
        rw [hQ, ← hAe]
        refine r_v K (ovr fw b k (zv.natAbs), upd fm b (iZ (nd zv.natAbs : Int))) hS d_Mo_setLong_70 ?_ (fun t ht hv => ?_)
        · try dsimp only
          exact ⟨rfl, hW.set (by omega) (by omega) rfl⟩
        · exact ⟨by rw [ht]; exact hP9, va_K.moved hv hK, by rw [← hAe]; exact hD9⟩
      · have et : (lf.tdiv 10000).natAbs = lf.natAbs / 10000 := by rw [Int.natAbs_tdiv]; rfl
        have kp := sl_p ilf (by omega)
        have ed := sl_d ilf
        have hdl := dz_lt zv.natAbs k
        refine lv_lload hx hb d_Mo_setLong_13 (lv_at hl 3 rfl) ?_
        refine lv_ldc2 (v := lZ (10000)) hx hb hown (hts _ (big_in mw_1181 rfl)) d_Mo_setLong_15 ?_
        refine zz_lremT hx hb d_Mo_setLong_18 (by omega) (by omega) ?_
        refine zz_l2i hx hb d_Mo_setLong_19 ?_
        refine lv_istore (lv' := [(7, .int (iZ (lf.tmod 10000))), (0, .ref mo), (1, .int (iZ (b : Int))), (2, .long (lZ zv)), (4, .long (lZ lf)), (6, .int (iZ (k : Int)))]) hx hb d_Mo_setLong_20 hl (by decide) rfl (fun ls hl => ?_)
        refine lv_aload_n hx hb d_Mo_setLong_22 rfl (lv_at hl 1 rfl) ?_
        refine va_get (D := D) (ci := 8) (v := .ref ow) (C := R_Mo) (T := F_Mo) (N := 14) hx hb hts i_Mo hown hK hP 0 rfl rfl 2 (by decide) (hts _ (big_in mw_1117 rfl)) (fun _ h9 => h9) rfl d_Mo_setLong_23 ?_
        refine lv_sipush (v := iZ (12000)) hx hb d_Mo_setLong_26 (by decide +kernel) ?_
        refine lv_iload_n hx hb d_Mo_setLong_29 rfl (lv_at hl 2 rfl) ?_
        refine zz_imul hx hb d_Mo_setLong_30 ?_
        refine lv_iload hx hb d_Mo_setLong_31 (lv_at hl 5 rfl) ?_
        refine zz_iadd hx hb d_Mo_setLong_33 ?_
        refine lv_iload hx hb d_Mo_setLong_34 (lv_at hl 0 rfl) ?_
        refine zz_if_ge (tgt := 45) hx hb d_Mo_setLong_36 (by decide) (by omega) (fun c36 => ?_) (fun c36 => ?_)
        · refine lv_iload hx hb d_Mo_setLong_45 (lv_at hl 0 rfl) ?_
          refine zz_iast hx hb hK hP hD hS 1 0 rfl rfl (12000 * b + k) (by omega) (by omega) (by omega) d_Mo_setLong_47 (fun H locs hP hD hS => ?_)
          have hP : va_P D cls0 [(mo, .inr (8, [.int qc, .int (iZ (np : Int)), .ref ow, .ref om, .ref ok_, .ref oK, .ref og, .ref on_, .ref oh, .ref ox, .int qn, .int qf, .ref op_, .int ql])), (ow, .inl (cI, 108000, .inl (upd (ovr fw b k (zv.natAbs)) (12000 * b + k) (iZ (lf.tmod 10000))))), (om, .inl (cI, 9, .inl fm))] H := hP
          have hD : va_D A [(mo, .inr (8, [.int qc, .int (iZ (np : Int)), .ref ow, .ref om, .ref ok_, .ref oK, .ref og, .ref on_, .ref oh, .ref ox, .int qn, .int qf, .ref op_, .int ql])), (ow, .inl (cI, 108000, .inl (upd (ovr fw b k (zv.natAbs)) (12000 * b + k) (iZ (lf.tmod 10000))))), (om, .inl (cI, 9, .inl fm))] := hD
          rw [ovr_s (by congr 1; omega)] at hP hD
          refine lv_lload hx hb d_Mo_setLong_48 (lv_at hl 4 rfl) ?_
          refine lv_ldc2 (v := lZ (10000)) hx hb hown (hts _ (big_in mw_1181 rfl)) d_Mo_setLong_50 ?_
          refine zz_ldivT hx hb d_Mo_setLong_53 (by omega) (by omega) ?_
          refine lv_lstore (lv' := [(4, .long (lZ (lf.tdiv 10000))), (7, .int (iZ (lf.tmod 10000))), (0, .ref mo), (1, .int (iZ (b : Int))), (2, .long (lZ zv)), (6, .int (iZ (k : Int)))]) hx hb d_Mo_setLong_54 hl (by decide) rfl (fun ls hl => ?_)
          refine lv_iinc (v := iZ ((k : Int) + 1)) (lv' := [(6, .int (iZ ((k : Int) + 1))), (4, .long (lZ (lf.tdiv 10000))), (7, .int (iZ (lf.tmod 10000))), (0, .ref mo), (1, .int (iZ (b : Int))), (2, .long (lZ zv))]) hx hb d_Mo_setLong_56 hl (k := 5) rfl (iZ_add _ _) (by decide) rfl (fun ls hl => ?_)
          refine lv_goto (tgt := 6) hx hb d_Mo_setLong_59 (by decide) ?_
          rw [show ((k : Int) + 1 : Int) = ((k + 1 : Nat) : Int) by omega] at hl
          exact ih (k + 1) (lf.tdiv 10000) _ _ _ (by omega) (sl_p ilf (by omega)) (sl_s ilf) (by omega) (hP.sub (ws' := [(mo, .inr (8, [.int qc, .int (iZ (np : Int)), .ref ow, .ref om, .ref ok_, .ref oK, .ref og, .ref on_, .ref oh, .ref ox, .int qn, .int qf, .ref op_, .int ql])), (ow, .inl (cI, 108000, .inl (ovr fw b (k + 1) (zv.natAbs)))), (om, .inl (cI, 9, .inl fm))]) [0, 1, 2] rfl) (hD.sub (ws' := [(mo, .inr (8, [.int qc, .int (iZ (np : Int)), .ref ow, .ref om, .ref ok_, .ref oK, .ref og, .ref on_, .ref oh, .ref ox, .int qn, .int qf, .ref op_, .int ql])), (ow, .inl (cI, 108000, .inl (ovr fw b (k + 1) (zv.natAbs)))), (om, .inl (cI, 9, .inl fm))]) [0, 1, 2] (by decide) rfl) hS (lv_sub hl [3, 4, 5, 1, 0] rfl)
        · refine lv_iload hx hb d_Mo_setLong_39 (lv_at hl 0 rfl) ?_
          refine zz_ineg hx hb d_Mo_setLong_41 ?_
          refine lv_goto (tgt := 47) hx hb d_Mo_setLong_42 (by decide) ?_
          refine zz_iast hx hb hK hP hD hS 1 0 rfl rfl (12000 * b + k) (by omega) (by omega) (by omega) d_Mo_setLong_47 (fun H locs hP hD hS => ?_)
          have hP : va_P D cls0 [(mo, .inr (8, [.int qc, .int (iZ (np : Int)), .ref ow, .ref om, .ref ok_, .ref oK, .ref og, .ref on_, .ref oh, .ref ox, .int qn, .int qf, .ref op_, .int ql])), (ow, .inl (cI, 108000, .inl (upd (ovr fw b k (zv.natAbs)) (12000 * b + k) (iZ (-(lf.tmod 10000)))))), (om, .inl (cI, 9, .inl fm))] H := hP
          have hD : va_D A [(mo, .inr (8, [.int qc, .int (iZ (np : Int)), .ref ow, .ref om, .ref ok_, .ref oK, .ref og, .ref on_, .ref oh, .ref ox, .int qn, .int qf, .ref op_, .int ql])), (ow, .inl (cI, 108000, .inl (upd (ovr fw b k (zv.natAbs)) (12000 * b + k) (iZ (-(lf.tmod 10000)))))), (om, .inl (cI, 9, .inl fm))] := hD
          rw [ovr_s (by congr 1; omega)] at hP hD
          refine lv_lload hx hb d_Mo_setLong_48 (lv_at hl 4 rfl) ?_
          refine lv_ldc2 (v := lZ (10000)) hx hb hown (hts _ (big_in mw_1181 rfl)) d_Mo_setLong_50 ?_
          refine zz_ldivT hx hb d_Mo_setLong_53 (by omega) (by omega) ?_
          refine lv_lstore (lv' := [(4, .long (lZ (lf.tdiv 10000))), (7, .int (iZ (lf.tmod 10000))), (0, .ref mo), (1, .int (iZ (b : Int))), (2, .long (lZ zv)), (6, .int (iZ (k : Int)))]) hx hb d_Mo_setLong_54 hl (by decide) rfl (fun ls hl => ?_)
          refine lv_iinc (v := iZ ((k : Int) + 1)) (lv' := [(6, .int (iZ ((k : Int) + 1))), (4, .long (lZ (lf.tdiv 10000))), (7, .int (iZ (lf.tmod 10000))), (0, .ref mo), (1, .int (iZ (b : Int))), (2, .long (lZ zv))]) hx hb d_Mo_setLong_56 hl (k := 5) rfl (iZ_add _ _) (by decide) rfl (fun ls hl => ?_)
          refine lv_goto (tgt := 6) hx hb d_Mo_setLong_59 (by decide) ?_
          rw [show ((k : Int) + 1 : Int) = ((k + 1 : Nat) : Int) by omega] at hl
          exact ih (k + 1) (lf.tdiv 10000) _ _ _ (by omega) (sl_p ilf (by omega)) (sl_s ilf) (by omega) (hP.sub (ws' := [(mo, .inr (8, [.int qc, .int (iZ (np : Int)), .ref ow, .ref om, .ref ok_, .ref oK, .ref og, .ref on_, .ref oh, .ref ox, .int qn, .int qf, .ref op_, .int ql])), (ow, .inl (cI, 108000, .inl (ovr fw b (k + 1) (zv.natAbs)))), (om, .inl (cI, 9, .inl fm))]) [0, 1, 2] rfl) (hD.sub (ws' := [(mo, .inr (8, [.int qc, .int (iZ (np : Int)), .ref ow, .ref om, .ref ok_, .ref oK, .ref og, .ref on_, .ref oh, .ref ox, .int qn, .int qf, .ref op_, .int ql])), (ow, .inl (cI, 108000, .inl (ovr fw b (k + 1) (zv.natAbs)))), (om, .inl (cI, 9, .inl fm))]) [0, 1, 2] (by decide) rfl) hS (lv_sub hl [3, 4, 5, 1, 0] rfl)
  exact L6 _ 0 zv _ _ _ (Nat.lt_succ_self _) (Nat.zero_le _) (by rw [tB_0, Nat.div_one]) hzv (hP.sub (ws' := [(mo, .inr (8, [.int qc, .int (iZ (np : Int)), .ref ow, .ref om, .ref ok_, .ref oK, .ref og, .ref on_, .ref oh, .ref ox, .int qn, .int qf, .ref op_, .int ql])), (ow, .inl (cI, 108000, .inl (ovr fw b 0 (zv.natAbs)))), (om, .inl (cI, 9, .inl fm))]) [0, 1, 2] rfl) (hD.sub (ws' := [(mo, .inr (8, [.int qc, .int (iZ (np : Int)), .ref ow, .ref om, .ref ok_, .ref oK, .ref og, .ref on_, .ref oh, .ref ox, .int qn, .int qf, .ref op_, .int ql])), (ow, .inl (cI, 108000, .inl (ovr fw b 0 (zv.natAbs)))), (om, .inl (cI, 9, .inl fm))]) [0, 1, 2] (by decide) rfl) hS (lv_sub hl [2, 3, 4, 1, 0] rfl)
