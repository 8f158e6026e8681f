theorem tk_fin {u v : Nat} (h : v ≤ u) : nd (u - v) ≤ nd u := nd_mono (Nat.sub_le _ _)
set_option maxHeartbeats 4000000 in
set_option maxRecDepth 100000 in
/-- takeFrom(b, c) -/
theorem c_Mo_takeFrom (l : Launch) (D : va_G) (mo : Nat) (qc : Int32) (np : Nat) (ow : Nat) (om : Nat) (ok_ : Nat) (oK : Nat) (og : Nat) (on_ : Nat) (oh : Nat) (ox : Nat) (qn : Int32) (qf : Int32) (op_ : Nat) (ql : Int32) (fw : Nat → Int32) (fm : Nat → Int32) (cI : ClassId) (val : Nat → Nat) (b : Nat) (c_ : Nat) (sz : Nat) (hW : WB fw fm val) (hb9 : b < 9) (hc9 : c_ < 9) (hbc : b ≠ c_) (hle : val c_ ≤ val b) : Met l y_Mo_takeFrom (wsB y_Mo_takeFrom b_Mo_takeFrom 6 none) ({ frames := 1, cells := 0, slots := 0, locals := 23 }) (va_Pc [.ref mo, .int (iZ (b : Int)), .int (iZ (c_ : Int))] (wPre D [(cI, .int)] [(mo, .inr (8, [.int qc, .int (iZ (np : Int)), .ref ow, .ref om, .ref ok_, .ref oK, .ref og, .ref on_, .ref oh, .ref ox, .int qn, .int qf, .ref op_, .int ql])), (ow, .inl (cI, 108000, .inl fw)), (om, .inl (cI, 9, .inl fm))] sz)) (va_QV (fun (v_9 : Option Value) (u_9 : (Nat → Int32) × (Nat → Int32)) => v_9 = none ∧ (WB u_9.1 u_9.2 (up val b (val b - val c_)))) (fun u_9 => wPost D [(cI, .int)] [(mo, .inr (8, [.int qc, .int (iZ (np : Int)), .ref ow, .ref om, .ref ok_, .ref oK, .ref og, .ref on_, .ref oh, .ref ox, .int qn, .int qf, .ref op_, .int ql])), (ow, .inl (cI, 108000, .inl fw)), (om, .inl (cI, 9, .inl fm))] [(mo, .inr (8, [.int qc, .int (iZ (np : Int)), .ref ow, .ref om, .ref ok_, .ref oK, .ref og, .ref on_, .ref oh, .ref ox, .int qn, .int qf, .ref op_, .int ql])), (ow, .inl (cI, 108000, .inl u_9.1)), (om, .inl (cI, 9, .inl u_9.2))] sz) (va_A [(mo, .inr (8, [.int qc, .int (iZ (np : Int)), .ref ow, .ref om, .ref ok_, .ref oK, .ref og, .ref on_, .ref oh, .ref ox, .int qn, .int qf, .ref op_, .int ql])), (ow, .inl (cI, 108000, .inl fw)), (om, .inl (cI, 9, .inl fm))] sz)) 0 0 (va_A [(mo, .inr (8, [.int qc, .int (iZ (np : Int)), .ref ow, .ref om, .ref ok_, .ref oK, .ref og, .ref on_, .ref oh, .ref ox, .int qn, .int qf, .ref op_, .int ql])), (ow, .inl (cI, 108000, .inl fw)), (om, .inl (cI, 9, .inl fm))] sz) := by
  refine met_enter (by decide +kernel) (Nat.le_of_ble_eq_true rfl) ?_
  intro p e s m args below meth c ls A R Q H locs K hin hAe hA hR hQ hP hK hD hS hl
  obtain ⟨hx, hb, hml, hrt, hlk, hts, hown, hno⟩ := id K
  have hl : lv_has ls 6 [(0, .ref mo), (1, .int (iZ (b : Int))), (2, .int (iZ (c_ : Int)))] := hl
  have hn9 := hW.n hc9
  have hn8 := hW.n hb9
  rw [← ovr_0 fw b (val b - val c_)] at hP hD
  refine lv_iconst (v := iZ (0)) hx hb d_Mo_takeFrom_0 (by decide +kernel) ?_
  refine lv_istore_n (lv' := [(3, .int (iZ 0)), (0, .ref mo), (1, .int (iZ (b : Int))), (2, .int (iZ (c_ : Int)))]) hx hb d_Mo_takeFrom_1 rfl hl (by decide) rfl (fun ls hl => ?_)
  refine lv_iconst (v := iZ (0)) hx hb d_Mo_takeFrom_2 (by decide +kernel) ?_
  refine lv_istore (lv' := [(4, .int (iZ 0)), (3, .int (iZ 0)), (0, .ref mo), (1, .int (iZ (b : Int))), (2, .int (iZ (c_ : Int)))]) hx hb d_Mo_takeFrom_3 hl (by decide) rfl (fun ls hl => ?_)
  have L5 : ∀ (N : Nat) (k : Nat) (bw : Nat) (H : Heap) (locs : List Loc) (ls : Array Slot), nd (val b) - k < N → (k ≤ nd (val b)) → (bw = aT (val b - val c_) (val c_) k / tB k) → va_P D cls0 [(mo, .inr (8, [.int qc, .int (iZ (np : Int)), .ref ow, .ref om, .ref ok_, .ref oK, .ref og, .ref on_, .ref oh, .ref ox, .int qn, .int qf, .ref op_, .int ql])), (ow, .inl (cI, 108000, .inl (ovr fw b k (val b - val c_)))), (om, .inl (cI, 9, .inl fm))] H → va_D A [(mo, .inr (8, [.int qc, .int (iZ (np : Int)), .ref ow, .ref om, .ref ok_, .ref oK, .ref og, .ref on_, .ref oh, .ref ox, .int qn, .int qf, .ref op_, .int ql])), (ow, .inl (cI, 108000, .inl (ovr fw b k (val b - val c_)))), (om, .inl (cI, 9, .inl fm))] → va_S A s.heap H locs → lv_has ls 6 [(0, .ref mo), (1, .int (iZ (b : Int))), (2, .int (iZ (c_ : Int))), (3, .int (iZ (bw : Int))), (4, .int (iZ (k : Int)))] → W p l e R s m args below meth c H locs 0 0 Q (F0 m 5 ls []) := by
    intro N
    induction N with
    | zero => intro k bw H locs ls hN; exact absurd hN (Nat.not_lt_zero _)
    | succ N ih =>
      intro k bw H locs ls hN ik ibw hP hD hS hl
      refine lv_iload hx hb d_Mo_takeFrom_5 (lv_at hl 4 rfl) ?_
      refine lv_aload_n hx hb d_Mo_takeFrom_7 rfl (lv_at hl 0 rfl) ?_
      refine va_get (D := D) (ci := 8) (v := .ref om) (C := R_Mo) (T := F_Mo) (N := 14) hx hb hts i_Mo hown hK hP 0 rfl rfl 3 (by decide) (hts _ (big_in mw_1118 rfl)) (fun _ h9 => h9) rfl d_Mo_takeFrom_8 ?_
      refine lv_iload_n hx hb d_Mo_takeFrom_11 rfl (lv_at hl 1 rfl) ?_
      refine zz_iald hx hb hK hP 2 0 rfl rfl (b) (by omega) (by omega) (by omega) d_Mo_takeFrom_12 ?_
      rw [hW.m hb9]
      refine zz_icmp_ge (tgt := 87) hx hb d_Mo_takeFrom_13 (by decide) (by omega) (by omega) (fun c13 => ?_) (fun c13 => ?_)
      · refine lv_aload_n hx hb d_Mo_takeFrom_87 rfl (lv_at hl 0 rfl) ?_
        refine lv_iload_n hx hb d_Mo_takeFrom_88 rfl (lv_at hl 1 rfl) ?_
        refine lv_aload_n hx hb d_Mo_takeFrom_89 rfl (lv_at hl 0 rfl) ?_
        refine va_get (D := D) (ci := 8) (v := .ref om) (C := R_Mo) (T := F_Mo) (N := 14) hx hb hts i_Mo hown hK hP 0 rfl rfl 3 (by decide) (hts _ (big_in mw_1118 rfl)) (fun _ h9 => h9) rfl d_Mo_takeFrom_90 ?_
        refine lv_iload_n hx hb d_Mo_takeFrom_93 rfl (lv_at hl 1 rfl) ?_
        refine zz_iald hx hb hK hP 2 0 rfl rfl (b) (by omega) (by omega) (by omega) d_Mo_takeFrom_94 ?_
        rw [hW.m hb9]
        rw [show ((nd (val b) : Int) : Int) = (((nd (val b)) : Nat) : Int) by omega]
        refine cv (n := 2) (wr := []) (w1 := (fun (u : Unit) => [(mo, .inr (8, [.int qc, .int (iZ (np : Int)), .ref ow, .ref om, .ref ok_, .ref oK, .ref og, .ref on_, .ref oh, .ref ox, .int qn, .int qf, .ref op_, .int ql])), (ow, .inl (cI, 108000, .inl (ovr fw b k (val b - val c_)))), (om, .inl (cI, 9, .inl (upd fm b (iZ (nd (val b - val c_) : Int)))))])) (As := [.int (iZ (b : Int)), .int (iZ (((nd (val b)) : Nat) : Int))]) (rest := []) K hP hD hK hS hA hl.1 (c_Mo_trim l D mo qc np ow om ok_ oK og on_ oh ox qn qf op_ ql (ovr fw b k (val b - val c_)) fm cI b (nd (val b)) (val b - val c_) H.size hb9 (by omega) (tk_fin hle) (fun i hi => ovr_in (by omega))) [0, 1, 2] [] [0] rfl rfl rfl (by decide) (by decide) (by decide) 0 rfl rfl (big_in mw_1211 rfl) (big_in mw_10 rfl) (big_in mw_1208 rfl) (big_in mw_1210 rfl) (big_in sp_26 rfl) rfl rfl (by decide +kernel) ⟨by rw [hR]; exact Nat.le_of_ble_eq_true rfl, by rw [hR]; exact Nat.le_of_ble_eq_true rfl⟩ rfl (Nat.le_of_ble_eq_true rfl) d_Mo_takeFrom_95 ⟨by rw [hR]; exact Nat.le_of_ble_eq_true rfl, by rw [hR]; exact Nat.le_of_ble_eq_true rfl⟩ rfl (fun v u H locs hp1 hP hD hS _ => ?_)
        obtain rfl := hp1
        have hP : va_P D cls0 [(mo, .inr (8, [.int qc, .int (iZ (np : Int)), .ref ow, .ref om, .ref ok_, .ref oK, .ref og, .ref on_, .ref oh, .ref ox, .int qn, .int qf, .ref op_, .int ql])), (ow, .inl (cI, 108000, .inl (ovr fw b k (val b - val c_)))), (om, .inl (cI, 9, .inl (upd fm b (iZ (nd (val b - val c_) : Int)))))] H := hP
        have hD : va_D A [(mo, .inr (8, [.int qc, .int (iZ (np : Int)), .ref ow, .ref om, .ref ok_, .ref oK, .ref og, .ref on_, .ref oh, .ref ox, .int qn, .int qf, .ref op_, .int ql])), (ow, .inl (cI, 108000, .inl (ovr fw b k (val b - val c_)))), (om, .inl (cI, 9, .inl (upd fm b (iZ (nd (val b - val c_) : Int)))))] := hD
        show W p l e R s m args below meth c H locs _ _ Q (F0 m 98 ls [])
        have hP9 : va_P D cls0 [(mo, .inr (8, [.int qc, .int (iZ (np : Int)), .ref ow, .ref om, .ref ok_, .ref oK, .ref og, .ref on_, .ref oh, .ref ox, .int qn, .int qf, .ref op_, .int ql])), (ow, .inl (cI, 108000, .inl (ovr fw b k (val b - val c_)))), (om, .inl (cI, 9, .inl (upd fm b (iZ (nd (val b - val c_) : Int)))))] H := hP.sub [0, 1, 2] rfl
        have hD9 : va_D A [(mo, .inr (8, [.int qc, .int (iZ (np : Int)), .ref ow, .ref om, .ref ok_, .ref oK, .ref og, .ref on_, .ref oh, .ref ox, .int qn, .int qf, .ref op_, .int ql])), (ow, .inl (cI, 108000, .inl (ovr fw b k (val b - val c_)))), (om, .inl (cI, 9, .inl (upd fm b (iZ (nd (val b - val c_) : Int)))))] := hD.sub [0, 1, 2] (by decide) rfl
        rw [hQ, ← hAe]
        refine r_v K ((ovr fw b k (val b - val c_)), upd fm b (iZ (nd (val b - val c_) : Int))) hS d_Mo_takeFrom_98 ?_ (fun t ht hv => ?_)
        · try dsimp only
          exact ⟨rfl, hW.set (by have q := tk_fin hle; omega) (by omega) rfl⟩
        · exact ⟨by rw [ht]; exact hP9, va_K.moved hv hK, by rw [← hAe]; exact hD9⟩
      · have b1 := dz_lt (val b) k
        have b2 := dz_lt (val c_) k
        have b3 := aT_lt (val b - val c_) (val c_) k
        have b4 := dz_lt (val b - val c_) k
        have b5 := aT_lt (val b - val c_) (val c_) (k + 1)
        rw [← ibw] at b3
        have et := tk_dz (j := k) hle
        rw [← ibw] at et
        refine lv_aload_n hx hb d_Mo_takeFrom_16 rfl (lv_at hl 0 rfl) ?_
        refine va_get (D := D) (ci := 8) (v := .ref ow) (C := R_Mo) (T := F_Mo) (N := 14) hx hb hts i_Mo hown hK hP 0 rfl rfl 2 (by decide) (hts _ (big_in mw_1117 rfl)) (fun _ h9 => h9) rfl d_Mo_takeFrom_17 ?_
        refine lv_sipush (v := iZ (12000)) hx hb d_Mo_takeFrom_20 (by decide +kernel) ?_
        refine lv_iload_n hx hb d_Mo_takeFrom_23 rfl (lv_at hl 1 rfl) ?_
        refine zz_imul hx hb d_Mo_takeFrom_24 ?_
        refine lv_iload hx hb d_Mo_takeFrom_25 (lv_at hl 4 rfl) ?_
        refine zz_iadd hx hb d_Mo_takeFrom_27 ?_
        refine zz_iald hx hb hK hP 1 0 rfl rfl (12000 * b + k) (by omega) (by omega) (by omega) d_Mo_takeFrom_28 ?_
        rw [ovr_out (by omega), hW.d hb9 (by omega)]
        refine lv_aload_n hx hb d_Mo_takeFrom_29 rfl (lv_at hl 0 rfl) ?_
        refine lv_iload_n hx hb d_Mo_takeFrom_30 rfl (lv_at hl 2 rfl) ?_
        refine lv_iload hx hb d_Mo_takeFrom_31 (lv_at hl 4 rfl) ?_
        refine cv (n := 2) (wr := []) (w1 := (fun (u : Nat) => [(mo, .inr (8, [.int qc, .int (iZ (np : Int)), .ref ow, .ref om, .ref ok_, .ref oK, .ref og, .ref on_, .ref oh, .ref ox, .int qn, .int qf, .ref op_, .int ql])), (ow, .inl (cI, 108000, .inl (ovr fw b k (val b - val c_)))), (om, .inl (cI, 9, .inl fm))])) (As := [.int (iZ (c_ : Int)), .int (iZ (k : Int))]) (rest := [.int (iZ (dz (val b) k : Int))]) K hP hD hK hS hA hl.1 (c_Mo_figure l D mo qc np ow om ok_ oK og on_ oh ox qn qf op_ ql (ovr fw b k (val b - val c_)) fm cI c_ k (val c_) H.size (by omega) (hW.m (by omega)) (hW.n (by omega)) (by omega) (fun q => by rw [ovr_out (by omega)]; exact hW.d hc9 q)) [0, 1, 2] [] [0] rfl rfl rfl (by decide) (by decide) (by decide) 0 rfl rfl (big_in mw_1266 rfl) (big_in mw_10 rfl) (big_in mw_1263 rfl) (big_in mw_1265 rfl) (big_in sp_36 rfl) rfl rfl (by decide +kernel) ⟨by rw [hR]; exact Nat.le_of_ble_eq_true rfl, by rw [hR]; exact Nat.le_of_ble_eq_true rfl⟩ rfl (Nat.le_of_ble_eq_true rfl) d_Mo_takeFrom_33 ⟨by rw [hR]; exact Nat.le_of_ble_eq_true rfl, by rw [hR]; exact Nat.le_of_ble_eq_true rfl⟩ rfl (fun v u H locs hp2 hP hD hS _ => ?_)
        obtain ⟨r2, rfl⟩ : ∃ z, z = u := ⟨_, rfl⟩
        obtain ⟨rfl, g2⟩ := hp2
        have hP : va_P D cls0 [(mo, .inr (8, [.int qc, .int (iZ (np : Int)), .ref ow, .ref om, .ref ok_, .ref oK, .ref og, .ref on_, .ref oh, .ref ox, .int qn, .int qf, .ref op_, .int ql])), (ow, .inl (cI, 108000, .inl (ovr fw b k (val b - val c_)))), (om, .inl (cI, 9, .inl fm))] H := hP
        have hD : va_D A [(mo, .inr (8, [.int qc, .int (iZ (np : Int)), .ref ow, .ref om, .ref ok_, .ref oK, .ref og, .ref on_, .ref oh, .ref ox, .int qn, .int qf, .ref op_, .int ql])), (ow, .inl (cI, 108000, .inl (ovr fw b k (val b - val c_)))), (om, .inl (cI, 9, .inl fm))] := hD
        show W p l e R s m args below meth c H locs _ _ Q (F0 m 36 ls [.int (iZ (r2 : Int)), .int (iZ (dz (val b) k : Int))])
        refine zz_isub hx hb d_Mo_takeFrom_36 ?_
        refine lv_iload_n hx hb d_Mo_takeFrom_37 rfl (lv_at hl 3 rfl) ?_
        refine zz_isub hx hb d_Mo_takeFrom_38 ?_
        refine lv_istore (lv' := [(5, .int (iZ ((dz (val b) k : Int) - (r2 : Int) - (bw : Int)))), (0, .ref mo), (1, .int (iZ (b : Int))), (2, .int (iZ (c_ : Int))), (3, .int (iZ (bw : Int))), (4, .int (iZ (k : Int)))]) hx hb d_Mo_takeFrom_39 hl (by decide) rfl (fun ls hl => ?_)
        refine lv_iload hx hb d_Mo_takeFrom_41 (lv_at hl 0 rfl) ?_
        refine zz_if_ge (tgt := 50) hx hb d_Mo_takeFrom_43 (by decide) (by omega) (fun c43 => ?_) (fun c43 => ?_)
        · refine lv_iconst (v := iZ (0)) hx hb d_Mo_takeFrom_50 (by decide +kernel) ?_
          refine lv_istore_n (lv' := [(3, .int (iZ 0)), (5, .int (iZ ((dz (val b) k : Int) - (r2 : Int) - (bw : Int)))), (0, .ref mo), (1, .int (iZ (b : Int))), (2, .int (iZ (c_ : Int))), (4, .int (iZ (k : Int)))]) hx hb d_Mo_takeFrom_51 rfl hl (by decide) rfl (fun ls hl => ?_)
          refine lv_aload_n hx hb d_Mo_takeFrom_52 rfl (lv_at hl 2 rfl) ?_
          refine va_get (D := D) (ci := 8) (v := .ref ow) (C := R_Mo) (T := F_Mo) (N := 14) hx hb hts i_Mo hown hK hP 0 rfl rfl 2 (by decide) (hts _ (big_in mw_1117 rfl)) (fun _ h9 => h9) rfl d_Mo_takeFrom_53 ?_
          refine lv_sipush (v := iZ (12000)) hx hb d_Mo_takeFrom_56 (by decide +kernel) ?_
          refine lv_iload_n hx hb d_Mo_takeFrom_59 rfl (lv_at hl 3 rfl) ?_
          refine zz_imul hx hb d_Mo_takeFrom_60 ?_
          refine lv_iload hx hb d_Mo_takeFrom_61 (lv_at hl 5 rfl) ?_
          refine zz_iadd hx hb d_Mo_takeFrom_63 ?_
          refine lv_iload hx hb d_Mo_takeFrom_64 (lv_at hl 1 rfl) ?_
          refine zz_if_ge (tgt := 78) hx hb d_Mo_takeFrom_66 (by decide) (by omega) (fun c66 => ?_) (fun c66 => ?_)
          · refine lv_iload hx hb d_Mo_takeFrom_78 (lv_at hl 1 rfl) ?_
            refine zz_iast hx hb hK hP hD hS 1 0 rfl rfl (12000 * b + k) (by omega) (by omega) (by omega) d_Mo_takeFrom_80 (fun H locs hP hD hS => ?_)
            have hP : va_P D cls0 [(mo, .inr (8, [.int qc, .int (iZ (np : Int)), .ref ow, .ref om, .ref ok_, .ref oK, .ref og, .ref on_, .ref oh, .ref ox, .int qn, .int qf, .ref op_, .int ql])), (ow, .inl (cI, 108000, .inl (upd (ovr fw b k (val b - val c_)) (12000 * b + k) (iZ ((dz (val b) k : Int) - (r2 : Int) - (bw : Int)))))), (om, .inl (cI, 9, .inl fm))] H := hP
            have hD : va_D A [(mo, .inr (8, [.int qc, .int (iZ (np : Int)), .ref ow, .ref om, .ref ok_, .ref oK, .ref og, .ref on_, .ref oh, .ref ox, .int qn, .int qf, .ref op_, .int ql])), (ow, .inl (cI, 108000, .inl (upd (ovr fw b k (val b - val c_)) (12000 * b + k) (iZ ((dz (val b) k : Int) - (r2 : Int) - (bw : Int)))))), (om, .inl (cI, 9, .inl fm))] := hD
            rw [ovr_s (by congr 1; omega)] at hP hD
            refine lv_iinc (v := iZ ((k : Int) + 1)) (lv' := [(4, .int (iZ ((k : Int) + 1))), (3, .int (iZ 0)), (5, .int (iZ ((dz (val b) k : Int) - (r2 : Int) - (bw : Int)))), (0, .ref mo), (1, .int (iZ (b : Int))), (2, .int (iZ (c_ : Int)))]) hx hb d_Mo_takeFrom_81 hl (k := 5) rfl (iZ_add _ _) (by decide) rfl (fun ls hl => ?_)
            refine lv_goto (tgt := 5) hx hb d_Mo_takeFrom_84 (by decide) ?_
            rw [show ((k : Int) + 1 : Int) = ((k + 1 : Nat) : Int) by omega] at hl
            exact ih (k + 1) 0 _ _ _ (by omega) (by omega) (by omega) (hP.sub (ws' := [(mo, .inr (8, [.int qc, .int (iZ (np : Int)), .ref ow, .ref om, .ref ok_, .ref oK, .ref og, .ref on_, .ref oh, .ref ox, .int qn, .int qf, .ref op_, .int ql])), (ow, .inl (cI, 108000, .inl (ovr fw b (k + 1) (val b - val c_)))), (om, .inl (cI, 9, .inl fm))]) [0, 1, 2] rfl) (hD.sub (ws' := [(mo, .inr (8, [.int qc, .int (iZ (np : Int)), .ref ow, .ref om, .ref ok_, .ref oK, .ref og, .ref on_, .ref oh, .ref ox, .int qn, .int qf, .ref op_, .int ql])), (ow, .inl (cI, 108000, .inl (ovr fw b (k + 1) (val b - val c_)))), (om, .inl (cI, 9, .inl fm))]) [0, 1, 2] (by decide) rfl) hS (lv_sub hl [3, 4, 5, 1, 0] rfl)
          · refine lv_iload hx hb d_Mo_takeFrom_69 (lv_at hl 1 rfl) ?_
            refine lv_sipush (v := iZ (10000)) hx hb d_Mo_takeFrom_71 (by decide +kernel) ?_
            refine zz_iadd hx hb d_Mo_takeFrom_74 ?_
            refine lv_goto (tgt := 80) hx hb d_Mo_takeFrom_75 (by decide) ?_
            refine zz_iast hx hb hK hP hD hS 1 0 rfl rfl (12000 * b + k) (by omega) (by omega) (by omega) d_Mo_takeFrom_80 (fun H locs hP hD hS => ?_)
            have hP : va_P D cls0 [(mo, .inr (8, [.int qc, .int (iZ (np : Int)), .ref ow, .ref om, .ref ok_, .ref oK, .ref og, .ref on_, .ref oh, .ref ox, .int qn, .int qf, .ref op_, .int ql])), (ow, .inl (cI, 108000, .inl (upd (ovr fw b k (val b - val c_)) (12000 * b + k) (iZ ((dz (val b) k : Int) - (r2 : Int) - (bw : Int) + 10000))))), (om, .inl (cI, 9, .inl fm))] H := hP
            have hD : va_D A [(mo, .inr (8, [.int qc, .int (iZ (np : Int)), .ref ow, .ref om, .ref ok_, .ref oK, .ref og, .ref on_, .ref oh, .ref ox, .int qn, .int qf, .ref op_, .int ql])), (ow, .inl (cI, 108000, .inl (upd (ovr fw b k (val b - val c_)) (12000 * b + k) (iZ ((dz (val b) k : Int) - (r2 : Int) - (bw : Int) + 10000))))), (om, .inl (cI, 9, .inl fm))] := hD
            rw [ovr_s (by congr 1; omega)] at hP hD
            refine lv_iinc (v := iZ ((k : Int) + 1)) (lv' := [(4, .int (iZ ((k : Int) + 1))), (3, .int (iZ 0)), (5, .int (iZ ((dz (val b) k : Int) - (r2 : Int) - (bw : Int)))), (0, .ref mo), (1, .int (iZ (b : Int))), (2, .int (iZ (c_ : Int)))]) hx hb d_Mo_takeFrom_81 hl (k := 5) rfl (iZ_add _ _) (by decide) rfl (fun ls hl => ?_)
            refine lv_goto (tgt := 5) hx hb d_Mo_takeFrom_84 (by decide) ?_
            rw [show ((k : Int) + 1 : Int) = ((k + 1 : Nat) : Int) by omega] at hl
            exact ih (k + 1) 0 _ _ _ (by omega) (by omega) (by omega) (hP.sub (ws' := [(mo, .inr (8, [.int qc, .int (iZ (np : Int)), .ref ow, .ref om, .ref ok_, .ref oK, .ref og, .ref on_, .ref oh, .ref ox, .int qn, .int qf, .ref op_, .int ql])), (ow, .inl (cI, 108000, .inl (ovr fw b (k + 1) (val b - val c_)))), (om, .inl (cI, 9, .inl fm))]) [0, 1, 2] rfl) (hD.sub (ws' := [(mo, .inr (8, [.int qc, .int (iZ (np : Int)), .ref ow, .ref om, .ref ok_, .ref oK, .ref og, .ref on_, .ref oh, .ref ox, .int qn, .int qf, .ref op_, .int ql])), (ow, .inl (cI, 108000, .inl (ovr fw b (k + 1) (val b - val c_)))), (om, .inl (cI, 9, .inl fm))]) [0, 1, 2] (by decide) rfl) hS (lv_sub hl [3, 4, 5, 1, 0] rfl)
        · refine lv_iconst (v := iZ (1)) hx hb d_Mo_takeFrom_46 (by decide +kernel) ?_
          refine lv_goto (tgt := 51) hx hb d_Mo_takeFrom_47 (by decide) ?_
          refine lv_istore_n (lv' := [(3, .int (iZ 1)), (5, .int (iZ ((dz (val b) k : Int) - (r2 : Int) - (bw : Int)))), (0, .ref mo), (1, .int (iZ (b : Int))), (2, .int (iZ (c_ : Int))), (4, .int (iZ (k : Int)))]) hx hb d_Mo_takeFrom_51 rfl hl (by decide) rfl (fun ls hl => ?_)
          refine lv_aload_n hx hb d_Mo_takeFrom_52 rfl (lv_at hl 2 rfl) ?_
          refine va_get (D := D) (ci := 8) (v := .ref ow) (C := R_Mo) (T := F_Mo) (N := 14) hx hb hts i_Mo hown hK hP 0 rfl rfl 2 (by decide) (hts _ (big_in mw_1117 rfl)) (fun _ h9 => h9) rfl d_Mo_takeFrom_53 ?_
          refine lv_sipush (v := iZ (12000)) hx hb d_Mo_takeFrom_56 (by decide +kernel) ?_
          refine lv_iload_n hx hb d_Mo_takeFrom_59 rfl (lv_at hl 3 rfl) ?_
          refine zz_imul hx hb d_Mo_takeFrom_60 ?_
          refine lv_iload hx hb d_Mo_takeFrom_61 (lv_at hl 5 rfl) ?_
          refine zz_iadd hx hb d_Mo_takeFrom_63 ?_
          refine lv_iload hx hb d_Mo_takeFrom_64 (lv_at hl 1 rfl) ?_
          refine zz_if_ge (tgt := 78) hx hb d_Mo_takeFrom_66 (by decide) (by omega) (fun c66 => ?_) (fun c66 => ?_)
          · refine lv_iload hx hb d_Mo_takeFrom_78 (lv_at hl 1 rfl) ?_
            refine zz_iast hx hb hK hP hD hS 1 0 rfl rfl (12000 * b + k) (by omega) (by omega) (by omega) d_Mo_takeFrom_80 (fun H locs hP hD hS => ?_)
            have hP : va_P D cls0 [(mo, .inr (8, [.int qc, .int (iZ (np : Int)), .ref ow, .ref om, .ref ok_, .ref oK, .ref og, .ref on_, .ref oh, .ref ox, .int qn, .int qf, .ref op_, .int ql])), (ow, .inl (cI, 108000, .inl (upd (ovr fw b k (val b - val c_)) (12000 * b + k) (iZ ((dz (val b) k : Int) - (r2 : Int) - (bw : Int)))))), (om, .inl (cI, 9, .inl fm))] H := hP
            have hD : va_D A [(mo, .inr (8, [.int qc, .int (iZ (np : Int)), .ref ow, .ref om, .ref ok_, .ref oK, .ref og, .ref on_, .ref oh, .ref ox, .int qn, .int qf, .ref op_, .int ql])), (ow, .inl (cI, 108000, .inl (upd (ovr fw b k (val b - val c_)) (12000 * b + k) (iZ ((dz (val b) k : Int) - (r2 : Int) - (bw : Int)))))), (om, .inl (cI, 9, .inl fm))] := hD
            rw [ovr_s (by congr 1; omega)] at hP hD
            refine lv_iinc (v := iZ ((k : Int) + 1)) (lv' := [(4, .int (iZ ((k : Int) + 1))), (3, .int (iZ 1)), (5, .int (iZ ((dz (val b) k : Int) - (r2 : Int) - (bw : Int)))), (0, .ref mo), (1, .int (iZ (b : Int))), (2, .int (iZ (c_ : Int)))]) hx hb d_Mo_takeFrom_81 hl (k := 5) rfl (iZ_add _ _) (by decide) rfl (fun ls hl => ?_)
            refine lv_goto (tgt := 5) hx hb d_Mo_takeFrom_84 (by decide) ?_
            rw [show ((k : Int) + 1 : Int) = ((k + 1 : Nat) : Int) by omega] at hl
            exact ih (k + 1) 1 _ _ _ (by omega) (by omega) (by omega) (hP.sub (ws' := [(mo, .inr (8, [.int qc, .int (iZ (np : Int)), .ref ow, .ref om, .ref ok_, .ref oK, .ref og, .ref on_, .ref oh, .ref ox, .int qn, .int qf, .ref op_, .int ql])), (ow, .inl (cI, 108000, .inl (ovr fw b (k + 1) (val b - val c_)))), (om, .inl (cI, 9, .inl fm))]) [0, 1, 2] rfl) (hD.sub (ws' := [(mo, .inr (8, [.int qc, .int (iZ (np : Int)), .ref ow, .ref om, .ref ok_, .ref oK, .ref og, .ref on_, .ref oh, .ref ox, .int qn, .int qf, .ref op_, .int ql])), (ow, .inl (cI, 108000, .inl (ovr fw b (k + 1) (val b - val c_)))), (om, .inl (cI, 9, .inl fm))]) [0, 1, 2] (by decide) rfl) hS (lv_sub hl [3, 4, 5, 1, 0] rfl)
          · refine lv_iload hx hb d_Mo_takeFrom_69 (lv_at hl 1 rfl) ?_
            refine lv_sipush (v := iZ (10000)) hx hb d_Mo_takeFrom_71 (by decide +kernel) ?_
            refine zz_iadd hx hb d_Mo_takeFrom_74 ?_
            refine lv_goto (tgt := 80) hx hb d_Mo_takeFrom_75 (by decide) ?_
            refine zz_iast hx hb hK hP hD hS 1 0 rfl rfl (12000 * b + k) (by omega) (by omega) (by omega) d_Mo_takeFrom_80 (fun H locs hP hD hS => ?_)
            have hP : va_P D cls0 [(mo, .inr (8, [.int qc, .int (iZ (np : Int)), .ref ow, .ref om, .ref ok_, .ref oK, .ref og, .ref on_, .ref oh, .ref ox, .int qn, .int qf, .ref op_, .int ql])), (ow, .inl (cI, 108000, .inl (upd (ovr fw b k (val b - val c_)) (12000 * b + k) (iZ ((dz (val b) k : Int) - (r2 : Int) - (bw : Int) + 10000))))), (om, .inl (cI, 9, .inl fm))] H := hP
            have hD : va_D A [(mo, .inr (8, [.int qc, .int (iZ (np : Int)), .ref ow, .ref om, .ref ok_, .ref oK, .ref og, .ref on_, .ref oh, .ref ox, .int qn, .int qf, .ref op_, .int ql])), (ow, .inl (cI, 108000, .inl (upd (ovr fw b k (val b - val c_)) (12000 * b + k) (iZ ((dz (val b) k : Int) - (r2 : Int) - (bw : Int) + 10000))))), (om, .inl (cI, 9, .inl fm))] := hD
            rw [ovr_s (by congr 1; omega)] at hP hD
            refine lv_iinc (v := iZ ((k : Int) + 1)) (lv' := [(4, .int (iZ ((k : Int) + 1))), (3, .int (iZ 1)), (5, .int (iZ ((dz (val b) k : Int) - (r2 : Int) - (bw : Int)))), (0, .ref mo), (1, .int (iZ (b : Int))), (2, .int (iZ (c_ : Int)))]) hx hb d_Mo_takeFrom_81 hl (k := 5) rfl (iZ_add _ _) (by decide) rfl (fun ls hl => ?_)
            refine lv_goto (tgt := 5) hx hb d_Mo_takeFrom_84 (by decide) ?_
            rw [show ((k : Int) + 1 : Int) = ((k + 1 : Nat) : Int) by omega] at hl
            exact ih (k + 1) 1 _ _ _ (by omega) (by omega) (by omega) (hP.sub (ws' := [(mo, .inr (8, [.int qc, .int (iZ (np : Int)), .ref ow, .ref om, .ref ok_, .ref oK, .ref og, .ref on_, .ref oh, .ref ox, .int qn, .int qf, .ref op_, .int ql])), (ow, .inl (cI, 108000, .inl (ovr fw b (k + 1) (val b - val c_)))), (om, .inl (cI, 9, .inl fm))]) [0, 1, 2] rfl) (hD.sub (ws' := [(mo, .inr (8, [.int qc, .int (iZ (np : Int)), .ref ow, .ref om, .ref ok_, .ref oK, .ref og, .ref on_, .ref oh, .ref ox, .int qn, .int qf, .ref op_, .int ql])), (ow, .inl (cI, 108000, .inl (ovr fw b (k + 1) (val b - val c_)))), (om, .inl (cI, 9, .inl fm))]) [0, 1, 2] (by decide) rfl) hS (lv_sub hl [3, 4, 5, 1, 0] rfl)
  exact L5 _ 0 0 _ _ _ (Nat.lt_succ_self _) (Nat.zero_le _) (aT_0 _ _) (hP.sub (ws' := [(mo, .inr (8, [.int qc, .int (iZ (np : Int)), .ref ow, .ref om, .ref ok_, .ref oK, .ref og, .ref on_, .ref oh, .ref ox, .int qn, .int qf, .ref op_, .int ql])), (ow, .inl (cI, 108000, .inl (ovr fw b 0 (val b - val c_)))), (om, .inl (cI, 9, .inl fm))]) [0, 1, 2] rfl) (hD.sub (ws' := [(mo, .inr (8, [.int qc, .int (iZ (np : Int)), .ref ow, .ref om, .ref ok_, .ref oK, .ref og, .ref on_, .ref oh, .ref ox, .int qn, .int qf, .ref op_, .int ql])), (ow, .inl (cI, 108000, .inl (ovr fw b 0 (val b - val c_)))), (om, .inl (cI, 9, .inl fm))]) [0, 1, 2] (by decide) rfl) hS (lv_sub hl [2, 3, 4, 1, 0] rfl)
theorem sm_p {V n cy : Nat} (h : cy = V / tB n) (h0 : 0 < cy) : n < nd V := by
  apply nd_lt.mpr
  apply Nat.le_of_not_lt
  intro q
  rw [Nat.div_eq_of_lt q] at h
  omega
theorem sm_e {V n cy : Nat} (h : cy = V / tB n) (h0 : cy = 0) : nd V ≤ n := by
  rw [h0] at h
  exact nd_le.mpr ((Nat.div_eq_zero_iff_lt (tB_pos n)).mp h.symm)
theorem sm_n (v : Nat) {f : Nat} (hf : 0 < f) : nd v ≤ nd (v * f) := nd_mono (Nat.le_mul_of_pos_right _ hf)
set_option maxHeartbeats 4000000 in
set_option maxRecDepth 100000 in
/-- small(b, factor) -/
theorem c_Mo_small (l : Launch) (D : va_G) (mo : Nat) (qc : Int32) (np : Nat) (ow : Nat) (om : Nat) (ok_ : Nat) (oK : Nat) (og : Nat) (on_ : Nat) (oh : Nat) (ox : Nat) (qn : Int32) (qf : Int32) (op_ : Nat) (ql : Int32) (fw : Nat → Int32) (fm : Nat → Int32) (cI : ClassId) (val : Nat → Nat) (b : Nat) (f : Nat) (sz : Nat) (hW : WB fw fm val) (hb9 : b < 9) (hf : 0 < f ∧ f ≤ 16777216) (hcap : nd (val b * f) ≤ 12000) : Met l y_Mo_small (wsB y_Mo_small b_Mo_small 7 none) ({ frames := 1, cells := 0, slots := 0, locals := 23 }) (va_Pc [.ref mo, .int (iZ (b : Int)), .int (iZ (f : Int))] (wPre D [(cI, .int)] [(mo, .inr (8, [.int qc, .int (iZ (np : Int)), .ref ow, .ref om, .ref ok_, .ref oK, .ref og, .ref on_, .ref oh, .ref ox, .int qn, .int qf, .ref op_, .int ql])), (ow, .inl (cI, 108000, .inl fw)), (om, .inl (cI, 9, .inl fm))] sz)) (va_QV (fun (v_9 : Option Value) (u_9 : (Nat → Int32) × (Nat → Int32)) => v_9 = none ∧ (WB u_9.1 u_9.2 (up val b (val b * f)))) (fun u_9 => wPost D [(cI, .int)] [(mo, .inr (8, [.int qc, .int (iZ (np : Int)), .ref ow, .ref om, .ref ok_, .ref oK, .ref og, .ref on_, .ref oh, .ref ox, .int qn, .int qf, .ref op_, .int ql])), (ow, .inl (cI, 108000, .inl fw)), (om, .inl (cI, 9, .inl fm))] [(mo, .inr (8, [.int qc, .int (iZ (np : Int)), .ref ow, .ref om, .ref ok_, .ref oK, .ref og, .ref on_, .ref oh, .ref ox, .int qn, .int qf, .ref op_, .int ql])), (ow, .inl (cI, 108000, .inl u_9.1)), (om, .inl (cI, 9, .inl u_9.2))] sz) (va_A [(mo, .inr (8, [.int qc, .int (iZ (np : Int)), .ref ow, .ref om, .ref ok_, .ref oK, .ref og, .ref on_, .ref oh, .ref ox, .int qn, .int qf, .ref op_, .int ql])), (ow, .inl (cI, 108000, .inl fw)), (om, .inl (cI, 9, .inl fm))] sz)) 0 0 (va_A [(mo, .inr (8, [.int qc, .int (iZ (np : Int)), .ref ow, .ref om, .ref ok_, .ref oK, .ref og, .ref on_, .ref oh, .ref ox, .int qn, .int qf, .ref op_, .int ql])), (ow, .inl (cI, 108000, .inl fw)), (om, .inl (cI, 9, .inl fm))] sz) := by
  refine met_enter (by decide +kernel) (Nat.le_of_ble_eq_true rfl) ?_
  intro p e s m args below meth c ls A R Q H locs K hin hAe hA hR hQ hP hK hD hS hl
  obtain ⟨hx, hb, hml, hrt, hlk, hts, hown, hno⟩ := id K
  have hl : lv_has ls 7 [(0, .ref mo), (1, .int (iZ (b : Int))), (2, .int (iZ (f : Int)))] := hl
  have hn9 := sm_n (val b) hf.1
  have L71 : ∀ (N : Nat) (n_ : Nat) (cy : Nat) (H : Heap) (locs : List Loc) (ls : Array Slot), cy < N → (n_ ≤ 12000) → (cy = val b * f / tB n_) → (cy ≤ 16777216) → va_P D cls0 [(mo, .inr (8, [.int qc, .int (iZ (np : Int)), .ref ow, .ref om, .ref ok_, .ref oK, .ref og, .ref on_, .ref oh, .ref ox, .int qn, .int qf, .ref op_, .int ql])), (ow, .inl (cI, 108000, .inl (ovr fw b n_ (val b * f)))), (om, .inl (cI, 9, .inl fm))] H → va_D A [(mo, .inr (8, [.int qc, .int (iZ (np : Int)), .ref ow, .ref om, .ref ok_, .ref oK, .ref og, .ref on_, .ref oh, .ref ox, .int qn, .int qf, .ref op_, .int ql])), (ow, .inl (cI, 108000, .inl (ovr fw b n_ (val b * f)))), (om, .inl (cI, 9, .inl fm))] → va_S A s.heap H locs → lv_has ls 7 [(0, .ref mo), (1, .int (iZ (b : Int))), (2, .int (iZ (f : Int))), (3, .long (lZ (cy : Int))), (5, .int (iZ (n_ : Int)))] → W p l e R s m args below meth c H locs 0 0 Q (F0 m 71 ls []) := by
    intro N
    induction N with
    | zero => intro n_ cy H locs ls hN; exact absurd hN (Nat.not_lt_zero _)
    | succ N ih =>
      intro n_ cy H locs ls hN jn jcy jr hP hD hS hl
      refine lv_lload_n hx hb d_Mo_small_71 rfl (lv_at hl 3 rfl) ?_
      refine lv_lconst (v := lZ (0)) hx hb d_Mo_small_72 (by decide +kernel) ?_
      refine zz_lcmp_le (tgt := 108) hx hb d_Mo_small_73 d_Mo_small_74 (by decide) (by omega) (by omega) (fun c73 => ?_) (fun c73 => ?_)
      · have ne_ := sm_e jcy (by omega)
        refine lv_aload_n hx hb d_Mo_small_108 rfl (lv_at hl 0 rfl) ?_
        refine lv_iload_n hx hb d_Mo_small_109 rfl (lv_at hl 1 rfl) ?_
        refine lv_iload hx hb d_Mo_small_110 (lv_at hl 4 rfl) ?_
        refine cv (n := 2) (wr := []) (w1 := (fun (u : Unit) => [(mo, .inr (8, [.int qc, .int (iZ (np : Int)), .ref ow, .ref om, .ref ok_, .ref oK, .ref og, .ref on_, .ref oh, .ref ox, .int qn, .int qf, .ref op_, .int ql])), (ow, .inl (cI, 108000, .inl (ovr fw b n_ (val b * f)))), (om, .inl (cI, 9, .inl (upd fm b (iZ (nd (val b * f) : Int)))))])) (As := [.int (iZ (b : Int)), .int (iZ (n_ : Int))]) (rest := []) K hP hD hK hS hA hl.1 (c_Mo_trim l D mo qc np ow om ok_ oK og on_ oh ox qn qf op_ ql (ovr fw b n_ (val b * f)) fm cI b n_ (val b * f) H.size hb9 (by omega) ne_ (fun i hi => ovr_in hi)) [0, 1, 2] [] [0] rfl rfl rfl (by decide) (by decide) (by decide) 0 rfl rfl (big_in mw_1211 rfl) (big_in mw_10 rfl) (big_in mw_1208 rfl) (big_in mw_1210 rfl) (big_in sp_26 rfl) rfl rfl (by decide +kernel) ⟨by rw [hR]; exact Nat.le_of_ble_eq_true rfl, by rw [hR]; exact Nat.le_of_ble_eq_true rfl⟩ rfl (Nat.le_of_ble_eq_true rfl) d_Mo_small_112 ⟨by rw [hR]; exact Nat.le_of_ble_eq_true rfl, by rw [hR]; exact Nat.le_of_ble_eq_true rfl⟩ rfl (fun v u H locs hp1 hP hD hS _ => ?_)
        obtain rfl := hp1
        have hP : va_P D cls0 [(mo, .inr (8, [.int qc, .int (iZ (np : Int)), .ref ow, .ref om, .ref ok_, .ref oK, .ref og, .ref on_, .ref oh, .ref ox, .int qn, .int qf, .ref op_, .int ql])), (ow, .inl (cI, 108000, .inl (ovr fw b n_ (val b * f)))), (om, .inl (cI, 9, .inl (upd fm b (iZ (nd (val b * f) : Int)))))] H := hP
        have hD : va_D A [(mo, .inr (8, [.int qc, .int (iZ (np : Int)), .ref ow, .ref om, .ref ok_, .ref oK, .ref og, .ref on_, .ref oh, .ref ox, .int qn, .int qf, .ref op_, .int ql])), (ow, .inl (cI, 108000, .inl (ovr fw b n_ (val b * f)))), (om, .inl (cI, 9, .inl (upd fm b (iZ (nd (val b * f) : Int)))))] := hD
        show W p l e R s m args below meth c H locs _ _ Q (F0 m 115 ls [])
        have hP9 : va_P D cls0 [(mo, .inr (8, [.int qc, .int (iZ (np : Int)), .ref ow, .ref om, .ref ok_, .ref oK, .ref og, .ref on_, .ref oh, .ref ox, .int qn, .int qf, .ref op_, .int ql])), (ow, .inl (cI, 108000, .inl (ovr fw b n_ (val b * f)))), (om, .inl (cI, 9, .inl (upd fm b (iZ (nd (val b * f) : Int)))))] H := hP.sub [0, 1, 2] rfl
        have hD9 : va_D A [(mo, .inr (8, [.int qc, .int (iZ (np : Int)), .ref ow, .ref om, .ref ok_, .ref oK, .ref og, .ref on_, .ref oh, .ref ox, .int qn, .int qf, .ref op_, .int ql])), (ow, .inl (cI, 108000, .inl (ovr fw b n_ (val b * f)))), (om, .inl (cI, 9, .inl (upd fm b (iZ (nd (val b * f) : Int)))))] := hD.sub [0, 1, 2] (by decide) rfl
        rw [hQ, ← hAe]
        refine r_v K ((ovr fw b n_ (val b * f)), upd fm b (iZ (nd (val b * f) : Int))) hS d_Mo_small_115 ?_ (fun t ht hv => ?_)
        · try dsimp only
          exact ⟨rfl, hW.set (by omega) (by omega) rfl⟩
        · exact ⟨by rw [ht]; exact hP9, va_K.moved hv hK, by rw [← hAe]; exact hD9⟩
      · have np_ := sm_p jcy (by omega)
        have edz : dz (val b * f) n_ = cy % 10000 := by rw [jcy]; rfl
        refine lv_aload_n hx hb d_Mo_small_77 rfl (lv_at hl 0 rfl) ?_
        refine va_get (D := D) (ci := 8) (v := .ref ow) (C := R_Mo) (T := F_Mo) (N := 14) hx hb hts i_Mo hown hK hP 0 rfl rfl 2 (by decide) (hts _ (big_in mw_1117 rfl)) (fun _ h9 => h9) rfl d_Mo_small_78 ?_
        refine lv_sipush (v := iZ (12000)) hx hb d_Mo_small_81 (by decide +kernel) ?_
        refine lv_iload_n hx hb d_Mo_small_84 rfl (lv_at hl 1 rfl) ?_
        refine zz_imul hx hb d_Mo_small_85 ?_
        refine lv_iload hx hb d_Mo_small_86 (lv_at hl 4 rfl) ?_
        refine zz_iadd hx hb d_Mo_small_88 ?_
        refine lv_lload_n hx hb d_Mo_small_89 rfl (lv_at hl 3 rfl) ?_
        refine lv_ldc2 (v := lZ (10000)) hx hb hown (hts _ (big_in mw_1181 rfl)) d_Mo_small_90 ?_
        refine zz_lrem hx hb d_Mo_small_93 (by omega) (by omega) ?_
        refine zz_l2i hx hb d_Mo_small_94 ?_
        refine zz_iast hx hb hK hP hD hS 1 0 rfl rfl (12000 * b + n_) (by omega) (by omega) (by omega) d_Mo_small_95 (fun H locs hP hD hS => ?_)
        have hP : va_P D cls0 [(mo, .inr (8, [.int qc, .int (iZ (np : Int)), .ref ow, .ref om, .ref ok_, .ref oK, .ref og, .ref on_, .ref oh, .ref ox, .int qn, .int qf, .ref op_, .int ql])), (ow, .inl (cI, 108000, .inl (upd (ovr fw b n_ (val b * f)) (12000 * b + n_) (iZ ((cy : Int) % 10000))))), (om, .inl (cI, 9, .inl fm))] H := hP
        have hD : va_D A [(mo, .inr (8, [.int qc, .int (iZ (np : Int)), .ref ow, .ref om, .ref ok_, .ref oK, .ref og, .ref on_, .ref oh, .ref ox, .int qn, .int qf, .ref op_, .int ql])), (ow, .inl (cI, 108000, .inl (upd (ovr fw b n_ (val b * f)) (12000 * b + n_) (iZ ((cy : Int) % 10000))))), (om, .inl (cI, 9, .inl fm))] := hD
        rw [ovr_s (by congr 1; omega)] at hP hD
        refine lv_lload_n hx hb d_Mo_small_96 rfl (lv_at hl 3 rfl) ?_
        refine lv_ldc2 (v := lZ (10000)) hx hb hown (hts _ (big_in mw_1181 rfl)) d_Mo_small_97 ?_
        refine zz_ldiv hx hb d_Mo_small_100 (by omega) (by omega) ?_
        refine lv_lstore_n (lv' := [(3, .long (lZ ((cy : Int) / 10000))), (0, .ref mo), (1, .int (iZ (b : Int))), (2, .int (iZ (f : Int))), (5, .int (iZ (n_ : Int)))]) hx hb d_Mo_small_101 rfl hl (by decide) rfl (fun ls hl => ?_)
        refine lv_iinc (v := iZ ((n_ : Int) + 1)) (lv' := [(5, .int (iZ ((n_ : Int) + 1))), (3, .long (lZ ((cy : Int) / 10000))), (0, .ref mo), (1, .int (iZ (b : Int))), (2, .int (iZ (f : Int)))]) hx hb d_Mo_small_102 hl (k := 4) rfl (iZ_add _ _) (by decide) rfl (fun ls hl => ?_)
        refine lv_goto (tgt := 71) hx hb d_Mo_small_105 (by decide) ?_
        rw [show ((cy : Int) / 10000 : Int) = ((cy / 10000 : Nat) : Int) by omega] at hl
        rw [show ((n_ : Int) + 1 : Int) = ((n_ + 1 : Nat) : Int) by omega] at hl
        exact ih (n_ + 1) (cy / 10000) _ _ _ (by omega) (by omega) (by rw [jcy, tB_s, Nat.div_div_eq_div_mul]) (by omega) (hP.sub (ws' := [(mo, .inr (8, [.int qc, .int (iZ (np : Int)), .ref ow, .ref om, .ref ok_, .ref oK, .ref og, .ref on_, .ref oh, .ref ox, .int qn, .int qf, .ref op_, .int ql])), (ow, .inl (cI, 108000, .inl (ovr fw b (n_ + 1) (val b * f)))), (om, .inl (cI, 9, .inl fm))]) [0, 1, 2] rfl) (hD.sub (ws' := [(mo, .inr (8, [.int qc, .int (iZ (np : Int)), .ref ow, .ref om, .ref ok_, .ref oK, .ref og, .ref on_, .ref oh, .ref ox, .int qn, .int qf, .ref op_, .int ql])), (ow, .inl (cI, 108000, .inl (ovr fw b (n_ + 1) (val b * f)))), (om, .inl (cI, 9, .inl fm))]) [0, 1, 2] (by decide) rfl) hS (lv_sub hl [2, 3, 4, 1, 0] rfl)
  rw [← ovr_0 fw b (val b * f)] at hP hD
  refine lv_lconst (v := lZ (0)) hx hb d_Mo_small_0 (by decide +kernel) ?_
  refine lv_lstore_n (lv' := [(3, .long (lZ 0)), (0, .ref mo), (1, .int (iZ (b : Int))), (2, .int (iZ (f : Int)))]) hx hb d_Mo_small_1 rfl hl (by decide) rfl (fun ls hl => ?_)
  refine lv_aload_n hx hb d_Mo_small_2 rfl (lv_at hl 1 rfl) ?_
  refine va_get (D := D) (ci := 8) (v := .ref om) (C := R_Mo) (T := F_Mo) (N := 14) hx hb hts i_Mo hown hK hP 0 rfl rfl 3 (by decide) (hts _ (big_in mw_1118 rfl)) (fun _ h9 => h9) rfl d_Mo_small_3 ?_
  refine lv_iload_n hx hb d_Mo_small_6 rfl (lv_at hl 2 rfl) ?_
  refine zz_iald hx hb hK hP 2 0 rfl rfl (b) (by omega) (by omega) (by omega) d_Mo_small_7 ?_
  rw [hW.m hb9]
  refine lv_istore (lv' := [(5, .int (iZ (nd (val b) : Int))), (3, .long (lZ 0)), (0, .ref mo), (1, .int (iZ (b : Int))), (2, .int (iZ (f : Int)))]) hx hb d_Mo_small_8 hl (by decide) rfl (fun ls hl => ?_)
  refine lv_iconst (v := iZ (0)) hx hb d_Mo_small_10 (by decide +kernel) ?_
  refine lv_istore (lv' := [(6, .int (iZ 0)), (5, .int (iZ (nd (val b) : Int))), (3, .long (lZ 0)), (0, .ref mo), (1, .int (iZ (b : Int))), (2, .int (iZ (f : Int)))]) hx hb d_Mo_small_11 hl (by decide) rfl (fun ls hl => ?_)
  have L13 : ∀ (N : Nat) (k : Nat) (cy : Nat) (H : Heap) (locs : List Loc) (ls : Array Slot), nd (val b) - k < N → (k ≤ nd (val b)) → (cy = sT (val b) f k / tB k) → va_P D cls0 [(mo, .inr (8, [.int qc, .int (iZ (np : Int)), .ref ow, .ref om, .ref ok_, .ref oK, .ref og, .ref on_, .ref oh, .ref ox, .int qn, .int qf, .ref op_, .int ql])), (ow, .inl (cI, 108000, .inl (ovr fw b k (val b * f)))), (om, .inl (cI, 9, .inl fm))] H → va_D A [(mo, .inr (8, [.int qc, .int (iZ (np : Int)), .ref ow, .ref om, .ref ok_, .ref oK, .ref og, .ref on_, .ref oh, .ref ox, .int qn, .int qf, .ref op_, .int ql])), (ow, .inl (cI, 108000, .inl (ovr fw b k (val b * f)))), (om, .inl (cI, 9, .inl fm))] → va_S A s.heap H locs → lv_has ls 7 [(0, .ref mo), (1, .int (iZ (b : Int))), (2, .int (iZ (f : Int))), (3, .long (lZ (cy : Int))), (5, .int (iZ (nd (val b) : Int))), (6, .int (iZ (k : Int)))] → W p l e R s m args below meth c H locs 0 0 Q (F0 m 13 ls []) := by
    intro N
    induction N with
    | zero => intro k cy H locs ls hN; exact absurd hN (Nat.not_lt_zero _)
    | succ N ih =>
      intro k cy H locs ls hN ik icy hP hD hS hl
      refine lv_iload hx hb d_Mo_small_13 (lv_at hl 5 rfl) ?_
      refine lv_iload hx hb d_Mo_small_15 (lv_at hl 4 rfl) ?_
      refine zz_icmp_ge (tgt := 71) hx hb d_Mo_small_17 (by decide) (by omega) (by omega) (fun c17 => ?_) (fun c17 => ?_)
      · rw [show ((nd (val b) : Int) : Int) = (k : Int) by omega] at hl
        exact L71 _ k cy _ _ _ (Nat.lt_succ_self _) (by omega) (by rw [icy]; exact sT_end (by omega)) (by rw [icy]; exact Nat.le_of_lt (Nat.lt_of_lt_of_le (sT_lt hf.1) hf.2)) (hP.sub (ws' := [(mo, .inr (8, [.int qc, .int (iZ (np : Int)), .ref ow, .ref om, .ref ok_, .ref oK, .ref og, .ref on_, .ref oh, .ref ox, .int qn, .int qf, .ref op_, .int ql])), (ow, .inl (cI, 108000, .inl (ovr fw b k (val b * f)))), (om, .inl (cI, 9, .inl fm))]) [0, 1, 2] rfl) (hD.sub (ws' := [(mo, .inr (8, [.int qc, .int (iZ (np : Int)), .ref ow, .ref om, .ref ok_, .ref oK, .ref og, .ref on_, .ref oh, .ref ox, .int qn, .int qf, .ref op_, .int ql])), (ow, .inl (cI, 108000, .inl (ovr fw b k (val b * f)))), (om, .inl (cI, 9, .inl fm))]) [0, 1, 2] (by decide) rfl) hS (lv_sub hl [0, 1, 2, 3, 4] rfl)
      · have b1 := dz_lt (val b) k
        have b2 := sT_lt (v := val b) (j := k) hf.1
        rw [← icy] at b2
        refine lv_lload_n hx hb d_Mo_small_20 rfl (lv_at hl 3 rfl) ?_
        refine lv_aload_n hx hb d_Mo_small_21 rfl (lv_at hl 0 rfl) ?_
        refine va_get (D := D) (ci := 8) (v := .ref ow) (C := R_Mo) (T := F_Mo) (N := 14) hx hb hts i_Mo hown hK hP 0 rfl rfl 2 (by decide) (hts _ (big_in mw_1117 rfl)) (fun _ h9 => h9) rfl d_Mo_small_22 ?_
        refine lv_sipush (v := iZ (12000)) hx hb d_Mo_small_25 (by decide +kernel) ?_
        refine lv_iload_n hx hb d_Mo_small_28 rfl (lv_at hl 1 rfl) ?_
        refine zz_imul hx hb d_Mo_small_29 ?_
        refine lv_iload hx hb d_Mo_small_30 (lv_at hl 5 rfl) ?_
        refine zz_iadd hx hb d_Mo_small_32 ?_
        refine zz_iald hx hb hK hP 1 0 rfl rfl (12000 * b + k) (by omega) (by omega) (by omega) d_Mo_small_33 ?_
        rw [ovr_out (by omega), hW.d hb9 (by omega)]
        refine zz_i2l hx hb d_Mo_small_34 (by omega) ?_
        refine lv_iload_n hx hb d_Mo_small_35 rfl (lv_at hl 2 rfl) ?_
        refine zz_i2l hx hb d_Mo_small_36 (by omega) ?_
        refine zz_lmul hx hb d_Mo_small_37 ?_
        obtain ⟨pd, hpd⟩ : ∃ x : Nat, x = dz (val b) k * f := ⟨_, rfl⟩
        rw [show ((dz (val b) k : Int) * (f : Int) : Int) = (pd : Int) by rw [hpd]; simp]
        have bpd : pd ≤ 9999 * 16777216 := by rw [hpd]; exact Nat.mul_le_mul (by omega) hf.2
        have ed := sT_dz (val b) f k
        have ec := sT_c (val b) f k
        rw [← icy, ← hpd] at ed ec
        refine zz_ladd hx hb d_Mo_small_38 ?_
        refine lv_lstore_n (lv' := [(3, .long (lZ ((cy : Int) + (pd : Int)))), (0, .ref mo), (1, .int (iZ (b : Int))), (2, .int (iZ (f : Int))), (5, .int (iZ (nd (val b) : Int))), (6, .int (iZ (k : Int)))]) hx hb d_Mo_small_39 rfl hl (by decide) rfl (fun ls hl => ?_)
        refine lv_aload_n hx hb d_Mo_small_40 rfl (lv_at hl 1 rfl) ?_
        refine va_get (D := D) (ci := 8) (v := .ref ow) (C := R_Mo) (T := F_Mo) (N := 14) hx hb hts i_Mo hown hK hP 0 rfl rfl 2 (by decide) (hts _ (big_in mw_1117 rfl)) (fun _ h9 => h9) rfl d_Mo_small_41 ?_
        refine lv_sipush (v := iZ (12000)) hx hb d_Mo_small_44 (by decide +kernel) ?_
        refine lv_iload_n hx hb d_Mo_small_47 rfl (lv_at hl 2 rfl) ?_
        refine zz_imul hx hb d_Mo_small_48 ?_
        refine lv_iload hx hb d_Mo_small_49 (lv_at hl 5 rfl) ?_
        refine zz_iadd hx hb d_Mo_small_51 ?_
        refine lv_lload_n hx hb d_Mo_small_52 rfl (lv_at hl 0 rfl) ?_
        refine lv_ldc2 (v := lZ (10000)) hx hb hown (hts _ (big_in mw_1181 rfl)) d_Mo_small_53 ?_
        refine zz_lrem hx hb d_Mo_small_56 (by omega) (by omega) ?_
        refine zz_l2i hx hb d_Mo_small_57 ?_
        refine zz_iast hx hb hK hP hD hS 1 0 rfl rfl (12000 * b + k) (by omega) (by omega) (by omega) d_Mo_small_58 (fun H locs hP hD hS => ?_)
        have hP : va_P D cls0 [(mo, .inr (8, [.int qc, .int (iZ (np : Int)), .ref ow, .ref om, .ref ok_, .ref oK, .ref og, .ref on_, .ref oh, .ref ox, .int qn, .int qf, .ref op_, .int ql])), (ow, .inl (cI, 108000, .inl (upd (ovr fw b k (val b * f)) (12000 * b + k) (iZ (((cy : Int) + (pd : Int)) % 10000))))), (om, .inl (cI, 9, .inl fm))] H := hP
        have hD : va_D A [(mo, .inr (8, [.int qc, .int (iZ (np : Int)), .ref ow, .ref om, .ref ok_, .ref oK, .ref og, .ref on_, .ref oh, .ref ox, .int qn, .int qf, .ref op_, .int ql])), (ow, .inl (cI, 108000, .inl (upd (ovr fw b k (val b * f)) (12000 * b + k) (iZ (((cy : Int) + (pd : Int)) % 10000))))), (om, .inl (cI, 9, .inl fm))] := hD
        rw [ovr_s (by congr 1; omega)] at hP hD
        refine lv_lload_n hx hb d_Mo_small_59 rfl (lv_at hl 0 rfl) ?_
        refine lv_ldc2 (v := lZ (10000)) hx hb hown (hts _ (big_in mw_1181 rfl)) d_Mo_small_60 ?_
        refine zz_ldiv hx hb d_Mo_small_63 (by omega) (by omega) ?_
        refine lv_lstore_n (lv' := [(3, .long (lZ (((cy : Int) + (pd : Int)) / 10000))), (0, .ref mo), (1, .int (iZ (b : Int))), (2, .int (iZ (f : Int))), (5, .int (iZ (nd (val b) : Int))), (6, .int (iZ (k : Int)))]) hx hb d_Mo_small_64 rfl hl (by decide) rfl (fun ls hl => ?_)
        refine lv_iinc (v := iZ ((k : Int) + 1)) (lv' := [(6, .int (iZ ((k : Int) + 1))), (3, .long (lZ (((cy : Int) + (pd : Int)) / 10000))), (0, .ref mo), (1, .int (iZ (b : Int))), (2, .int (iZ (f : Int))), (5, .int (iZ (nd (val b) : Int)))]) hx hb d_Mo_small_65 hl (k := 5) rfl (iZ_add _ _) (by decide) rfl (fun ls hl => ?_)
        refine lv_goto (tgt := 13) hx hb d_Mo_small_68 (by decide) ?_
        rw [show (((cy : Int) + (pd : Int)) / 10000 : Int) = (((cy + pd) / 10000 : Nat) : Int) by omega] at hl
        rw [show ((k : Int) + 1 : Int) = ((k + 1 : Nat) : Int) by omega] at hl
        exact ih (k + 1) ((cy + pd) / 10000) _ _ _ (by omega) (by omega) (by omega) (hP.sub (ws' := [(mo, .inr (8, [.int qc, .int (iZ (np : Int)), .ref ow, .ref om, .ref ok_, .ref oK, .ref og, .ref on_, .ref oh, .ref ox, .int qn, .int qf, .ref op_, .int ql])), (ow, .inl (cI, 108000, .inl (ovr fw b (k + 1) (val b * f)))), (om, .inl (cI, 9, .inl fm))]) [0, 1, 2] rfl) (hD.sub (ws' := [(mo, .inr (8, [.int qc, .int (iZ (np : Int)), .ref ow, .ref om, .ref ok_, .ref oK, .ref og, .ref on_, .ref oh, .ref ox, .int qn, .int qf, .ref op_, .int ql])), (ow, .inl (cI, 108000, .inl (ovr fw b (k + 1) (val b * f)))), (om, .inl (cI, 9, .inl fm))]) [0, 1, 2] (by decide) rfl) hS (lv_sub hl [2, 3, 4, 1, 5, 0] rfl)
  exact L13 _ 0 0 _ _ _ (Nat.lt_succ_self _) (Nat.zero_le _) (sT_0 _ _) (hP.sub (ws' := [(mo, .inr (8, [.int qc, .int (iZ (np : Int)), .ref ow, .ref om, .ref ok_, .ref oK, .ref og, .ref on_, .ref oh, .ref ox, .int qn, .int qf, .ref op_, .int ql])), (ow, .inl (cI, 108000, .inl (ovr fw b 0 (val b * f)))), (om, .inl (cI, 9, .inl fm))]) [0, 1, 2] rfl) (hD.sub (ws' := [(mo, .inr (8, [.int qc, .int (iZ (np : Int)), .ref ow, .ref om, .ref ok_, .ref oK, .ref og, .ref on_, .ref oh, .ref ox, .int qn, .int qf, .ref op_, .int ql])), (ow, .inl (cI, 108000, .inl (ovr fw b 0 (val b * f)))), (om, .inl (cI, 9, .inl fm))]) [0, 1, 2] (by decide) rfl) hS (lv_sub hl [3, 4, 5, 2, 1, 0] rfl)
