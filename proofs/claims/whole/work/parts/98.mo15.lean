theorem nd_2E (E : Nat) : nd (2 ^ E) ≤ (E + 1) / 13 + 1 := nd_bits (by rw [Nat.pow_succ]; have := Nat.two_pow_pos E; omega)
theorem nd_shl (v E : Nat) : nd (v * 2 ^ E) ≤ nd v + ((E + 1) / 13 + 1) := Nat.le_trans (nd_mul _ _) (Nat.add_le_add_left (nd_2E E) _)
set_option maxHeartbeats 4000000 in
set_option maxRecDepth 100000 in
/-- Mo_multiple -/
theorem c_Mo_multipleUp (l : Launch) (D : va_G) (mo : Nat) (qc : Int32) (np : Nat) (ow : Nat) (om : Nat) (ok_ : Nat) (oK : Nat) (og : Nat) (on_ : Nat) (oh : Nat) (ox : Nat) (qn : Int32) (qf : Int32) (op_ : Nat) (ql : Int32) (fw : Nat → Int32) (fm : Nat → Int32) (cI : ClassId) (fh : Nat → Int32) (fk : Nat → Int32) (fK : Nat → Int32) (fs : Nat → Int32) (fn : Nat → Int32) (val : Nat → Nat) (tv : Nat → Nat) (bv : Nat → Nat) (sg : Nat → Int) (to : Nat) (a : Nat) (E : Nat) (sz : Nat) (hW : WB fw fm val) (hMR : MoR fk fK fs fn tv bv sg) (hnd : ndS tv bv 32 ≤ np) (hnp : np ≤ 1024) (J : RgC tv bv sg) (hbv : ∀ r, r < 32 → 0 < bv r) (t1 : to < 32) (t2 : a < 32) (hE : E ≤ 34000) (hfit : ndS tv bv 32 + (lm (rdN (nmQ (tv a) (bv a * 2 ^ E) * 2 ^ E) (1)) + lm (rdD (nmQ (tv a) (bv a * 2 ^ E) * 2 ^ E) (1))) ≤ np + (lm (tv to) + lm (bv to))) : Met l y_Mo_multiple (wsB y_Mo_multiple b_Mo_multiple 4 (some .int)) ({ frames := 5, cells := 0, slots := 0, locals := 125 }) (va_Pc [.ref mo, .int (iZ (to : Int)), .int (iZ (a : Int)), .int (iZ (E : Int))] (wPre D [(cI, .int)] [(mo, .inr (8, [.int qc, .int (iZ (np : Int)), .ref ow, .ref om, .ref ok_, .ref oK, .ref og, .ref on_, .ref oh, .ref ox, .int qn, .int qf, .ref op_, .int ql])), (ow, .inl (cI, 108000, .inl fw)), (om, .inl (cI, 9, .inl fm)), (oh, .inl (cI, 10000, .inl fh)), (ok_, .inl (cI, 166400, .inl fk)), (oK, .inl (cI, 64, .inl fK)), (og, .inl (cI, 32, .inl fs)), (on_, .inl (cI, 32, .inl fn))] sz)) (va_QV (fun (v_9 : Option Value) (u_9 : (Nat → Int32) × (Nat → Int32) × (Nat → Int32) × (Nat → Int32) × (Nat → Int32) × (Nat → Int32) × (Nat → Int32) × (Nat → Nat)) => v_9 = some (.int (iZ ((lm (rdN (nmQ (tv a) (bv a * 2 ^ E) * 2 ^ E) (1)) : Int) + (lm (rdD (nmQ (tv a) (bv a * 2 ^ E) * 2 ^ E) (1)) : Int)))) ∧ (WB u_9.1 u_9.2.1 u_9.2.2.2.2.2.2.2) ∧ (MoR u_9.2.2.2.1 u_9.2.2.2.2.1 u_9.2.2.2.2.2.1 u_9.2.2.2.2.2.2.1 (up tv to (rdN (nmQ (tv a) (bv a * 2 ^ E) * 2 ^ E) (1))) (up bv to (rdD (nmQ (tv a) (bv a * 2 ^ E) * 2 ^ E) (1))) (up sg to (if rdN (nmQ (tv a) (bv a * 2 ^ E) * 2 ^ E) (1) = 0 then 0 else sg a)))) (fun u_9 => wPost D [(cI, .int)] [(mo, .inr (8, [.int qc, .int (iZ (np : Int)), .ref ow, .ref om, .ref ok_, .ref oK, .ref og, .ref on_, .ref oh, .ref ox, .int qn, .int qf, .ref op_, .int ql])), (ow, .inl (cI, 108000, .inl fw)), (om, .inl (cI, 9, .inl fm)), (oh, .inl (cI, 10000, .inl fh)), (ok_, .inl (cI, 166400, .inl fk)), (oK, .inl (cI, 64, .inl fK)), (og, .inl (cI, 32, .inl fs)), (on_, .inl (cI, 32, .inl fn))] [(mo, .inr (8, [.int (iZ 0), .int (iZ (np : Int)), .ref ow, .ref om, .ref ok_, .ref oK, .ref og, .ref on_, .ref oh, .ref ox, .int qn, .int qf, .ref op_, .int ql])), (ow, .inl (cI, 108000, .inl u_9.1)), (om, .inl (cI, 9, .inl u_9.2.1)), (oh, .inl (cI, 10000, .inl u_9.2.2.1)), (ok_, .inl (cI, 166400, .inl u_9.2.2.2.1)), (oK, .inl (cI, 64, .inl u_9.2.2.2.2.1)), (og, .inl (cI, 32, .inl u_9.2.2.2.2.2.1)), (on_, .inl (cI, 32, .inl u_9.2.2.2.2.2.2.1))] sz) (va_A [(mo, .inr (8, [.int qc, .int (iZ (np : Int)), .ref ow, .ref om, .ref ok_, .ref oK, .ref og, .ref on_, .ref oh, .ref ox, .int qn, .int qf, .ref op_, .int ql])), (ow, .inl (cI, 108000, .inl fw)), (om, .inl (cI, 9, .inl fm)), (oh, .inl (cI, 10000, .inl fh)), (ok_, .inl (cI, 166400, .inl fk)), (oK, .inl (cI, 64, .inl fK)), (og, .inl (cI, 32, .inl fs)), (on_, .inl (cI, 32, .inl fn))] sz)) 0 0 (va_A [(mo, .inr (8, [.int qc, .int (iZ (np : Int)), .ref ow, .ref om, .ref ok_, .ref oK, .ref og, .ref on_, .ref oh, .ref ox, .int qn, .int qf, .ref op_, .int ql])), (ow, .inl (cI, 108000, .inl fw)), (om, .inl (cI, 9, .inl fm)), (oh, .inl (cI, 10000, .inl fh)), (ok_, .inl (cI, 166400, .inl fk)), (oK, .inl (cI, 64, .inl fK)), (og, .inl (cI, 32, .inl fs)), (on_, .inl (cI, 32, .inl fn))] sz) := by
  refine met_enter (by decide +kernel) (Nat.le_of_ble_eq_true rfl) ?_
  intro p e s m args below meth c ls A R Q H locs K hin hAe hA hR hQ hP hK hD hS hl
  obtain ⟨hx, hb, hml, hrt, hlk, hts, hown, hno⟩ := id K
  have hl : lv_has ls 4 [(0, .ref mo), (1, .int (iZ (to : Int))), (2, .int (iZ (a : Int))), (3, .int (iZ (E : Int)))] := hl
  have hlr : ∀ q, q < 32 → lm (tv q) + lm (bv q) ≤ 1024 := fun q hq => by have z := ndS_le (tv := tv) (bv := bv) hq; omega
  have hnt : ∀ q, q < 32 → nd (tv q) ≤ 2600 := fun q hq => by have z := nd_lm (v := tv q) (L := 1024) (by have y := hlr q hq; omega); omega
  have hnb : ∀ q, q < 32 → nd (bv q) ≤ 2600 := fun q hq => by have z := nd_lm (v := bv q) (L := 1024) (by have y := hlr q hq; omega); omega
  obtain ⟨ja1, ja2, ja3⟩ := J a (by omega)
  have pa := hbv a (by omega)
  have la := hlr a (by omega)
  have n1 := hnt a (by omega)
  have n2 := hnb a (by omega)
  refine lv_aload_n hx hb d_Mo_multiple_0 rfl (lv_at hl 0 rfl) ?_
  refine lv_iconst (v := iZ (0)) hx hb d_Mo_multiple_1 (by decide +kernel) ?_
  refine lv_iconst (v := iZ (2)) hx hb d_Mo_multiple_2 (by decide +kernel) ?_
  refine lv_iload_n hx hb d_Mo_multiple_3 rfl (lv_at hl 2 rfl) ?_
  refine zz_imul hx hb d_Mo_multiple_4 ?_
  rw [show (2 * (a : Int) : Int) = ((2 * a : Nat) : Int) by omega]
  refine cv (n := 2) (wr := [(oh, .inl (cI, 10000, .inl fh)), (og, .inl (cI, 32, .inl fs)), (on_, .inl (cI, 32, .inl fn))]) (w1 := (fun (u : (Nat → Int32) × (Nat → Int32)) => [(mo, .inr (8, [.int qc, .int (iZ (np : Int)), .ref ow, .ref om, .ref ok_, .ref oK, .ref og, .ref on_, .ref oh, .ref ox, .int qn, .int qf, .ref op_, .int ql])), (ow, .inl (cI, 108000, .inl u.1)), (om, .inl (cI, 9, .inl u.2)), (ok_, .inl (cI, 166400, .inl fk)), (oK, .inl (cI, 64, .inl fK))])) (As := [.int (iZ 0), .int (iZ ((2 * a : Nat) : Int))]) (rest := []) K hP hD hK hS hA hl.1 (c_Mo_load l D mo qc np ow om ok_ oK og on_ oh ox qn qf op_ ql fw fm cI fk fK val (kvf tv bv) 0 (2 * a) H.size hW hMR.1 (by decide) (by omega)) [0, 1, 2, 4, 5] [3, 6, 7] [0] rfl rfl rfl (by decide) (by decide) (by decide) 0 rfl rfl (big_in mw_1238 rfl) (big_in mw_10 rfl) (big_in mw_1235 rfl) (big_in mw_1237 rfl) (big_in sp_31 rfl) rfl rfl (by decide +kernel) ⟨by rw [hR]; exact Nat.le_of_ble_eq_true rfl, by rw [hR]; exact Nat.le_of_ble_eq_true rfl⟩ rfl (Nat.le_of_ble_eq_true rfl) d_Mo_multiple_5 ⟨by rw [hR]; exact Nat.le_of_ble_eq_true rfl, by rw [hR]; exact Nat.le_of_ble_eq_true rfl⟩ rfl (fun v u H locs hp1 hP hD hS _ => ?_)
  obtain ⟨fx1, fy1⟩ := u
  try dsimp only at hp1
  obtain ⟨rfl, w1⟩ := hp1
  have hP : va_P D cls0 [(oh, .inl (cI, 10000, .inl fh)), (og, .inl (cI, 32, .inl fs)), (on_, .inl (cI, 32, .inl fn)), (mo, .inr (8, [.int qc, .int (iZ (np : Int)), .ref ow, .ref om, .ref ok_, .ref oK, .ref og, .ref on_, .ref oh, .ref ox, .int qn, .int qf, .ref op_, .int ql])), (ow, .inl (cI, 108000, .inl fx1)), (om, .inl (cI, 9, .inl fy1)), (ok_, .inl (cI, 166400, .inl fk)), (oK, .inl (cI, 64, .inl fK))] H := hP
  have hD : va_D A [(oh, .inl (cI, 10000, .inl fh)), (og, .inl (cI, 32, .inl fs)), (on_, .inl (cI, 32, .inl fn)), (mo, .inr (8, [.int qc, .int (iZ (np : Int)), .ref ow, .ref om, .ref ok_, .ref oK, .ref og, .ref on_, .ref oh, .ref ox, .int qn, .int qf, .ref op_, .int ql])), (ow, .inl (cI, 108000, .inl fx1)), (om, .inl (cI, 9, .inl fy1)), (ok_, .inl (cI, 166400, .inl fk)), (oK, .inl (cI, 64, .inl fK))] := hD
  show W p l e R s m args below meth c H locs _ _ Q (F0 m 8 ls [])
  rw [kvf_0] at w1
  obtain ⟨v1, hv1⟩ : ∃ z, z = up val 0 (tv a) := ⟨_, rfl⟩
  rw [← hv1] at w1
  refine lv_aload_n hx hb d_Mo_multiple_8 rfl (lv_at hl 0 rfl) ?_
  refine lv_iconst (v := iZ (1)) hx hb d_Mo_multiple_9 (by decide +kernel) ?_
  refine lv_iconst (v := iZ (2)) hx hb d_Mo_multiple_10 (by decide +kernel) ?_
  refine lv_iload_n hx hb d_Mo_multiple_11 rfl (lv_at hl 2 rfl) ?_
  refine zz_imul hx hb d_Mo_multiple_12 ?_
  refine lv_iconst (v := iZ (1)) hx hb d_Mo_multiple_13 (by decide +kernel) ?_
  refine zz_iadd hx hb d_Mo_multiple_14 ?_
  rw [show (2 * (a : Int) + 1 : Int) = ((2 * a + 1 : Nat) : Int) by omega]
  refine cv (n := 2) (wr := [(oh, .inl (cI, 10000, .inl fh)), (og, .inl (cI, 32, .inl fs)), (on_, .inl (cI, 32, .inl fn))]) (w1 := (fun (u : (Nat → Int32) × (Nat → Int32)) => [(mo, .inr (8, [.int qc, .int (iZ (np : Int)), .ref ow, .ref om, .ref ok_, .ref oK, .ref og, .ref on_, .ref oh, .ref ox, .int qn, .int qf, .ref op_, .int ql])), (ow, .inl (cI, 108000, .inl u.1)), (om, .inl (cI, 9, .inl u.2)), (ok_, .inl (cI, 166400, .inl fk)), (oK, .inl (cI, 64, .inl fK))])) (As := [.int (iZ 1), .int (iZ ((2 * a + 1 : Nat) : Int))]) (rest := []) K hP hD hK hS hA hl.1 (c_Mo_load l D mo qc np ow om ok_ oK og on_ oh ox qn qf op_ ql fx1 fy1 cI fk fK v1 (kvf tv bv) 1 (2 * a + 1) H.size w1 hMR.1 (by decide) (by omega)) [3, 4, 5, 6, 7] [0, 1, 2] [0] rfl rfl rfl (by decide) (by decide) (by decide) 0 rfl rfl (big_in mw_1238 rfl) (big_in mw_10 rfl) (big_in mw_1235 rfl) (big_in mw_1237 rfl) (big_in sp_31 rfl) rfl rfl (by decide +kernel) ⟨by rw [hR]; exact Nat.le_of_ble_eq_true rfl, by rw [hR]; exact Nat.le_of_ble_eq_true rfl⟩ rfl (Nat.le_of_ble_eq_true rfl) d_Mo_multiple_15 ⟨by rw [hR]; exact Nat.le_of_ble_eq_true rfl, by rw [hR]; exact Nat.le_of_ble_eq_true rfl⟩ rfl (fun v u H locs hp2 hP hD hS _ => ?_)
  obtain ⟨fx2, fy2⟩ := u
  try dsimp only at hp2
  obtain ⟨rfl, w2⟩ := hp2
  have hP : va_P D cls0 [(oh, .inl (cI, 10000, .inl fh)), (og, .inl (cI, 32, .inl fs)), (on_, .inl (cI, 32, .inl fn)), (mo, .inr (8, [.int qc, .int (iZ (np : Int)), .ref ow, .ref om, .ref ok_, .ref oK, .ref og, .ref on_, .ref oh, .ref ox, .int qn, .int qf, .ref op_, .int ql])), (ow, .inl (cI, 108000, .inl fx2)), (om, .inl (cI, 9, .inl fy2)), (ok_, .inl (cI, 166400, .inl fk)), (oK, .inl (cI, 64, .inl fK))] H := hP
  have hD : va_D A [(oh, .inl (cI, 10000, .inl fh)), (og, .inl (cI, 32, .inl fs)), (on_, .inl (cI, 32, .inl fn)), (mo, .inr (8, [.int qc, .int (iZ (np : Int)), .ref ow, .ref om, .ref ok_, .ref oK, .ref og, .ref on_, .ref oh, .ref ox, .int qn, .int qf, .ref op_, .int ql])), (ow, .inl (cI, 108000, .inl fx2)), (om, .inl (cI, 9, .inl fy2)), (ok_, .inl (cI, 166400, .inl fk)), (oK, .inl (cI, 64, .inl fK))] := hD
  show W p l e R s m args below meth c H locs _ _ Q (F0 m 18 ls [])
  rw [kvf_1] at w2
  obtain ⟨v2, hv2⟩ : ∃ z, z = up v1 1 (bv a) := ⟨_, rfl⟩
  rw [← hv2] at w2
  have e0 : v2 0 = tv a := by rw [hv2, up_n (by decide), hv1, up_s]
  have e1 : v2 1 = bv a := by rw [hv2, up_s]
  have ba := hlr a (by omega)
  refine lv_aload_n hx hb d_Mo_multiple_18 rfl (lv_at hl 0 rfl) ?_
  refine lv_iload_n hx hb d_Mo_multiple_19 rfl (lv_at hl 3 rfl) ?_
  refine zz_if_ge (tgt := 27) hx hb d_Mo_multiple_20 (by decide) (by omega) (fun c20 => ?_) (fun c20 => False.elim (by omega))
  refine lv_iconst (v := iZ (1)) hx hb d_Mo_multiple_27 (by decide +kernel) ?_
  refine lv_iload_n hx hb d_Mo_multiple_28 rfl (lv_at hl 3 rfl) ?_
  refine zz_if_ge (tgt := 37) hx hb d_Mo_multiple_29 (by decide) (by omega) (fun c29 => ?_) (fun c29 => False.elim (by omega))
  refine lv_iload_n hx hb d_Mo_multiple_37 rfl (lv_at hl 3 rfl) ?_
  refine cv (n := 2) (wr := [(oh, .inl (cI, 10000, .inl fh)), (og, .inl (cI, 32, .inl fs)), (on_, .inl (cI, 32, .inl fn)), (ok_, .inl (cI, 166400, .inl fk)), (oK, .inl (cI, 64, .inl fK))]) (w1 := (fun (u : (Nat → Int32) × (Nat → Int32)) => [(mo, .inr (8, [.int qc, .int (iZ (np : Int)), .ref ow, .ref om, .ref ok_, .ref oK, .ref og, .ref on_, .ref oh, .ref ox, .int qn, .int qf, .ref op_, .int ql])), (ow, .inl (cI, 108000, .inl u.1)), (om, .inl (cI, 9, .inl u.2))])) (As := [.int (iZ 1), .int (iZ (E : Int))]) (rest := []) K hP hD hK hS hA hl.1 (c_Mo_doubled l D mo qc np ow om ok_ oK og on_ oh ox qn qf op_ ql fx2 fy2 cI v2 1 E H.size w2 (by decide) (by omega) (by rw [e1]; have z := nd_shl (bv a) E; omega)) [3, 4, 5] [0, 1, 2, 6, 7] [0] rfl rfl rfl (by decide) (by decide) (by decide) 0 rfl rfl (big_in mw_1320 rfl) (big_in mw_10 rfl) (big_in mw_1317 rfl) (big_in mw_1319 rfl) (big_in sp_42 rfl) rfl rfl (by decide +kernel) ⟨by rw [hR]; exact Nat.le_of_ble_eq_true rfl, by rw [hR]; exact Nat.le_of_ble_eq_true rfl⟩ rfl (Nat.le_of_ble_eq_true rfl) d_Mo_multiple_38 ⟨by rw [hR]; exact Nat.le_of_ble_eq_true rfl, by rw [hR]; exact Nat.le_of_ble_eq_true rfl⟩ rfl (fun v u H locs hp3 hP hD hS _ => ?_)
  obtain ⟨fx3, fy3⟩ := u
  try dsimp only at hp3
  obtain ⟨rfl, w3⟩ := hp3
  have hP : va_P D cls0 [(oh, .inl (cI, 10000, .inl fh)), (og, .inl (cI, 32, .inl fs)), (on_, .inl (cI, 32, .inl fn)), (ok_, .inl (cI, 166400, .inl fk)), (oK, .inl (cI, 64, .inl fK)), (mo, .inr (8, [.int qc, .int (iZ (np : Int)), .ref ow, .ref om, .ref ok_, .ref oK, .ref og, .ref on_, .ref oh, .ref ox, .int qn, .int qf, .ref op_, .int ql])), (ow, .inl (cI, 108000, .inl fx3)), (om, .inl (cI, 9, .inl fy3))] H := hP
  have hD : va_D A [(oh, .inl (cI, 10000, .inl fh)), (og, .inl (cI, 32, .inl fs)), (on_, .inl (cI, 32, .inl fn)), (ok_, .inl (cI, 166400, .inl fk)), (oK, .inl (cI, 64, .inl fK)), (mo, .inr (8, [.int qc, .int (iZ (np : Int)), .ref ow, .ref om, .ref ok_, .ref oK, .ref og, .ref on_, .ref oh, .ref ox, .int qn, .int qf, .ref op_, .int ql])), (ow, .inl (cI, 108000, .inl fx3)), (om, .inl (cI, 9, .inl fy3))] := hD
  show W p l e R s m args below meth c H locs _ _ Q (F0 m 41 ls [])
  rw [e1] at w3
  obtain ⟨v3, hv3⟩ : ∃ z, z = up v2 1 (bv a * 2 ^ E) := ⟨_, rfl⟩
  rw [← hv3] at w3
  have y30 : v3 0 = tv a := by rw [hv3, up_n (by decide)]; exact e0
  have y31 : v3 1 = bv a * 2 ^ E := by rw [hv3, up_s]
  have ns := nd_shl (bv a) E
  refine lv_aload_n hx hb d_Mo_multiple_41 rfl (lv_at hl 0 rfl) ?_
  refine cv (n := 0) (wr := [(oh, .inl (cI, 10000, .inl fh)), (og, .inl (cI, 32, .inl fs)), (on_, .inl (cI, 32, .inl fn)), (ok_, .inl (cI, 166400, .inl fk)), (oK, .inl (cI, 64, .inl fK))]) (w1 := (fun (u : (Nat → Int32) × (Nat → Int32) × (Nat → Nat)) => [(mo, .inr (8, [.int qc, .int (iZ (np : Int)), .ref ow, .ref om, .ref ok_, .ref oK, .ref og, .ref on_, .ref oh, .ref ox, .int qn, .int qf, .ref op_, .int ql])), (ow, .inl (cI, 108000, .inl u.1)), (om, .inl (cI, 9, .inl u.2.1))])) (As := []) (rest := []) K hP hD hK hS hA hl.1 (c_Mo_nearest l D mo qc np ow om ok_ oK og on_ oh ox qn qf op_ ql fx3 fy3 cI v3 H.size w3 (by rw [y31]; exact Nat.mul_pos pa (Nat.two_pow_pos _)) (by rw [y30]; omega) (by rw [y31]; omega)) [5, 6, 7] [0, 1, 2, 3, 4] [0] rfl rfl rfl (by decide) (by decide) (by decide) 0 rfl rfl (big_in mw_1333 rfl) (big_in mw_10 rfl) (big_in mw_1330 rfl) (big_in mw_1332 rfl) (big_in sp_45 rfl) rfl rfl (by decide +kernel) ⟨by rw [hR]; exact Nat.le_of_ble_eq_true rfl, by rw [hR]; exact Nat.le_of_ble_eq_true rfl⟩ rfl (Nat.le_of_ble_eq_true rfl) d_Mo_multiple_42 ⟨by rw [hR]; exact Nat.le_of_ble_eq_true rfl, by rw [hR]; exact Nat.le_of_ble_eq_true rfl⟩ rfl (fun v u H locs hp4 hP hD hS _ => ?_)
  obtain ⟨fx4, fy4, v4⟩ := u
  try dsimp only at hp4
  obtain ⟨rfl, w4, y42⟩ := hp4
  have hP : va_P D cls0 [(oh, .inl (cI, 10000, .inl fh)), (og, .inl (cI, 32, .inl fs)), (on_, .inl (cI, 32, .inl fn)), (ok_, .inl (cI, 166400, .inl fk)), (oK, .inl (cI, 64, .inl fK)), (mo, .inr (8, [.int qc, .int (iZ (np : Int)), .ref ow, .ref om, .ref ok_, .ref oK, .ref og, .ref on_, .ref oh, .ref ox, .int qn, .int qf, .ref op_, .int ql])), (ow, .inl (cI, 108000, .inl fx4)), (om, .inl (cI, 9, .inl fy4))] H := hP
  have hD : va_D A [(oh, .inl (cI, 10000, .inl fh)), (og, .inl (cI, 32, .inl fs)), (on_, .inl (cI, 32, .inl fn)), (ok_, .inl (cI, 166400, .inl fk)), (oK, .inl (cI, 64, .inl fK)), (mo, .inr (8, [.int qc, .int (iZ (np : Int)), .ref ow, .ref om, .ref ok_, .ref oK, .ref og, .ref on_, .ref oh, .ref ox, .int qn, .int qf, .ref op_, .int ql])), (ow, .inl (cI, 108000, .inl fx4)), (om, .inl (cI, 9, .inl fy4))] := hD
  show W p l e R s m args below meth c H locs _ _ Q (F0 m 45 ls [])
  rw [y30, y31] at y42
  have nq := nd_mono (nmQ_le (tv a) (bv a * 2 ^ E))
  have nq2 := nd_add (tv a) 1
  have nd1 : nd 1 = 1 := by decide
  refine lv_aload_n hx hb d_Mo_multiple_45 rfl (lv_at hl 0 rfl) ?_
  refine lv_iconst (v := iZ (0)) hx hb d_Mo_multiple_46 (by decide +kernel) ?_
  refine lv_iconst (v := iZ (2)) hx hb d_Mo_multiple_47 (by decide +kernel) ?_
  refine cv (n := 2) (wr := [(oh, .inl (cI, 10000, .inl fh)), (og, .inl (cI, 32, .inl fs)), (on_, .inl (cI, 32, .inl fn)), (ok_, .inl (cI, 166400, .inl fk)), (oK, .inl (cI, 64, .inl fK))]) (w1 := (fun (u : (Nat → Int32) × (Nat → Int32)) => [(mo, .inr (8, [.int qc, .int (iZ (np : Int)), .ref ow, .ref om, .ref ok_, .ref oK, .ref og, .ref on_, .ref oh, .ref ox, .int qn, .int qf, .ref op_, .int ql])), (ow, .inl (cI, 108000, .inl u.1)), (om, .inl (cI, 9, .inl u.2))])) (As := [.int (iZ 0), .int (iZ 2)]) (rest := []) K hP hD hK hS hA hl.1 (c_Mo_copyTo l D mo qc np ow om ok_ oK og on_ oh ox qn qf op_ ql fx4 fy4 cI v4 0 2 H.size w4 (by omega) (by omega) (by omega)) [5, 6, 7] [0, 1, 2, 3, 4] [0] rfl rfl rfl (by decide) (by decide) (by decide) 0 rfl rfl (big_in mw_1193 rfl) (big_in mw_10 rfl) (big_in mw_1190 rfl) (big_in mw_1192 rfl) (big_in sp_22 rfl) rfl rfl (by decide +kernel) ⟨by rw [hR]; exact Nat.le_of_ble_eq_true rfl, by rw [hR]; exact Nat.le_of_ble_eq_true rfl⟩ rfl (Nat.le_of_ble_eq_true rfl) d_Mo_multiple_48 ⟨by rw [hR]; exact Nat.le_of_ble_eq_true rfl, by rw [hR]; exact Nat.le_of_ble_eq_true rfl⟩ rfl (fun v u H locs hp5 hP hD hS _ => ?_)
  obtain ⟨fx5, fy5⟩ := u
  try dsimp only at hp5
  obtain ⟨rfl, w5⟩ := hp5
  have hP : va_P D cls0 [(oh, .inl (cI, 10000, .inl fh)), (og, .inl (cI, 32, .inl fs)), (on_, .inl (cI, 32, .inl fn)), (ok_, .inl (cI, 166400, .inl fk)), (oK, .inl (cI, 64, .inl fK)), (mo, .inr (8, [.int qc, .int (iZ (np : Int)), .ref ow, .ref om, .ref ok_, .ref oK, .ref og, .ref on_, .ref oh, .ref ox, .int qn, .int qf, .ref op_, .int ql])), (ow, .inl (cI, 108000, .inl fx5)), (om, .inl (cI, 9, .inl fy5))] H := hP
  have hD : va_D A [(oh, .inl (cI, 10000, .inl fh)), (og, .inl (cI, 32, .inl fs)), (on_, .inl (cI, 32, .inl fn)), (ok_, .inl (cI, 166400, .inl fk)), (oK, .inl (cI, 64, .inl fK)), (mo, .inr (8, [.int qc, .int (iZ (np : Int)), .ref ow, .ref om, .ref ok_, .ref oK, .ref og, .ref on_, .ref oh, .ref ox, .int qn, .int qf, .ref op_, .int ql])), (ow, .inl (cI, 108000, .inl fx5)), (om, .inl (cI, 9, .inl fy5))] := hD
  show W p l e R s m args below meth c H locs _ _ Q (F0 m 51 ls [])
  rw [y42] at w5
  obtain ⟨v5, hv5⟩ : ∃ z, z = up v4 0 (nmQ (tv a) (bv a * 2 ^ E)) := ⟨_, rfl⟩
  rw [← hv5] at w5
  refine lv_aload_n hx hb d_Mo_multiple_51 rfl (lv_at hl 0 rfl) ?_
  refine lv_iconst (v := iZ (1)) hx hb d_Mo_multiple_52 (by decide +kernel) ?_
  refine lv_lconst (v := lZ (1)) hx hb d_Mo_multiple_53 (by decide +kernel) ?_
  refine cv (n := 2) (wr := [(oh, .inl (cI, 10000, .inl fh)), (og, .inl (cI, 32, .inl fs)), (on_, .inl (cI, 32, .inl fn)), (ok_, .inl (cI, 166400, .inl fk)), (oK, .inl (cI, 64, .inl fK))]) (w1 := (fun (u : (Nat → Int32) × (Nat → Int32)) => [(mo, .inr (8, [.int qc, .int (iZ (np : Int)), .ref ow, .ref om, .ref ok_, .ref oK, .ref og, .ref on_, .ref oh, .ref ox, .int qn, .int qf, .ref op_, .int ql])), (ow, .inl (cI, 108000, .inl u.1)), (om, .inl (cI, 9, .inl u.2))])) (As := [.int (iZ 1), .long (lZ 1)]) (rest := []) K hP hD hK hS hA hl.1 (c_Mo_setLong l D mo qc np ow om ok_ oK og on_ oh ox qn qf op_ ql fx5 fy5 cI v5 1 1 H.size w5 (by omega) (by omega)) [5, 6, 7] [0, 1, 2, 3, 4] [0] rfl rfl rfl (by decide) (by decide) (by decide) 0 rfl rfl (big_in mw_1180 rfl) (big_in mw_10 rfl) (big_in mw_1177 rfl) (big_in mw_1179 rfl) (big_in sp_19 rfl) rfl rfl (by decide +kernel) ⟨by rw [hR]; exact Nat.le_of_ble_eq_true rfl, by rw [hR]; exact Nat.le_of_ble_eq_true rfl⟩ rfl (Nat.le_of_ble_eq_true rfl) d_Mo_multiple_54 ⟨by rw [hR]; exact Nat.le_of_ble_eq_true rfl, by rw [hR]; exact Nat.le_of_ble_eq_true rfl⟩ rfl (fun v u H locs hp6 hP hD hS _ => ?_)
  obtain ⟨fx6, fy6⟩ := u
  try dsimp only at hp6
  obtain ⟨rfl, w6⟩ := hp6
  have hP : va_P D cls0 [(oh, .inl (cI, 10000, .inl fh)), (og, .inl (cI, 32, .inl fs)), (on_, .inl (cI, 32, .inl fn)), (ok_, .inl (cI, 166400, .inl fk)), (oK, .inl (cI, 64, .inl fK)), (mo, .inr (8, [.int qc, .int (iZ (np : Int)), .ref ow, .ref om, .ref ok_, .ref oK, .ref og, .ref on_, .ref oh, .ref ox, .int qn, .int qf, .ref op_, .int ql])), (ow, .inl (cI, 108000, .inl fx6)), (om, .inl (cI, 9, .inl fy6))] H := hP
  have hD : va_D A [(oh, .inl (cI, 10000, .inl fh)), (og, .inl (cI, 32, .inl fs)), (on_, .inl (cI, 32, .inl fn)), (ok_, .inl (cI, 166400, .inl fk)), (oK, .inl (cI, 64, .inl fK)), (mo, .inr (8, [.int qc, .int (iZ (np : Int)), .ref ow, .ref om, .ref ok_, .ref oK, .ref og, .ref on_, .ref oh, .ref ox, .int qn, .int qf, .ref op_, .int ql])), (ow, .inl (cI, 108000, .inl fx6)), (om, .inl (cI, 9, .inl fy6))] := hD
  show W p l e R s m args below meth c H locs _ _ Q (F0 m 57 ls [])
  obtain ⟨v6, hv6⟩ : ∃ x, x = up v5 1 1 := ⟨_, rfl⟩
  have w6 : WB fx6 fy6 v6 := by rw [hv6]; exact w6
  have y60 : v6 0 = nmQ (tv a) (bv a * 2 ^ E) := by rw [hv6, up_n (by decide), hv5, up_s]
  have y61 : v6 1 = 1 := by rw [hv6, up_s]
  refine lv_aload_n hx hb d_Mo_multiple_57 rfl (lv_at hl 0 rfl) ?_
  refine lv_iload_n hx hb d_Mo_multiple_58 rfl (lv_at hl 3 rfl) ?_
  refine zz_if_ge (tgt := 66) hx hb d_Mo_multiple_59 (by decide) (by omega) (fun c59 => ?_) (fun c59 => False.elim (by omega))
  refine lv_iconst (v := iZ (0)) hx hb d_Mo_multiple_66 (by decide +kernel) ?_
  refine lv_iload_n hx hb d_Mo_multiple_67 rfl (lv_at hl 3 rfl) ?_
  refine zz_if_ge (tgt := 76) hx hb d_Mo_multiple_68 (by decide) (by omega) (fun c68 => ?_) (fun c68 => False.elim (by omega))
  refine lv_iload_n hx hb d_Mo_multiple_76 rfl (lv_at hl 3 rfl) ?_
  refine cv (n := 2) (wr := [(oh, .inl (cI, 10000, .inl fh)), (og, .inl (cI, 32, .inl fs)), (on_, .inl (cI, 32, .inl fn)), (ok_, .inl (cI, 166400, .inl fk)), (oK, .inl (cI, 64, .inl fK))]) (w1 := (fun (u : (Nat → Int32) × (Nat → Int32)) => [(mo, .inr (8, [.int qc, .int (iZ (np : Int)), .ref ow, .ref om, .ref ok_, .ref oK, .ref og, .ref on_, .ref oh, .ref ox, .int qn, .int qf, .ref op_, .int ql])), (ow, .inl (cI, 108000, .inl u.1)), (om, .inl (cI, 9, .inl u.2))])) (As := [.int (iZ 0), .int (iZ (E : Int))]) (rest := []) K hP hD hK hS hA hl.1 (c_Mo_doubled l D mo qc np ow om ok_ oK og on_ oh ox qn qf op_ ql fx6 fy6 cI v6 0 E H.size w6 (by decide) (by omega) (by rw [y60]; have z := nd_shl (nmQ (tv a) (bv a * 2 ^ E)) E; omega)) [5, 6, 7] [0, 1, 2, 3, 4] [0] rfl rfl rfl (by decide) (by decide) (by decide) 0 rfl rfl (big_in mw_1320 rfl) (big_in mw_10 rfl) (big_in mw_1317 rfl) (big_in mw_1319 rfl) (big_in sp_42 rfl) rfl rfl (by decide +kernel) ⟨by rw [hR]; exact Nat.le_of_ble_eq_true rfl, by rw [hR]; exact Nat.le_of_ble_eq_true rfl⟩ rfl (Nat.le_of_ble_eq_true rfl) d_Mo_multiple_77 ⟨by rw [hR]; exact Nat.le_of_ble_eq_true rfl, by rw [hR]; exact Nat.le_of_ble_eq_true rfl⟩ rfl (fun v u H locs hp7 hP hD hS _ => ?_)
  obtain ⟨fx7, fy7⟩ := u
  try dsimp only at hp7
  obtain ⟨rfl, w7⟩ := hp7
  have hP : va_P D cls0 [(oh, .inl (cI, 10000, .inl fh)), (og, .inl (cI, 32, .inl fs)), (on_, .inl (cI, 32, .inl fn)), (ok_, .inl (cI, 166400, .inl fk)), (oK, .inl (cI, 64, .inl fK)), (mo, .inr (8, [.int qc, .int (iZ (np : Int)), .ref ow, .ref om, .ref ok_, .ref oK, .ref og, .ref on_, .ref oh, .ref ox, .int qn, .int qf, .ref op_, .int ql])), (ow, .inl (cI, 108000, .inl fx7)), (om, .inl (cI, 9, .inl fy7))] H := hP
  have hD : va_D A [(oh, .inl (cI, 10000, .inl fh)), (og, .inl (cI, 32, .inl fs)), (on_, .inl (cI, 32, .inl fn)), (ok_, .inl (cI, 166400, .inl fk)), (oK, .inl (cI, 64, .inl fK)), (mo, .inr (8, [.int qc, .int (iZ (np : Int)), .ref ow, .ref om, .ref ok_, .ref oK, .ref og, .ref on_, .ref oh, .ref ox, .int qn, .int qf, .ref op_, .int ql])), (ow, .inl (cI, 108000, .inl fx7)), (om, .inl (cI, 9, .inl fy7))] := hD
  show W p l e R s m args below meth c H locs _ _ Q (F0 m 80 ls [])
  rw [y60] at w7
  obtain ⟨v7, hv7⟩ : ∃ z, z = up v6 0 (nmQ (tv a) (bv a * 2 ^ E) * 2 ^ E) := ⟨_, rfl⟩
  rw [← hv7] at w7
  have y70 : v7 0 = nmQ (tv a) (bv a * 2 ^ E) * 2 ^ E := by rw [hv7, up_s]
  have y71 : v7 1 = 1 := by rw [hv7, up_n (by decide)]; exact y61
  have l3 := nmU_lm (tv a) (bv a) E
  have lm1 : lm 1 = 1 := by decide
  refine lv_aload_n hx hb d_Mo_multiple_80 rfl (lv_at hl 0 rfl) ?_
  refine lv_iload_n hx hb d_Mo_multiple_81 rfl (lv_at hl 1 rfl) ?_
  refine lv_aload_n hx hb d_Mo_multiple_82 rfl (lv_at hl 0 rfl) ?_
  refine va_get (D := D) (ci := 8) (v := .ref og) (C := R_Mo) (T := F_Mo) (N := 14) hx hb hts i_Mo hown hK hP 5 rfl rfl 6 (by decide) (hts _ (big_in mw_1121 rfl)) (fun _ h9 => h9) rfl d_Mo_multiple_83 ?_
  refine lv_iload_n hx hb d_Mo_multiple_86 rfl (lv_at hl 2 rfl) ?_
  refine zz_iald hx hb hK hP 1 0 rfl rfl (a) (by omega) (by omega) (by omega) d_Mo_multiple_87 ?_
  rw [hMR.2.1 a (by omega)]
  refine lv_iconst (v := iZ (3)) hx hb d_Mo_multiple_88 (by decide +kernel) ?_
  refine cv (n := 3) (wr := []) (w1 := (fun (u : (Nat → Int32) × (Nat → Int32) × (Nat → Int32) × (Nat → Int32) × (Nat → Int32) × (Nat → Int32) × (Nat → Int32) × (Nat → Nat)) => [(mo, .inr (8, [.int (iZ 0), .int (iZ (np : Int)), .ref ow, .ref om, .ref ok_, .ref oK, .ref og, .ref on_, .ref oh, .ref ox, .int qn, .int qf, .ref op_, .int ql])), (ow, .inl (cI, 108000, .inl u.1)), (om, .inl (cI, 9, .inl u.2.1)), (oh, .inl (cI, 10000, .inl u.2.2.1)), (ok_, .inl (cI, 166400, .inl u.2.2.2.1)), (oK, .inl (cI, 64, .inl u.2.2.2.2.1)), (og, .inl (cI, 32, .inl u.2.2.2.2.2.1)), (on_, .inl (cI, 32, .inl u.2.2.2.2.2.2.1))])) (As := [.int (iZ (to : Int)), .int (iZ (sg a)), .int (iZ 3)]) (rest := []) K hP hD hK hS hA hl.1 (c_Mo_put l D mo qc np ow om ok_ oK og on_ oh ox qn qf op_ ql fx7 fy7 cI fh fk fK fs fn v7 tv bv sg to (sg a) 3 H.size w7 hMR (by omega) hnd hnp (by omega) (by decide) (by rw [y71]; decide) (by rw [y70]; omega) (by rw [y71]; omega) (by rw [y70, y71]; exact hfit)) [5, 6, 7, 0, 3, 4, 1, 2] [] [0] rfl rfl rfl (by decide) (by decide) (by decide) 0 rfl rfl (big_in mw_1185 rfl) (big_in mw_10 rfl) (big_in mw_1182 rfl) (big_in mw_1184 rfl) (big_in sp_20 rfl) rfl rfl (by decide +kernel) ⟨by rw [hR]; exact Nat.le_of_ble_eq_true rfl, by rw [hR]; exact Nat.le_of_ble_eq_true rfl⟩ rfl (Nat.le_of_ble_eq_true rfl) d_Mo_multiple_89 ⟨by rw [hR]; exact Nat.le_of_ble_eq_true rfl, by rw [hR]; exact Nat.le_of_ble_eq_true rfl⟩ rfl (fun v u H locs hp8 hP hD hS _ => ?_)
  obtain ⟨fa, fb, fc, fd, fe, ff, fg, v9⟩ := u
  try dsimp only at hp8
  obtain ⟨rfl, w9, q9⟩ := hp8
  have hP : va_P D cls0 [(mo, .inr (8, [.int (iZ 0), .int (iZ (np : Int)), .ref ow, .ref om, .ref ok_, .ref oK, .ref og, .ref on_, .ref oh, .ref ox, .int qn, .int qf, .ref op_, .int ql])), (ow, .inl (cI, 108000, .inl fa)), (om, .inl (cI, 9, .inl fb)), (oh, .inl (cI, 10000, .inl fc)), (ok_, .inl (cI, 166400, .inl fd)), (oK, .inl (cI, 64, .inl fe)), (og, .inl (cI, 32, .inl ff)), (on_, .inl (cI, 32, .inl fg))] H := hP
  have hD : va_D A [(mo, .inr (8, [.int (iZ 0), .int (iZ (np : Int)), .ref ow, .ref om, .ref ok_, .ref oK, .ref og, .ref on_, .ref oh, .ref ox, .int qn, .int qf, .ref op_, .int ql])), (ow, .inl (cI, 108000, .inl fa)), (om, .inl (cI, 9, .inl fb)), (oh, .inl (cI, 10000, .inl fc)), (ok_, .inl (cI, 166400, .inl fd)), (oK, .inl (cI, 64, .inl fe)), (og, .inl (cI, 32, .inl ff)), (on_, .inl (cI, 32, .inl fg))] := hD
  show W p l e R s m args below meth c H locs _ _ Q (F0 m 92 ls [.int (iZ ((lm (rdN (v7 0) (v7 1)) : Int) + (lm (rdD (v7 0) (v7 1)) : Int)))])
  rw [y70, y71]
  rw [y70, y71] at q9
  have hP9 : va_P D cls0 [(mo, .inr (8, [.int (iZ 0), .int (iZ (np : Int)), .ref ow, .ref om, .ref ok_, .ref oK, .ref og, .ref on_, .ref oh, .ref ox, .int qn, .int qf, .ref op_, .int ql])), (ow, .inl (cI, 108000, .inl fa)), (om, .inl (cI, 9, .inl fb)), (oh, .inl (cI, 10000, .inl fc)), (ok_, .inl (cI, 166400, .inl fd)), (oK, .inl (cI, 64, .inl fe)), (og, .inl (cI, 32, .inl ff)), (on_, .inl (cI, 32, .inl fg))] H := hP.sub [0, 1, 2, 3, 4, 5, 6, 7] rfl
  have hD9 : va_D A [(mo, .inr (8, [.int (iZ 0), .int (iZ (np : Int)), .ref ow, .ref om, .ref ok_, .ref oK, .ref og, .ref on_, .ref oh, .ref ox, .int qn, .int qf, .ref op_, .int ql])), (ow, .inl (cI, 108000, .inl fa)), (om, .inl (cI, 9, .inl fb)), (oh, .inl (cI, 10000, .inl fc)), (ok_, .inl (cI, 166400, .inl fd)), (oK, .inl (cI, 64, .inl fe)), (og, .inl (cI, 32, .inl ff)), (on_, .inl (cI, 32, .inl fg))] := hD.sub [0, 1, 2, 3, 4, 5, 6, 7] (by decide) rfl
  rw [hQ, ← hAe]
  refine r_i (v := (iZ ((lm (rdN ((nmQ (tv a) (bv a * 2 ^ E) * 2 ^ E)) (1)) : Int) + (lm (rdD ((nmQ (tv a) (bv a * 2 ^ E) * 2 ^ E)) (1)) : Int)))) K (fa, fb, fc, fd, fe, ff, fg, v9) hS d_Mo_multiple_92 ?_ (fun t ht hv => ?_)
  · try dsimp only
    refine ⟨rfl, w9, ?_⟩
    exact q9
  · exact ⟨by rw [ht]; exact hP9, va_K.moved hv hK, by rw [← hAe]; exact hD9⟩
set_option maxHeartbeats 4000000 in
set_option maxRecDepth 100000 in
/-- Mo_multiple -/
theorem f_Mo_multipleUp (l : Launch) (D : va_G) (mo : Nat) (qc : Int32) (np : Nat) (ow : Nat) (om : Nat) (ok_ : Nat) (oK : Nat) (og : Nat) (on_ : Nat) (oh : Nat) (ox : Nat) (qn : Int32) (qf : Int32) (op_ : Nat) (ql : Int32) (fw : Nat → Int32) (fm : Nat → Int32) (cI : ClassId) (fh : Nat → Int32) (fk : Nat → Int32) (fK : Nat → Int32) (fs : Nat → Int32) (fn : Nat → Int32) (val : Nat → Nat) (tv : Nat → Nat) (bv : Nat → Nat) (sg : Nat → Int) (to : Nat) (a : Nat) (E : Nat) (sz : Nat) (hW : WB fw fm val) (hMR : MoR fk fK fs fn tv bv sg) (hnd : ndS tv bv 32 ≤ np) (hnp : np ≤ 1024) (J : RgC tv bv sg) (hbv : ∀ r, r < 32 → 0 < bv r) (t1 : to < 32) (t2 : a < 32) (hE : E ≤ 34000) (hfit : np + (lm (tv to) + lm (bv to)) < ndS tv bv 32 + (lm (rdN (nmQ (tv a) (bv a * 2 ^ E) * 2 ^ E) (1)) + lm (rdD (nmQ (tv a) (bv a * 2 ^ E) * 2 ^ E) (1)))) : Met l y_Mo_multiple (wsB y_Mo_multiple b_Mo_multiple 4 (some .int)) ({ frames := 5, cells := 0, slots := 0, locals := 125 }) (va_Pc [.ref mo, .int (iZ (to : Int)), .int (iZ (a : Int)), .int (iZ (E : Int))] (wPre D [(cI, .int)] [(mo, .inr (8, [.int qc, .int (iZ (np : Int)), .ref ow, .ref om, .ref ok_, .ref oK, .ref og, .ref on_, .ref oh, .ref ox, .int qn, .int qf, .ref op_, .int ql])), (ow, .inl (cI, 108000, .inl fw)), (om, .inl (cI, 9, .inl fm)), (oh, .inl (cI, 10000, .inl fh)), (ok_, .inl (cI, 166400, .inl fk)), (oK, .inl (cI, 64, .inl fK)), (og, .inl (cI, 32, .inl fs)), (on_, .inl (cI, 32, .inl fn))] sz)) (va_QV (fun (v_9 : Option Value) (u_9 : (Nat → Int32) × (Nat → Int32) × (Nat → Int32) × (Nat → Nat)) => v_9 = some (.int (iZ 0)) ∧ (WB u_9.1 u_9.2.1 u_9.2.2.2)) (fun u_9 => wPost D [(cI, .int)] [(mo, .inr (8, [.int qc, .int (iZ (np : Int)), .ref ow, .ref om, .ref ok_, .ref oK, .ref og, .ref on_, .ref oh, .ref ox, .int qn, .int qf, .ref op_, .int ql])), (ow, .inl (cI, 108000, .inl fw)), (om, .inl (cI, 9, .inl fm)), (oh, .inl (cI, 10000, .inl fh)), (ok_, .inl (cI, 166400, .inl fk)), (oK, .inl (cI, 64, .inl fK)), (og, .inl (cI, 32, .inl fs)), (on_, .inl (cI, 32, .inl fn))] [(mo, .inr (8, [.int (iZ 3), .int (iZ (np : Int)), .ref ow, .ref om, .ref ok_, .ref oK, .ref og, .ref on_, .ref oh, .ref ox, .int qn, .int qf, .ref op_, .int ql])), (ow, .inl (cI, 108000, .inl u_9.1)), (om, .inl (cI, 9, .inl u_9.2.1)), (oh, .inl (cI, 10000, .inl u_9.2.2.1)), (ok_, .inl (cI, 166400, .inl fk)), (oK, .inl (cI, 64, .inl fK)), (og, .inl (cI, 32, .inl fs)), (on_, .inl (cI, 32, .inl fn))] sz) (va_A [(mo, .inr (8, [.int qc, .int (iZ (np : Int)), .ref ow, .ref om, .ref ok_, .ref oK, .ref og, .ref on_, .ref oh, .ref ox, .int qn, .int qf, .ref op_, .int ql])), (ow, .inl (cI, 108000, .inl fw)), (om, .inl (cI, 9, .inl fm)), (oh, .inl (cI, 10000, .inl fh)), (ok_, .inl (cI, 166400, .inl fk)), (oK, .inl (cI, 64, .inl fK)), (og, .inl (cI, 32, .inl fs)), (on_, .inl (cI, 32, .inl fn))] sz)) 0 0 (va_A [(mo, .inr (8, [.int qc, .int (iZ (np : Int)), .ref ow, .ref om, .ref ok_, .ref oK, .ref og, .ref on_, .ref oh, .ref ox, .int qn, .int qf, .ref op_, .int ql])), (ow, .inl (cI, 108000, .inl fw)), (om, .inl (cI, 9, .inl fm)), (oh, .inl (cI, 10000, .inl fh)), (ok_, .inl (cI, 166400, .inl fk)), (oK, .inl (cI, 64, .inl fK)), (og, .inl (cI, 32, .inl fs)), (on_, .inl (cI, 32, .inl fn))] sz) := by
  refine met_enter (by decide +kernel) (Nat.le_of_ble_eq_true rfl) ?_
  intro p e s m args below meth c ls A R Q H locs K hin hAe hA hR hQ hP hK hD hS hl
  obtain ⟨hx, hb, hml, hrt, hlk, hts, hown, hno⟩ := id K
  have hl : lv_has ls 4 [(0, .ref mo), (1, .int (iZ (to : Int))), (2, .int (iZ (a : Int))), (3, .int (iZ (E : Int)))] := hl
  have hlr : ∀ q, q < 32 → lm (tv q) + lm (bv q) ≤ 1024 := fun q hq => by have z := ndS_le (tv := tv) (bv := bv) hq; omega
  have hnt : ∀ q, q < 32 → nd (tv q) ≤ 2600 := fun q hq => by have z := nd_lm (v := tv q) (L := 1024) (by have y := hlr q hq; omega); omega
  have hnb : ∀ q, q < 32 → nd (bv q) ≤ 2600 := fun q hq => by have z := nd_lm (v := bv q) (L := 1024) (by have y := hlr q hq; omega); omega
  obtain ⟨ja1, ja2, ja3⟩ := J a (by omega)
  have pa := hbv a (by omega)
  have la := hlr a (by omega)
  have n1 := hnt a (by omega)
  have n2 := hnb a (by omega)
  refine lv_aload_n hx hb d_Mo_multiple_0 rfl (lv_at hl 0 rfl) ?_
  refine lv_iconst (v := iZ (0)) hx hb d_Mo_multiple_1 (by decide +kernel) ?_
  refine lv_iconst (v := iZ (2)) hx hb d_Mo_multiple_2 (by decide +kernel) ?_
  refine lv_iload_n hx hb d_Mo_multiple_3 rfl (lv_at hl 2 rfl) ?_
  refine zz_imul hx hb d_Mo_multiple_4 ?_
  rw [show (2 * (a : Int) : Int) = ((2 * a : Nat) : Int) by omega]
  refine cv (n := 2) (wr := [(oh, .inl (cI, 10000, .inl fh)), (og, .inl (cI, 32, .inl fs)), (on_, .inl (cI, 32, .inl fn))]) (w1 := (fun (u : (Nat → Int32) × (Nat → Int32)) => [(mo, .inr (8, [.int qc, .int (iZ (np : Int)), .ref ow, .ref om, .ref ok_, .ref oK, .ref og, .ref on_, .ref oh, .ref ox, .int qn, .int qf, .ref op_, .int ql])), (ow, .inl (cI, 108000, .inl u.1)), (om, .inl (cI, 9, .inl u.2)), (ok_, .inl (cI, 166400, .inl fk)), (oK, .inl (cI, 64, .inl fK))])) (As := [.int (iZ 0), .int (iZ ((2 * a : Nat) : Int))]) (rest := []) K hP hD hK hS hA hl.1 (c_Mo_load l D mo qc np ow om ok_ oK og on_ oh ox qn qf op_ ql fw fm cI fk fK val (kvf tv bv) 0 (2 * a) H.size hW hMR.1 (by decide) (by omega)) [0, 1, 2, 4, 5] [3, 6, 7] [0] rfl rfl rfl (by decide) (by decide) (by decide) 0 rfl rfl (big_in mw_1238 rfl) (big_in mw_10 rfl) (big_in mw_1235 rfl) (big_in mw_1237 rfl) (big_in sp_31 rfl) rfl rfl (by decide +kernel) ⟨by rw [hR]; exact Nat.le_of_ble_eq_true rfl, by rw [hR]; exact Nat.le_of_ble_eq_true rfl⟩ rfl (Nat.le_of_ble_eq_true rfl) d_Mo_multiple_5 ⟨by rw [hR]; exact Nat.le_of_ble_eq_true rfl, by rw [hR]; exact Nat.le_of_ble_eq_true rfl⟩ rfl (fun v u H locs hp1 hP hD hS _ => ?_)
  obtain ⟨fx1, fy1⟩ := u
  try dsimp only at hp1
  obtain ⟨rfl, w1⟩ := hp1
  have hP : va_P D cls0 [(oh, .inl (cI, 10000, .inl fh)), (og, .inl (cI, 32, .inl fs)), (on_, .inl (cI, 32, .inl fn)), (mo, .inr (8, [.int qc, .int (iZ (np : Int)), .ref ow, .ref om, .ref ok_, .ref oK, .ref og, .ref on_, .ref oh, .ref ox, .int qn, .int qf, .ref op_, .int ql])), (ow, .inl (cI, 108000, .inl fx1)), (om, .inl (cI, 9, .inl fy1)), (ok_, .inl (cI, 166400, .inl fk)), (oK, .inl (cI, 64, .inl fK))] H := hP
  have hD : va_D A [(oh, .inl (cI, 10000, .inl fh)), (og, .inl (cI, 32, .inl fs)), (on_, .inl (cI, 32, .inl fn)), (mo, .inr (8, [.int qc, .int (iZ (np : Int)), .ref ow, .ref om, .ref ok_, .ref oK, .ref og, .ref on_, .ref oh, .ref ox, .int qn, .int qf, .ref op_, .int ql])), (ow, .inl (cI, 108000, .inl fx1)), (om, .inl (cI, 9, .inl fy1)), (ok_, .inl (cI, 166400, .inl fk)), (oK, .inl (cI, 64, .inl fK))] := hD
  show W p l e R s m args below meth c H locs _ _ Q (F0 m 8 ls [])
  rw [kvf_0] at w1
  obtain ⟨v1, hv1⟩ : ∃ z, z = up val 0 (tv a) := ⟨_, rfl⟩
  rw [← hv1] at w1
  refine lv_aload_n hx hb d_Mo_multiple_8 rfl (lv_at hl 0 rfl) ?_
  refine lv_iconst (v := iZ (1)) hx hb d_Mo_multiple_9 (by decide +kernel) ?_
  refine lv_iconst (v := iZ (2)) hx hb d_Mo_multiple_10 (by decide +kernel) ?_
  refine lv_iload_n hx hb d_Mo_multiple_11 rfl (lv_at hl 2 rfl) ?_
  refine zz_imul hx hb d_Mo_multiple_12 ?_
  refine lv_iconst (v := iZ (1)) hx hb d_Mo_multiple_13 (by decide +kernel) ?_
  refine zz_iadd hx hb d_Mo_multiple_14 ?_
  rw [show (2 * (a : Int) + 1 : Int) = ((2 * a + 1 : Nat) : Int) by omega]
  refine cv (n := 2) (wr := [(oh, .inl (cI, 10000, .inl fh)), (og, .inl (cI, 32, .inl fs)), (on_, .inl (cI, 32, .inl fn))]) (w1 := (fun (u : (Nat → Int32) × (Nat → Int32)) => [(mo, .inr (8, [.int qc, .int (iZ (np : Int)), .ref ow, .ref om, .ref ok_, .ref oK, .ref og, .ref on_, .ref oh, .ref ox, .int qn, .int qf, .ref op_, .int ql])), (ow, .inl (cI, 108000, .inl u.1)), (om, .inl (cI, 9, .inl u.2)), (ok_, .inl (cI, 166400, .inl fk)), (oK, .inl (cI, 64, .inl fK))])) (As := [.int (iZ 1), .int (iZ ((2 * a + 1 : Nat) : Int))]) (rest := []) K hP hD hK hS hA hl.1 (c_Mo_load l D mo qc np ow om ok_ oK og on_ oh ox qn qf op_ ql fx1 fy1 cI fk fK v1 (kvf tv bv) 1 (2 * a + 1) H.size w1 hMR.1 (by decide) (by omega)) [3, 4, 5, 6, 7] [0, 1, 2] [0] rfl rfl rfl (by decide) (by decide) (by decide) 0 rfl rfl (big_in mw_1238 rfl) (big_in mw_10 rfl) (big_in mw_1235 rfl) (big_in mw_1237 rfl) (big_in sp_31 rfl) rfl rfl (by decide +kernel) ⟨by rw [hR]; exact Nat.le_of_ble_eq_true rfl, by rw [hR]; exact Nat.le_of_ble_eq_true rfl⟩ rfl (Nat.le_of_ble_eq_true rfl) d_Mo_multiple_15 ⟨by rw [hR]; exact Nat.le_of_ble_eq_true rfl, by rw [hR]; exact Nat.le_of_ble_eq_true rfl⟩ rfl (fun v u H locs hp2 hP hD hS _ => ?_)
  obtain ⟨fx2, fy2⟩ := u
  try dsimp only at hp2
  obtain ⟨rfl, w2⟩ := hp2
  have hP : va_P D cls0 [(oh, .inl (cI, 10000, .inl fh)), (og, .inl (cI, 32, .inl fs)), (on_, .inl (cI, 32, .inl fn)), (mo, .inr (8, [.int qc, .int (iZ (np : Int)), .ref ow, .ref om, .ref ok_, .ref oK, .ref og, .ref on_, .ref oh, .ref ox, .int qn, .int qf, .ref op_, .int ql])), (ow, .inl (cI, 108000, .inl fx2)), (om, .inl (cI, 9, .inl fy2)), (ok_, .inl (cI, 166400, .inl fk)), (oK, .inl (cI, 64, .inl fK))] H := hP
  have hD : va_D A [(oh, .inl (cI, 10000, .inl fh)), (og, .inl (cI, 32, .inl fs)), (on_, .inl (cI, 32, .inl fn)), (mo, .inr (8, [.int qc, .int (iZ (np : Int)), .ref ow, .ref om, .ref ok_, .ref oK, .ref og, .ref on_, .ref oh, .ref ox, .int qn, .int qf, .ref op_, .int ql])), (ow, .inl (cI, 108000, .inl fx2)), (om, .inl (cI, 9, .inl fy2)), (ok_, .inl (cI, 166400, .inl fk)), (oK, .inl (cI, 64, .inl fK))] := hD
  show W p l e R s m args below meth c H locs _ _ Q (F0 m 18 ls [])
  rw [kvf_1] at w2
  obtain ⟨v2, hv2⟩ : ∃ z, z = up v1 1 (bv a) := ⟨_, rfl⟩
  rw [← hv2] at w2
  have e0 : v2 0 = tv a := by rw [hv2, up_n (by decide), hv1, up_s]
  have e1 : v2 1 = bv a := by rw [hv2, up_s]
  have ba := hlr a (by omega)
  refine lv_aload_n hx hb d_Mo_multiple_18 rfl (lv_at hl 0 rfl) ?_
  refine lv_iload_n hx hb d_Mo_multiple_19 rfl (lv_at hl 3 rfl) ?_
  refine zz_if_ge (tgt := 27) hx hb d_Mo_multiple_20 (by decide) (by omega) (fun c20 => ?_) (fun c20 => False.elim (by omega))
  refine lv_iconst (v := iZ (1)) hx hb d_Mo_multiple_27 (by decide +kernel) ?_
  refine lv_iload_n hx hb d_Mo_multiple_28 rfl (lv_at hl 3 rfl) ?_
  refine zz_if_ge (tgt := 37) hx hb d_Mo_multiple_29 (by decide) (by omega) (fun c29 => ?_) (fun c29 => False.elim (by omega))
  refine lv_iload_n hx hb d_Mo_multiple_37 rfl (lv_at hl 3 rfl) ?_
  refine cv (n := 2) (wr := [(oh, .inl (cI, 10000, .inl fh)), (og, .inl (cI, 32, .inl fs)), (on_, .inl (cI, 32, .inl fn)), (ok_, .inl (cI, 166400, .inl fk)), (oK, .inl (cI, 64, .inl fK))]) (w1 := (fun (u : (Nat → Int32) × (Nat → Int32)) => [(mo, .inr (8, [.int qc, .int (iZ (np : Int)), .ref ow, .ref om, .ref ok_, .ref oK, .ref og, .ref on_, .ref oh, .ref ox, .int qn, .int qf, .ref op_, .int ql])), (ow, .inl (cI, 108000, .inl u.1)), (om, .inl (cI, 9, .inl u.2))])) (As := [.int (iZ 1), .int (iZ (E : Int))]) (rest := []) K hP hD hK hS hA hl.1 (c_Mo_doubled l D mo qc np ow om ok_ oK og on_ oh ox qn qf op_ ql fx2 fy2 cI v2 1 E H.size w2 (by decide) (by omega) (by rw [e1]; have z := nd_shl (bv a) E; omega)) [3, 4, 5] [0, 1, 2, 6, 7] [0] rfl rfl rfl (by decide) (by decide) (by decide) 0 rfl rfl (big_in mw_1320 rfl) (big_in mw_10 rfl) (big_in mw_1317 rfl) (big_in mw_1319 rfl) (big_in sp_42 rfl) rfl rfl (by decide +kernel) ⟨by rw [hR]; exact Nat.le_of_ble_eq_true rfl, by rw [hR]; exact Nat.le_of_ble_eq_true rfl⟩ rfl (Nat.le_of_ble_eq_true rfl) d_Mo_multiple_38 ⟨by rw [hR]; exact Nat.le_of_ble_eq_true rfl, by rw [hR]; exact Nat.le_of_ble_eq_true rfl⟩ rfl (fun v u H locs hp3 hP hD hS _ => ?_)
  obtain ⟨fx3, fy3⟩ := u
  try dsimp only at hp3
  obtain ⟨rfl, w3⟩ := hp3
  have hP : va_P D cls0 [(oh, .inl (cI, 10000, .inl fh)), (og, .inl (cI, 32, .inl fs)), (on_, .inl (cI, 32, .inl fn)), (ok_, .inl (cI, 166400, .inl fk)), (oK, .inl (cI, 64, .inl fK)), (mo, .inr (8, [.int qc, .int (iZ (np : Int)), .ref ow, .ref om, .ref ok_, .ref oK, .ref og, .ref on_, .ref oh, .ref ox, .int qn, .int qf, .ref op_, .int ql])), (ow, .inl (cI, 108000, .inl fx3)), (om, .inl (cI, 9, .inl fy3))] H := hP
  have hD : va_D A [(oh, .inl (cI, 10000, .inl fh)), (og, .inl (cI, 32, .inl fs)), (on_, .inl (cI, 32, .inl fn)), (ok_, .inl (cI, 166400, .inl fk)), (oK, .inl (cI, 64, .inl fK)), (mo, .inr (8, [.int qc, .int (iZ (np : Int)), .ref ow, .ref om, .ref ok_, .ref oK, .ref og, .ref on_, .ref oh, .ref ox, .int qn, .int qf, .ref op_, .int ql])), (ow, .inl (cI, 108000, .inl fx3)), (om, .inl (cI, 9, .inl fy3))] := hD
  show W p l e R s m args below meth c H locs _ _ Q (F0 m 41 ls [])
  rw [e1] at w3
  obtain ⟨v3, hv3⟩ : ∃ z, z = up v2 1 (bv a * 2 ^ E) := ⟨_, rfl⟩
  rw [← hv3] at w3
  have y30 : v3 0 = tv a := by rw [hv3, up_n (by decide)]; exact e0
  have y31 : v3 1 = bv a * 2 ^ E := by rw [hv3, up_s]
  have ns := nd_shl (bv a) E
  refine lv_aload_n hx hb d_Mo_multiple_41 rfl (lv_at hl 0 rfl) ?_
  refine cv (n := 0) (wr := [(oh, .inl (cI, 10000, .inl fh)), (og, .inl (cI, 32, .inl fs)), (on_, .inl (cI, 32, .inl fn)), (ok_, .inl (cI, 166400, .inl fk)), (oK, .inl (cI, 64, .inl fK))]) (w1 := (fun (u : (Nat → Int32) × (Nat → Int32) × (Nat → Nat)) => [(mo, .inr (8, [.int qc, .int (iZ (np : Int)), .ref ow, .ref om, .ref ok_, .ref oK, .ref og, .ref on_, .ref oh, .ref ox, .int qn, .int qf, .ref op_, .int ql])), (ow, .inl (cI, 108000, .inl u.1)), (om, .inl (cI, 9, .inl u.2.1))])) (As := []) (rest := []) K hP hD hK hS hA hl.1 (c_Mo_nearest l D mo qc np ow om ok_ oK og on_ oh ox qn qf op_ ql fx3 fy3 cI v3 H.size w3 (by rw [y31]; exact Nat.mul_pos pa (Nat.two_pow_pos _)) (by rw [y30]; omega) (by rw [y31]; omega)) [5, 6, 7] [0, 1, 2, 3, 4] [0] rfl rfl rfl (by decide) (by decide) (by decide) 0 rfl rfl (big_in mw_1333 rfl) (big_in mw_10 rfl) (big_in mw_1330 rfl) (big_in mw_1332 rfl) (big_in sp_45 rfl) rfl rfl (by decide +kernel) ⟨by rw [hR]; exact Nat.le_of_ble_eq_true rfl, by rw [hR]; exact Nat.le_of_ble_eq_true rfl⟩ rfl (Nat.le_of_ble_eq_true rfl) d_Mo_multiple_42 ⟨by rw [hR]; exact Nat.le_of_ble_eq_true rfl, by rw [hR]; exact Nat.le_of_ble_eq_true rfl⟩ rfl (fun v u H locs hp4 hP hD hS _ => ?_)
  obtain ⟨fx4, fy4, v4⟩ := u
  try dsimp only at hp4
  obtain ⟨rfl, w4, y42⟩ := hp4
  have hP : va_P D cls0 [(oh, .inl (cI, 10000, .inl fh)), (og, .inl (cI, 32, .inl fs)), (on_, .inl (cI, 32, .inl fn)), (ok_, .inl (cI, 166400, .inl fk)), (oK, .inl (cI, 64, .inl fK)), (mo, .inr (8, [.int qc, .int (iZ (np : Int)), .ref ow, .ref om, .ref ok_, .ref oK, .ref og, .ref on_, .ref oh, .ref ox, .int qn, .int qf, .ref op_, .int ql])), (ow, .inl (cI, 108000, .inl fx4)), (om, .inl (cI, 9, .inl fy4))] H := hP
  have hD : va_D A [(oh, .inl (cI, 10000, .inl fh)), (og, .inl (cI, 32, .inl fs)), (on_, .inl (cI, 32, .inl fn)), (ok_, .inl (cI, 166400, .inl fk)), (oK, .inl (cI, 64, .inl fK)), (mo, .inr (8, [.int qc, .int (iZ (np : Int)), .ref ow, .ref om, .ref ok_, .ref oK, .ref og, .ref on_, .ref oh, .ref ox, .int qn, .int qf, .ref op_, .int ql])), (ow, .inl (cI, 108000, .inl fx4)), (om, .inl (cI, 9, .inl fy4))] := hD
  show W p l e R s m args below meth c H locs _ _ Q (F0 m 45 ls [])
  rw [y30, y31] at y42
  have nq := nd_mono (nmQ_le (tv a) (bv a * 2 ^ E))
  have nq2 := nd_add (tv a) 1
  have nd1 : nd 1 = 1 := by decide
  refine lv_aload_n hx hb d_Mo_multiple_45 rfl (lv_at hl 0 rfl) ?_
  refine lv_iconst (v := iZ (0)) hx hb d_Mo_multiple_46 (by decide +kernel) ?_
  refine lv_iconst (v := iZ (2)) hx hb d_Mo_multiple_47 (by decide +kernel) ?_
  refine cv (n := 2) (wr := [(oh, .inl (cI, 10000, .inl fh)), (og, .inl (cI, 32, .inl fs)), (on_, .inl (cI, 32, .inl fn)), (ok_, .inl (cI, 166400, .inl fk)), (oK, .inl (cI, 64, .inl fK))]) (w1 := (fun (u : (Nat → Int32) × (Nat → Int32)) => [(mo, .inr (8, [.int qc, .int (iZ (np : Int)), .ref ow, .ref om, .ref ok_, .ref oK, .ref og, .ref on_, .ref oh, .ref ox, .int qn, .int qf, .ref op_, .int ql])), (ow, .inl (cI, 108000, .inl u.1)), (om, .inl (cI, 9, .inl u.2))])) (As := [.int (iZ 0), .int (iZ 2)]) (rest := []) K hP hD hK hS hA hl.1 (c_Mo_copyTo l D mo qc np ow om ok_ oK og on_ oh ox qn qf op_ ql fx4 fy4 cI v4 0 2 H.size w4 (by omega) (by omega) (by omega)) [5, 6, 7] [0, 1, 2, 3, 4] [0] rfl rfl rfl (by decide) (by decide) (by decide) 0 rfl rfl (big_in mw_1193 rfl) (big_in mw_10 rfl) (big_in mw_1190 rfl) (big_in mw_1192 rfl) (big_in sp_22 rfl) rfl rfl (by decide +kernel) ⟨by rw [hR]; exact Nat.le_of_ble_eq_true rfl, by rw [hR]; exact Nat.le_of_ble_eq_true rfl⟩ rfl (Nat.le_of_ble_eq_true rfl) d_Mo_multiple_48 ⟨by rw [hR]; exact Nat.le_of_ble_eq_true rfl, by rw [hR]; exact Nat.le_of_ble_eq_true rfl⟩ rfl (fun v u H locs hp5 hP hD hS _ => ?_)
  obtain ⟨fx5, fy5⟩ := u
  try dsimp only at hp5
  obtain ⟨rfl, w5⟩ := hp5
  have hP : va_P D cls0 [(oh, .inl (cI, 10000, .inl fh)), (og, .inl (cI, 32, .inl fs)), (on_, .inl (cI, 32, .inl fn)), (ok_, .inl (cI, 166400, .inl fk)), (oK, .inl (cI, 64, .inl fK)), (mo, .inr (8, [.int qc, .int (iZ (np : Int)), .ref ow, .ref om, .ref ok_, .ref oK, .ref og, .ref on_, .ref oh, .ref ox, .int qn, .int qf, .ref op_, .int ql])), (ow, .inl (cI, 108000, .inl fx5)), (om, .inl (cI, 9, .inl fy5))] H := hP
  have hD : va_D A [(oh, .inl (cI, 10000, .inl fh)), (og, .inl (cI, 32, .inl fs)), (on_, .inl (cI, 32, .inl fn)), (ok_, .inl (cI, 166400, .inl fk)), (oK, .inl (cI, 64, .inl fK)), (mo, .inr (8, [.int qc, .int (iZ (np : Int)), .ref ow, .ref om, .ref ok_, .ref oK, .ref og, .ref on_, .ref oh, .ref ox, .int qn, .int qf, .ref op_, .int ql])), (ow, .inl (cI, 108000, .inl fx5)), (om, .inl (cI, 9, .inl fy5))] := hD
  show W p l e R s m args below meth c H locs _ _ Q (F0 m 51 ls [])
  rw [y42] at w5
  obtain ⟨v5, hv5⟩ : ∃ z, z = up v4 0 (nmQ (tv a) (bv a * 2 ^ E)) := ⟨_, rfl⟩
  rw [← hv5] at w5
  refine lv_aload_n hx hb d_Mo_multiple_51 rfl (lv_at hl 0 rfl) ?_
  refine lv_iconst (v := iZ (1)) hx hb d_Mo_multiple_52 (by decide +kernel) ?_
  refine lv_lconst (v := lZ (1)) hx hb d_Mo_multiple_53 (by decide +kernel) ?_
  refine cv (n := 2) (wr := [(oh, .inl (cI, 10000, .inl fh)), (og, .inl (cI, 32, .inl fs)), (on_, .inl (cI, 32, .inl fn)), (ok_, .inl (cI, 166400, .inl fk)), (oK, .inl (cI, 64, .inl fK))]) (w1 := (fun (u : (Nat → Int32) × (Nat → Int32)) => [(mo, .inr (8, [.int qc, .int (iZ (np : Int)), .ref ow, .ref om, .ref ok_, .ref oK, .ref og, .ref on_, .ref oh, .ref ox, .int qn, .int qf, .ref op_, .int ql])), (ow, .inl (cI, 108000, .inl u.1)), (om, .inl (cI, 9, .inl u.2))])) (As := [.int (iZ 1), .long (lZ 1)]) (rest := []) K hP hD hK hS hA hl.1 (c_Mo_setLong l D mo qc np ow om ok_ oK og on_ oh ox qn qf op_ ql fx5 fy5 cI v5 1 1 H.size w5 (by omega) (by omega)) [5, 6, 7] [0, 1, 2, 3, 4] [0] rfl rfl rfl (by decide) (by decide) (by decide) 0 rfl rfl (big_in mw_1180 rfl) (big_in mw_10 rfl) (big_in mw_1177 rfl) (big_in mw_1179 rfl) (big_in sp_19 rfl) rfl rfl (by decide +kernel) ⟨by rw [hR]; exact Nat.le_of_ble_eq_true rfl, by rw [hR]; exact Nat.le_of_ble_eq_true rfl⟩ rfl (Nat.le_of_ble_eq_true rfl) d_Mo_multiple_54 ⟨by rw [hR]; exact Nat.le_of_ble_eq_true rfl, by rw [hR]; exact Nat.le_of_ble_eq_true rfl⟩ rfl (fun v u H locs hp6 hP hD hS _ => ?_)
  obtain ⟨fx6, fy6⟩ := u
  try dsimp only at hp6
  obtain ⟨rfl, w6⟩ := hp6
  have hP : va_P D cls0 [(oh, .inl (cI, 10000, .inl fh)), (og, .inl (cI, 32, .inl fs)), (on_, .inl (cI, 32, .inl fn)), (ok_, .inl (cI, 166400, .inl fk)), (oK, .inl (cI, 64, .inl fK)), (mo, .inr (8, [.int qc, .int (iZ (np : Int)), .ref ow, .ref om, .ref ok_, .ref oK, .ref og, .ref on_, .ref oh, .ref ox, .int qn, .int qf, .ref op_, .int ql])), (ow, .inl (cI, 108000, .inl fx6)), (om, .inl (cI, 9, .inl fy6))] H := hP
  have hD : va_D A [(oh, .inl (cI, 10000, .inl fh)), (og, .inl (cI, 32, .inl fs)), (on_, .inl (cI, 32, .inl fn)), (ok_, .inl (cI, 166400, .inl fk)), (oK, .inl (cI, 64, .inl fK)), (mo, .inr (8, [.int qc, .int (iZ (np : Int)), .ref ow, .ref om, .ref ok_, .ref oK, .ref og, .ref on_, .ref oh, .ref ox, .int qn, .int qf, .ref op_, .int ql])), (ow, .inl (cI, 108000, .inl fx6)), (om, .inl (cI, 9, .inl fy6))] := hD
  show W p l e R s m args below meth c H locs _ _ Q (F0 m 57 ls [])
  obtain ⟨v6, hv6⟩ : ∃ x, x = up v5 1 1 := ⟨_, rfl⟩
  have w6 : WB fx6 fy6 v6 := by rw [hv6]; exact w6
  have y60 : v6 0 = nmQ (tv a) (bv a * 2 ^ E) := by rw [hv6, up_n (by decide), hv5, up_s]
  have y61 : v6 1 = 1 := by rw [hv6, up_s]
  refine lv_aload_n hx hb d_Mo_multiple_57 rfl (lv_at hl 0 rfl) ?_
  refine lv_iload_n hx hb d_Mo_multiple_58 rfl (lv_at hl 3 rfl) ?_
  refine zz_if_ge (tgt := 66) hx hb d_Mo_multiple_59 (by decide) (by omega) (fun c59 => ?_) (fun c59 => False.elim (by omega))
  refine lv_iconst (v := iZ (0)) hx hb d_Mo_multiple_66 (by decide +kernel) ?_
  refine lv_iload_n hx hb d_Mo_multiple_67 rfl (lv_at hl 3 rfl) ?_
  refine zz_if_ge (tgt := 76) hx hb d_Mo_multiple_68 (by decide) (by omega) (fun c68 => ?_) (fun c68 => False.elim (by omega))
  refine lv_iload_n hx hb d_Mo_multiple_76 rfl (lv_at hl 3 rfl) ?_
  refine cv (n := 2) (wr := [(oh, .inl (cI, 10000, .inl fh)), (og, .inl (cI, 32, .inl fs)), (on_, .inl (cI, 32, .inl fn)), (ok_, .inl (cI, 166400, .inl fk)), (oK, .inl (cI, 64, .inl fK))]) (w1 := (fun (u : (Nat → Int32) × (Nat → Int32)) => [(mo, .inr (8, [.int qc, .int (iZ (np : Int)), .ref ow, .ref om, .ref ok_, .ref oK, .ref og, .ref on_, .ref oh, .ref ox, .int qn, .int qf, .ref op_, .int ql])), (ow, .inl (cI, 108000, .inl u.1)), (om, .inl (cI, 9, .inl u.2))])) (As := [.int (iZ 0), .int (iZ (E : Int))]) (rest := []) K hP hD hK hS hA hl.1 (c_Mo_doubled l D mo qc np ow om ok_ oK og on_ oh ox qn qf op_ ql fx6 fy6 cI v6 0 E H.size w6 (by decide) (by omega) (by rw [y60]; have z := nd_shl (nmQ (tv a) (bv a * 2 ^ E)) E; omega)) [5, 6, 7] [0, 1, 2, 3, 4] [0] rfl rfl rfl (by decide) (by decide) (by decide) 0 rfl rfl (big_in mw_1320 rfl) (big_in mw_10 rfl) (big_in mw_1317 rfl) (big_in mw_1319 rfl) (big_in sp_42 rfl) rfl rfl (by decide +kernel) ⟨by rw [hR]; exact Nat.le_of_ble_eq_true rfl, by rw [hR]; exact Nat.le_of_ble_eq_true rfl⟩ rfl (Nat.le_of_ble_eq_true rfl) d_Mo_multiple_77 ⟨by rw [hR]; exact Nat.le_of_ble_eq_true rfl, by rw [hR]; exact Nat.le_of_ble_eq_true rfl⟩ rfl (fun v u H locs hp7 hP hD hS _ => ?_)
  obtain ⟨fx7, fy7⟩ := u
  try dsimp only at hp7
  obtain ⟨rfl, w7⟩ := hp7
  have hP : va_P D cls0 [(oh, .inl (cI, 10000, .inl fh)), (og, .inl (cI, 32, .inl fs)), (on_, .inl (cI, 32, .inl fn)), (ok_, .inl (cI, 166400, .inl fk)), (oK, .inl (cI, 64, .inl fK)), (mo, .inr (8, [.int qc, .int (iZ (np : Int)), .ref ow, .ref om, .ref ok_, .ref oK, .ref og, .ref on_, .ref oh, .ref ox, .int qn, .int qf, .ref op_, .int ql])), (ow, .inl (cI, 108000, .inl fx7)), (om, .inl (cI, 9, .inl fy7))] H := hP
  have hD : va_D A [(oh, .inl (cI, 10000, .inl fh)), (og, .inl (cI, 32, .inl fs)), (on_, .inl (cI, 32, .inl fn)), (ok_, .inl (cI, 166400, .inl fk)), (oK, .inl (cI, 64, .inl fK)), (mo, .inr (8, [.int qc, .int (iZ (np : Int)), .ref ow, .ref om, .ref ok_, .ref oK, .ref og, .ref on_, .ref oh, .ref ox, .int qn, .int qf, .ref op_, .int ql])), (ow, .inl (cI, 108000, .inl fx7)), (om, .inl (cI, 9, .inl fy7))] := hD
  show W p l e R s m args below meth c H locs _ _ Q (F0 m 80 ls [])
  rw [y60] at w7
  obtain ⟨v7, hv7⟩ : ∃ z, z = up v6 0 (nmQ (tv a) (bv a * 2 ^ E) * 2 ^ E) := ⟨_, rfl⟩
  rw [← hv7] at w7
  have y70 : v7 0 = nmQ (tv a) (bv a * 2 ^ E) * 2 ^ E := by rw [hv7, up_s]
  have y71 : v7 1 = 1 := by rw [hv7, up_n (by decide)]; exact y61
  have l3 := nmU_lm (tv a) (bv a) E
  have lm1 : lm 1 = 1 := by decide
  refine lv_aload_n hx hb d_Mo_multiple_80 rfl (lv_at hl 0 rfl) ?_
  refine lv_iload_n hx hb d_Mo_multiple_81 rfl (lv_at hl 1 rfl) ?_
  refine lv_aload_n hx hb d_Mo_multiple_82 rfl (lv_at hl 0 rfl) ?_
  refine va_get (D := D) (ci := 8) (v := .ref og) (C := R_Mo) (T := F_Mo) (N := 14) hx hb hts i_Mo hown hK hP 5 rfl rfl 6 (by decide) (hts _ (big_in mw_1121 rfl)) (fun _ h9 => h9) rfl d_Mo_multiple_83 ?_
  refine lv_iload_n hx hb d_Mo_multiple_86 rfl (lv_at hl 2 rfl) ?_
  refine zz_iald hx hb hK hP 1 0 rfl rfl (a) (by omega) (by omega) (by omega) d_Mo_multiple_87 ?_
  rw [hMR.2.1 a (by omega)]
  refine lv_iconst (v := iZ (3)) hx hb d_Mo_multiple_88 (by decide +kernel) ?_
  refine cv (n := 3) (wr := []) (w1 := (fun (u : (Nat → Int32) × (Nat → Int32) × (Nat → Int32) × (Nat → Nat)) => [(mo, .inr (8, [.int (iZ 3), .int (iZ (np : Int)), .ref ow, .ref om, .ref ok_, .ref oK, .ref og, .ref on_, .ref oh, .ref ox, .int qn, .int qf, .ref op_, .int ql])), (ow, .inl (cI, 108000, .inl u.1)), (om, .inl (cI, 9, .inl u.2.1)), (oh, .inl (cI, 10000, .inl u.2.2.1)), (ok_, .inl (cI, 166400, .inl fk)), (oK, .inl (cI, 64, .inl fK)), (og, .inl (cI, 32, .inl fs)), (on_, .inl (cI, 32, .inl fn))])) (As := [.int (iZ (to : Int)), .int (iZ (sg a)), .int (iZ 3)]) (rest := []) K hP hD hK hS hA hl.1 (c_Mo_putX l D mo qc np ow om ok_ oK og on_ oh ox qn qf op_ ql fx7 fy7 cI fh fk fK fs fn v7 tv bv sg to (sg a) 3 H.size w7 hMR (by omega) hnd hnp (by omega) (by decide) (by rw [y71]; decide) (by rw [y70]; omega) (by rw [y71]; omega) (by rw [y70, y71]; exact hfit)) [5, 6, 7, 0, 3, 4, 1, 2] [] [0] rfl rfl rfl (by decide) (by decide) (by decide) 0 rfl rfl (big_in mw_1185 rfl) (big_in mw_10 rfl) (big_in mw_1182 rfl) (big_in mw_1184 rfl) (big_in sp_20 rfl) rfl rfl (by decide +kernel) ⟨by rw [hR]; exact Nat.le_of_ble_eq_true rfl, by rw [hR]; exact Nat.le_of_ble_eq_true rfl⟩ rfl (Nat.le_of_ble_eq_true rfl) d_Mo_multiple_89 ⟨by rw [hR]; exact Nat.le_of_ble_eq_true rfl, by rw [hR]; exact Nat.le_of_ble_eq_true rfl⟩ rfl (fun v u H locs hp8 hP hD hS _ => ?_)
  obtain ⟨fa, fb, fc, v9⟩ := u
  try dsimp only at hp8
  obtain ⟨rfl, w9⟩ := hp8
  have hP : va_P D cls0 [(mo, .inr (8, [.int (iZ 3), .int (iZ (np : Int)), .ref ow, .ref om, .ref ok_, .ref oK, .ref og, .ref on_, .ref oh, .ref ox, .int qn, .int qf, .ref op_, .int ql])), (ow, .inl (cI, 108000, .inl fa)), (om, .inl (cI, 9, .inl fb)), (oh, .inl (cI, 10000, .inl fc)), (ok_, .inl (cI, 166400, .inl fk)), (oK, .inl (cI, 64, .inl fK)), (og, .inl (cI, 32, .inl fs)), (on_, .inl (cI, 32, .inl fn))] H := hP
  have hD : va_D A [(mo, .inr (8, [.int (iZ 3), .int (iZ (np : Int)), .ref ow, .ref om, .ref ok_, .ref oK, .ref og, .ref on_, .ref oh, .ref ox, .int qn, .int qf, .ref op_, .int ql])), (ow, .inl (cI, 108000, .inl fa)), (om, .inl (cI, 9, .inl fb)), (oh, .inl (cI, 10000, .inl fc)), (ok_, .inl (cI, 166400, .inl fk)), (oK, .inl (cI, 64, .inl fK)), (og, .inl (cI, 32, .inl fs)), (on_, .inl (cI, 32, .inl fn))] := hD
  show W p l e R s m args below meth c H locs _ _ Q (F0 m 92 ls [.int (iZ 0)])
  have hP9 : va_P D cls0 [(mo, .inr (8, [.int (iZ 3), .int (iZ (np : Int)), .ref ow, .ref om, .ref ok_, .ref oK, .ref og, .ref on_, .ref oh, .ref ox, .int qn, .int qf, .ref op_, .int ql])), (ow, .inl (cI, 108000, .inl fa)), (om, .inl (cI, 9, .inl fb)), (oh, .inl (cI, 10000, .inl fc)), (ok_, .inl (cI, 166400, .inl fk)), (oK, .inl (cI, 64, .inl fK)), (og, .inl (cI, 32, .inl fs)), (on_, .inl (cI, 32, .inl fn))] H := hP.sub [0, 1, 2, 3, 4, 5, 6, 7] rfl
  have hD9 : va_D A [(mo, .inr (8, [.int (iZ 3), .int (iZ (np : Int)), .ref ow, .ref om, .ref ok_, .ref oK, .ref og, .ref on_, .ref oh, .ref ox, .int qn, .int qf, .ref op_, .int ql])), (ow, .inl (cI, 108000, .inl fa)), (om, .inl (cI, 9, .inl fb)), (oh, .inl (cI, 10000, .inl fc)), (ok_, .inl (cI, 166400, .inl fk)), (oK, .inl (cI, 64, .inl fK)), (og, .inl (cI, 32, .inl fs)), (on_, .inl (cI, 32, .inl fn))] := hD.sub [0, 1, 2, 3, 4, 5, 6, 7] (by decide) rfl
  rw [hQ, ← hAe]
  refine r_i (v := (iZ 0)) K (fa, fb, fc, v9) hS d_Mo_multiple_92 ?_ (fun t ht hv => ?_)
  · exact ⟨rfl, w9⟩
  · exact ⟨by rw [ht]; exact hP9, va_K.moved hv hK, by rw [← hAe]; exact hD9⟩
set_option maxHeartbeats 4000000 in
set_option maxRecDepth 100000 in
theorem c_Mo_alignUp (l : Launch) (D : va_G) (mo : Nat) (qc : Int32) (np : Nat) (ow : Nat) (om : Nat) (ok_ : Nat) (oK : Nat) (og : Nat) (on_ : Nat) (oh : Nat) (ox : Nat) (qn : Int32) (qf : Int32) (op_ : Nat) (ql : Int32) (fw : Nat → Int32) (fm : Nat → Int32) (cI : ClassId) (fh : Nat → Int32) (fk : Nat → Int32) (fK : Nat → Int32) (fs : Nat → Int32) (fn : Nat → Int32) (val : Nat → Nat) (tv : Nat → Nat) (bv : Nat → Nat) (sg : Nat → Int) (to : Nat) (a : Nat) (E : Nat) (sz : Nat) (hW : WB fw fm val) (hMR : MoR fk fK fs fn tv bv sg) (hnd : ndS tv bv 32 ≤ np) (hnp : np ≤ 1024) (J : RgC tv bv sg) (hbv : ∀ r, r < 32 → 0 < bv r) (t1 : to < 32) (t2 : a < 32) (hE4 : E ≤ 4000) (hfit : ndS tv bv 32 + (lm (rdN (nmQ (tv a) (bv a * 2 ^ E) * 2 ^ E) (1)) + lm (rdD (nmQ (tv a) (bv a * 2 ^ E) * 2 ^ E) (1))) ≤ np + (lm (tv to) + lm (bv to))) : Met l y_Mo_align (wsB y_Mo_align b_Mo_align 4 (some .int)) ({ frames := 6, cells := 0, slots := 0, locals := 148 }) (va_Pc [.ref mo, .int (iZ (to : Int)), .int (iZ (a : Int)), .int (iZ (E : Int))] (wPre D [(cI, .int)] [(mo, .inr (8, [.int qc, .int (iZ (np : Int)), .ref ow, .ref om, .ref ok_, .ref oK, .ref og, .ref on_, .ref oh, .ref ox, .int qn, .int qf, .ref op_, .int ql])), (ow, .inl (cI, 108000, .inl fw)), (om, .inl (cI, 9, .inl fm)), (oh, .inl (cI, 10000, .inl fh)), (ok_, .inl (cI, 166400, .inl fk)), (oK, .inl (cI, 64, .inl fK)), (og, .inl (cI, 32, .inl fs)), (on_, .inl (cI, 32, .inl fn))] sz)) (va_QV (fun (v_9 : Option Value) (u_9 : (Nat → Int32) × (Nat → Int32) × (Nat → Int32) × (Nat → Int32) × (Nat → Int32) × (Nat → Int32) × (Nat → Int32) × (Nat → Nat)) => v_9 = some (.int (iZ ((lm (rdN (nmQ (tv a) (bv a * 2 ^ E) * 2 ^ E) (1)) : Int) + (lm (rdD (nmQ (tv a) (bv a * 2 ^ E) * 2 ^ E) (1)) : Int)))) ∧ (WB u_9.1 u_9.2.1 u_9.2.2.2.2.2.2.2) ∧ (MoR u_9.2.2.2.1 u_9.2.2.2.2.1 u_9.2.2.2.2.2.1 u_9.2.2.2.2.2.2.1 (up tv to (rdN (nmQ (tv a) (bv a * 2 ^ E) * 2 ^ E) (1))) (up bv to (rdD (nmQ (tv a) (bv a * 2 ^ E) * 2 ^ E) (1))) (up sg to (if rdN (nmQ (tv a) (bv a * 2 ^ E) * 2 ^ E) (1) = 0 then 0 else sg a)))) (fun u_9 => wPost D [(cI, .int)] [(mo, .inr (8, [.int qc, .int (iZ (np : Int)), .ref ow, .ref om, .ref ok_, .ref oK, .ref og, .ref on_, .ref oh, .ref ox, .int qn, .int qf, .ref op_, .int ql])), (ow, .inl (cI, 108000, .inl fw)), (om, .inl (cI, 9, .inl fm)), (oh, .inl (cI, 10000, .inl fh)), (ok_, .inl (cI, 166400, .inl fk)), (oK, .inl (cI, 64, .inl fK)), (og, .inl (cI, 32, .inl fs)), (on_, .inl (cI, 32, .inl fn))] [(mo, .inr (8, [.int (iZ 0), .int (iZ (np : Int)), .ref ow, .ref om, .ref ok_, .ref oK, .ref og, .ref on_, .ref oh, .ref ox, .int qn, .int qf, .ref op_, .int ql])), (ow, .inl (cI, 108000, .inl u_9.1)), (om, .inl (cI, 9, .inl u_9.2.1)), (oh, .inl (cI, 10000, .inl u_9.2.2.1)), (ok_, .inl (cI, 166400, .inl u_9.2.2.2.1)), (oK, .inl (cI, 64, .inl u_9.2.2.2.2.1)), (og, .inl (cI, 32, .inl u_9.2.2.2.2.2.1)), (on_, .inl (cI, 32, .inl u_9.2.2.2.2.2.2.1))] sz) (va_A [(mo, .inr (8, [.int qc, .int (iZ (np : Int)), .ref ow, .ref om, .ref ok_, .ref oK, .ref og, .ref on_, .ref oh, .ref ox, .int qn, .int qf, .ref op_, .int ql])), (ow, .inl (cI, 108000, .inl fw)), (om, .inl (cI, 9, .inl fm)), (oh, .inl (cI, 10000, .inl fh)), (ok_, .inl (cI, 166400, .inl fk)), (oK, .inl (cI, 64, .inl fK)), (og, .inl (cI, 32, .inl fs)), (on_, .inl (cI, 32, .inl fn))] sz)) 0 0 (va_A [(mo, .inr (8, [.int qc, .int (iZ (np : Int)), .ref ow, .ref om, .ref ok_, .ref oK, .ref og, .ref on_, .ref oh, .ref ox, .int qn, .int qf, .ref op_, .int ql])), (ow, .inl (cI, 108000, .inl fw)), (om, .inl (cI, 9, .inl fm)), (oh, .inl (cI, 10000, .inl fh)), (ok_, .inl (cI, 166400, .inl fk)), (oK, .inl (cI, 64, .inl fK)), (og, .inl (cI, 32, .inl fs)), (on_, .inl (cI, 32, .inl fn))] sz) := by
  refine met_enter (by decide +kernel) (Nat.le_of_ble_eq_true rfl) ?_
  intro p e s m args below meth c ls A R Q H locs K hin hAe hA hR hQ hP hK hD hS hl
  obtain ⟨hx, hb, hml, hrt, hlk, hts, hown, hno⟩ := id K
  have hl : lv_has ls 4 [(0, .ref mo), (1, .int (iZ (to : Int))), (2, .int (iZ (a : Int))), (3, .int (iZ (E : Int)))] := hl
  have hE : E ≤ 34000 := by omega
  refine lv_aload_n hx hb d_Mo_align_0 rfl (lv_at hl 0 rfl) ?_
  refine lv_iload_n hx hb d_Mo_align_1 rfl (lv_at hl 1 rfl) ?_
  refine cs (n := 1) (wr := [(mo, .inr (8, [.int qc, .int (iZ (np : Int)), .ref ow, .ref om, .ref ok_, .ref oK, .ref og, .ref on_, .ref oh, .ref ox, .int qn, .int qf, .ref op_, .int ql])), (ow, .inl (cI, 108000, .inl fw)), (om, .inl (cI, 9, .inl fm)), (oh, .inl (cI, 10000, .inl fh)), (ok_, .inl (cI, 166400, .inl fk)), (oK, .inl (cI, 64, .inl fK)), (og, .inl (cI, 32, .inl fs)), (on_, .inl (cI, 32, .inl fn))]) (w1 := (fun (u : Int) => [])) (As := [.int (iZ (to : Int))]) (rest := [.ref mo]) K hP hD hK hS hA hl.1 (c_Mo_isRegister l D (to : Int) H.size (by omega)) [] [0, 1, 2, 3, 4, 5, 6, 7] [] rfl rfl rfl (by decide) (by decide) (by decide) (big_in mw_1172 rfl) (big_in mw_10 rfl) (big_in mw_1170 rfl) (big_in mw_1171 rfl) rfl rfl (by decide +kernel) ⟨by rw [hR]; exact Nat.le_of_ble_eq_true rfl, by rw [hR]; exact Nat.le_of_ble_eq_true rfl⟩ rfl (Nat.le_of_ble_eq_true rfl) d_Mo_align_2 ⟨by rw [hR]; exact Nat.le_of_ble_eq_true rfl, by rw [hR]; exact Nat.le_of_ble_eq_true rfl⟩ rfl (fun v u H locs hp1 hP hD hS _ => ?_)
  obtain ⟨r2, rfl⟩ : ∃ z, z = u := ⟨_, rfl⟩
  obtain ⟨rfl, p2⟩ := hp1
  have hP : va_P D cls0 [(mo, .inr (8, [.int qc, .int (iZ (np : Int)), .ref ow, .ref om, .ref ok_, .ref oK, .ref og, .ref on_, .ref oh, .ref ox, .int qn, .int qf, .ref op_, .int ql])), (ow, .inl (cI, 108000, .inl fw)), (om, .inl (cI, 9, .inl fm)), (oh, .inl (cI, 10000, .inl fh)), (ok_, .inl (cI, 166400, .inl fk)), (oK, .inl (cI, 64, .inl fK)), (og, .inl (cI, 32, .inl fs)), (on_, .inl (cI, 32, .inl fn))] H := hP
  have hD : va_D A [(mo, .inr (8, [.int qc, .int (iZ (np : Int)), .ref ow, .ref om, .ref ok_, .ref oK, .ref og, .ref on_, .ref oh, .ref ox, .int qn, .int qf, .ref op_, .int ql])), (ow, .inl (cI, 108000, .inl fw)), (om, .inl (cI, 9, .inl fm)), (oh, .inl (cI, 10000, .inl fh)), (ok_, .inl (cI, 166400, .inl fk)), (oK, .inl (cI, 64, .inl fK)), (og, .inl (cI, 32, .inl fs)), (on_, .inl (cI, 32, .inl fn))] := hD
  show W p l e R s m args below meth c H locs _ _ Q (F0 m 5 ls [.int (iZ r2), .ref mo])
  have b2 : 0 ≤ r2 ∧ r2 ≤ 1 := by omega
  refine zz_if_eq (tgt := 15) hx hb d_Mo_align_5 (by decide) (by omega) (fun c5 => ?_) (fun c5 => ?_)
  · refine lv_iconst (v := iZ (1)) hx hb d_Mo_align_15 (by decide +kernel) ?_
    refine lv_goto (tgt := 38) hx hb d_Mo_align_16 (by decide) ?_
    exfalso
    omega
  · refine lv_iload_n hx hb d_Mo_align_8 rfl (lv_at hl 2 rfl) ?_
    refine cs (n := 1) (wr := [(mo, .inr (8, [.int qc, .int (iZ (np : Int)), .ref ow, .ref om, .ref ok_, .ref oK, .ref og, .ref on_, .ref oh, .ref ox, .int qn, .int qf, .ref op_, .int ql])), (ow, .inl (cI, 108000, .inl fw)), (om, .inl (cI, 9, .inl fm)), (oh, .inl (cI, 10000, .inl fh)), (ok_, .inl (cI, 166400, .inl fk)), (oK, .inl (cI, 64, .inl fK)), (og, .inl (cI, 32, .inl fs)), (on_, .inl (cI, 32, .inl fn))]) (w1 := (fun (u : Int) => [])) (As := [.int (iZ (a : Int))]) (rest := [.ref mo]) K hP hD hK hS hA hl.1 (c_Mo_isRegister l D (a : Int) H.size (by omega)) [] [0, 1, 2, 3, 4, 5, 6, 7] [] rfl rfl rfl (by decide) (by decide) (by decide) (big_in mw_1172 rfl) (big_in mw_10 rfl) (big_in mw_1170 rfl) (big_in mw_1171 rfl) rfl rfl (by decide +kernel) ⟨by rw [hR]; exact Nat.le_of_ble_eq_true rfl, by rw [hR]; exact Nat.le_of_ble_eq_true rfl⟩ rfl (Nat.le_of_ble_eq_true rfl) d_Mo_align_9 ⟨by rw [hR]; exact Nat.le_of_ble_eq_true rfl, by rw [hR]; exact Nat.le_of_ble_eq_true rfl⟩ rfl (fun v u H locs hp2 hP hD hS _ => ?_)
    obtain ⟨r9, rfl⟩ : ∃ z, z = u := ⟨_, rfl⟩
    obtain ⟨rfl, p9⟩ := hp2
    have hP : va_P D cls0 [(mo, .inr (8, [.int qc, .int (iZ (np : Int)), .ref ow, .ref om, .ref ok_, .ref oK, .ref og, .ref on_, .ref oh, .ref ox, .int qn, .int qf, .ref op_, .int ql])), (ow, .inl (cI, 108000, .inl fw)), (om, .inl (cI, 9, .inl fm)), (oh, .inl (cI, 10000, .inl fh)), (ok_, .inl (cI, 166400, .inl fk)), (oK, .inl (cI, 64, .inl fK)), (og, .inl (cI, 32, .inl fs)), (on_, .inl (cI, 32, .inl fn))] H := hP
    have hD : va_D A [(mo, .inr (8, [.int qc, .int (iZ (np : Int)), .ref ow, .ref om, .ref ok_, .ref oK, .ref og, .ref on_, .ref oh, .ref ox, .int qn, .int qf, .ref op_, .int ql])), (ow, .inl (cI, 108000, .inl fw)), (om, .inl (cI, 9, .inl fm)), (oh, .inl (cI, 10000, .inl fh)), (ok_, .inl (cI, 166400, .inl fk)), (oK, .inl (cI, 64, .inl fK)), (og, .inl (cI, 32, .inl fs)), (on_, .inl (cI, 32, .inl fn))] := hD
    show W p l e R s m args below meth c H locs _ _ Q (F0 m 12 ls [.int (iZ r9), .ref mo])
    have b9 : 0 ≤ r9 ∧ r9 ≤ 1 := by omega
    refine zz_if_ne (tgt := 19) hx hb d_Mo_align_12 (by decide) (by omega) (fun c12 => ?_) (fun c12 => ?_)
    · refine lv_iload_n hx hb d_Mo_align_19 rfl (lv_at hl 3 rfl) ?_
      refine lv_sipush (v := iZ (-4000)) hx hb d_Mo_align_20 (by decide +kernel) ?_
      refine zz_icmp_lt (tgt := 33) hx hb d_Mo_align_23 (by decide) (by omega) (by omega) (fun c23 => ?_) (fun c23 => ?_)
      · refine lv_iconst (v := iZ (2)) hx hb d_Mo_align_33 (by decide +kernel) ?_
        refine lv_goto (tgt := 38) hx hb d_Mo_align_34 (by decide) ?_
        exfalso
        omega
      · refine lv_iload_n hx hb d_Mo_align_26 rfl (lv_at hl 3 rfl) ?_
        refine lv_sipush (v := iZ (4000)) hx hb d_Mo_align_27 (by decide +kernel) ?_
        refine zz_icmp_le (tgt := 37) hx hb d_Mo_align_30 (by decide) (by omega) (by omega) (fun c30 => ?_) (fun c30 => ?_)
        · refine lv_iconst (v := iZ (0)) hx hb d_Mo_align_37 (by decide +kernel) ?_
          refine cv (n := 1) (wr := [(ow, .inl (cI, 108000, .inl fw)), (om, .inl (cI, 9, .inl fm)), (oh, .inl (cI, 10000, .inl fh)), (ok_, .inl (cI, 166400, .inl fk)), (oK, .inl (cI, 64, .inl fK)), (og, .inl (cI, 32, .inl fs)), (on_, .inl (cI, 32, .inl fn))]) (w1 := (fun (u : Int) => [(mo, .inr (8, [.int (iZ 0), .int (iZ (np : Int)), .ref ow, .ref om, .ref ok_, .ref oK, .ref og, .ref on_, .ref oh, .ref ox, .int qn, .int qf, .ref op_, .int ql]))])) (As := [.int (iZ 0)]) (rest := []) K hP hD hK hS hA hl.1 (c_Mo_refuses l D mo qc np ow om ok_ oK og on_ oh ox qn qf op_ ql 0 H.size (by omega)) [0] [1, 2, 3, 4, 5, 6, 7] [] rfl rfl rfl (by decide) (by decide) (by decide) 0 rfl rfl (big_in mw_1176 rfl) (big_in mw_10 rfl) (big_in mw_1173 rfl) (big_in mw_1175 rfl) (big_in sp_18 rfl) rfl rfl (by decide +kernel) ⟨by rw [hR]; exact Nat.le_of_ble_eq_true rfl, by rw [hR]; exact Nat.le_of_ble_eq_true rfl⟩ rfl (Nat.le_of_ble_eq_true rfl) d_Mo_align_38 ⟨by rw [hR]; exact Nat.le_of_ble_eq_true rfl, by rw [hR]; exact Nat.le_of_ble_eq_true rfl⟩ rfl (fun v u H locs hp3 hP hD hS _ => ?_)
          obtain ⟨rf, rfl⟩ : ∃ z, z = u := ⟨_, rfl⟩
          obtain ⟨rfl, prf⟩ := hp3
          have hP : va_P D cls0 [(ow, .inl (cI, 108000, .inl fw)), (om, .inl (cI, 9, .inl fm)), (oh, .inl (cI, 10000, .inl fh)), (ok_, .inl (cI, 166400, .inl fk)), (oK, .inl (cI, 64, .inl fK)), (og, .inl (cI, 32, .inl fs)), (on_, .inl (cI, 32, .inl fn)), (mo, .inr (8, [.int (iZ 0), .int (iZ (np : Int)), .ref ow, .ref om, .ref ok_, .ref oK, .ref og, .ref on_, .ref oh, .ref ox, .int qn, .int qf, .ref op_, .int ql]))] H := hP
          have hD : va_D A [(ow, .inl (cI, 108000, .inl fw)), (om, .inl (cI, 9, .inl fm)), (oh, .inl (cI, 10000, .inl fh)), (ok_, .inl (cI, 166400, .inl fk)), (oK, .inl (cI, 64, .inl fK)), (og, .inl (cI, 32, .inl fs)), (on_, .inl (cI, 32, .inl fn)), (mo, .inr (8, [.int (iZ 0), .int (iZ (np : Int)), .ref ow, .ref om, .ref ok_, .ref oK, .ref og, .ref on_, .ref oh, .ref ox, .int qn, .int qf, .ref op_, .int ql]))] := hD
          show W p l e R s m args below meth c H locs _ _ Q (F0 m 41 ls [.int (iZ rf)])
          refine zz_if_eq (tgt := 48) hx hb d_Mo_align_41 (by decide) (by omega) (fun c41 => ?_) (fun c41 => False.elim (by omega))
          refine lv_aload_n hx hb d_Mo_align_48 rfl (lv_at hl 0 rfl) ?_
          refine lv_iload_n hx hb d_Mo_align_49 rfl (lv_at hl 1 rfl) ?_
          refine lv_iload_n hx hb d_Mo_align_50 rfl (lv_at hl 2 rfl) ?_
          refine lv_iload_n hx hb d_Mo_align_51 rfl (lv_at hl 3 rfl) ?_
          refine cv (n := 3) (wr := []) (w1 := (fun (u : (Nat → Int32) × (Nat → Int32) × (Nat → Int32) × (Nat → Int32) × (Nat → Int32) × (Nat → Int32) × (Nat → Int32) × (Nat → Nat)) => [(mo, .inr (8, [.int (iZ 0), .int (iZ (np : Int)), .ref ow, .ref om, .ref ok_, .ref oK, .ref og, .ref on_, .ref oh, .ref ox, .int qn, .int qf, .ref op_, .int ql])), (ow, .inl (cI, 108000, .inl u.1)), (om, .inl (cI, 9, .inl u.2.1)), (oh, .inl (cI, 10000, .inl u.2.2.1)), (ok_, .inl (cI, 166400, .inl u.2.2.2.1)), (oK, .inl (cI, 64, .inl u.2.2.2.2.1)), (og, .inl (cI, 32, .inl u.2.2.2.2.2.1)), (on_, .inl (cI, 32, .inl u.2.2.2.2.2.2.1))])) (As := [.int (iZ (to : Int)), .int (iZ (a : Int)), .int (iZ (E : Int))]) (rest := []) K hP hD hK hS hA hl.1 (c_Mo_multipleUp l D mo (iZ 0) np ow om ok_ oK og on_ oh ox qn qf op_ ql fw fm cI fh fk fK fs fn val tv bv sg to a E H.size hW hMR hnd hnp J hbv t1 t2 hE hfit) [7, 0, 1, 2, 3, 4, 5, 6] [] [0] rfl rfl rfl (by decide) (by decide) (by decide) 0 rfl rfl (big_in mw_1329 rfl) (big_in mw_10 rfl) (big_in mw_1326 rfl) (big_in mw_1328 rfl) (big_in sp_44 rfl) rfl rfl (by decide +kernel) ⟨by rw [hR]; exact Nat.le_of_ble_eq_true rfl, by rw [hR]; exact Nat.le_of_ble_eq_true rfl⟩ rfl (Nat.le_of_ble_eq_true rfl) d_Mo_align_52 ⟨by rw [hR]; exact Nat.le_of_ble_eq_true rfl, by rw [hR]; exact Nat.le_of_ble_eq_true rfl⟩ rfl (fun v u H locs hp4 hP hD hS _ => ?_)
          obtain ⟨fa, fb, fc, fd, fe, ff, fg, v9⟩ := u
          try dsimp only at hp4
          obtain ⟨rfl, w9, q9⟩ := hp4
          have hP : va_P D cls0 [(mo, .inr (8, [.int (iZ 0), .int (iZ (np : Int)), .ref ow, .ref om, .ref ok_, .ref oK, .ref og, .ref on_, .ref oh, .ref ox, .int qn, .int qf, .ref op_, .int ql])), (ow, .inl (cI, 108000, .inl fa)), (om, .inl (cI, 9, .inl fb)), (oh, .inl (cI, 10000, .inl fc)), (ok_, .inl (cI, 166400, .inl fd)), (oK, .inl (cI, 64, .inl fe)), (og, .inl (cI, 32, .inl ff)), (on_, .inl (cI, 32, .inl fg))] H := hP
          have hD : va_D A [(mo, .inr (8, [.int (iZ 0), .int (iZ (np : Int)), .ref ow, .ref om, .ref ok_, .ref oK, .ref og, .ref on_, .ref oh, .ref ox, .int qn, .int qf, .ref op_, .int ql])), (ow, .inl (cI, 108000, .inl fa)), (om, .inl (cI, 9, .inl fb)), (oh, .inl (cI, 10000, .inl fc)), (ok_, .inl (cI, 166400, .inl fd)), (oK, .inl (cI, 64, .inl fe)), (og, .inl (cI, 32, .inl ff)), (on_, .inl (cI, 32, .inl fg))] := hD
          show W p l e R s m args below meth c H locs _ _ Q (F0 m 55 ls [.int (iZ ((lm (rdN (nmQ (tv a) (bv a * 2 ^ E) * 2 ^ E) (1)) : Int) + (lm (rdD (nmQ (tv a) (bv a * 2 ^ E) * 2 ^ E) (1)) : Int)))])
          have hP9 : va_P D cls0 [(mo, .inr (8, [.int (iZ 0), .int (iZ (np : Int)), .ref ow, .ref om, .ref ok_, .ref oK, .ref og, .ref on_, .ref oh, .ref ox, .int qn, .int qf, .ref op_, .int ql])), (ow, .inl (cI, 108000, .inl fa)), (om, .inl (cI, 9, .inl fb)), (oh, .inl (cI, 10000, .inl fc)), (ok_, .inl (cI, 166400, .inl fd)), (oK, .inl (cI, 64, .inl fe)), (og, .inl (cI, 32, .inl ff)), (on_, .inl (cI, 32, .inl fg))] H := hP.sub [0, 1, 2, 3, 4, 5, 6, 7] rfl
          have hD9 : va_D A [(mo, .inr (8, [.int (iZ 0), .int (iZ (np : Int)), .ref ow, .ref om, .ref ok_, .ref oK, .ref og, .ref on_, .ref oh, .ref ox, .int qn, .int qf, .ref op_, .int ql])), (ow, .inl (cI, 108000, .inl fa)), (om, .inl (cI, 9, .inl fb)), (oh, .inl (cI, 10000, .inl fc)), (ok_, .inl (cI, 166400, .inl fd)), (oK, .inl (cI, 64, .inl fe)), (og, .inl (cI, 32, .inl ff)), (on_, .inl (cI, 32, .inl fg))] := hD.sub [0, 1, 2, 3, 4, 5, 6, 7] (by decide) rfl
          rw [hQ, ← hAe]
          refine r_i (v := (iZ ((lm (rdN (nmQ (tv a) (bv a * 2 ^ E) * 2 ^ E) (1)) : Int) + (lm (rdD (nmQ (tv a) (bv a * 2 ^ E) * 2 ^ E) (1)) : Int)))) K (fa, fb, fc, fd, fe, ff, fg, v9) hS d_Mo_align_55 ?_ (fun t ht hv => ?_)
          · exact ⟨rfl, w9, q9⟩
          · exact ⟨by rw [ht]; exact hP9, va_K.moved hv hK, by rw [← hAe]; exact hD9⟩
        · refine lv_iconst (v := iZ (2)) hx hb d_Mo_align_33 (by decide +kernel) ?_
          refine lv_goto (tgt := 38) hx hb d_Mo_align_34 (by decide) ?_
          exfalso
          omega
    · refine lv_iconst (v := iZ (1)) hx hb d_Mo_align_15 (by decide +kernel) ?_
      refine lv_goto (tgt := 38) hx hb d_Mo_align_16 (by decide) ?_
      exfalso
      omega
set_option maxHeartbeats 4000000 in
set_option maxRecDepth 100000 in
theorem f_Mo_alignUp (l : Launch) (D : va_G) (mo : Nat) (qc : Int32) (np : Nat) (ow : Nat) (om : Nat) (ok_ : Nat) (oK : Nat) (og : Nat) (on_ : Nat) (oh : Nat) (ox : Nat) (qn : Int32) (qf : Int32) (op_ : Nat) (ql : Int32) (fw : Nat → Int32) (fm : Nat → Int32) (cI : ClassId) (fh : Nat → Int32) (fk : Nat → Int32) (fK : Nat → Int32) (fs : Nat → Int32) (fn : Nat → Int32) (val : Nat → Nat) (tv : Nat → Nat) (bv : Nat → Nat) (sg : Nat → Int) (to : Nat) (a : Nat) (E : Nat) (sz : Nat) (hW : WB fw fm val) (hMR : MoR fk fK fs fn tv bv sg) (hnd : ndS tv bv 32 ≤ np) (hnp : np ≤ 1024) (J : RgC tv bv sg) (hbv : ∀ r, r < 32 → 0 < bv r) (t1 : to < 32) (t2 : a < 32) (hE4 : E ≤ 4000) (hfit : np + (lm (tv to) + lm (bv to)) < ndS tv bv 32 + (lm (rdN (nmQ (tv a) (bv a * 2 ^ E) * 2 ^ E) (1)) + lm (rdD (nmQ (tv a) (bv a * 2 ^ E) * 2 ^ E) (1)))) : Met l y_Mo_align (wsB y_Mo_align b_Mo_align 4 (some .int)) ({ frames := 6, cells := 0, slots := 0, locals := 148 }) (va_Pc [.ref mo, .int (iZ (to : Int)), .int (iZ (a : Int)), .int (iZ (E : Int))] (wPre D [(cI, .int)] [(mo, .inr (8, [.int qc, .int (iZ (np : Int)), .ref ow, .ref om, .ref ok_, .ref oK, .ref og, .ref on_, .ref oh, .ref ox, .int qn, .int qf, .ref op_, .int ql])), (ow, .inl (cI, 108000, .inl fw)), (om, .inl (cI, 9, .inl fm)), (oh, .inl (cI, 10000, .inl fh)), (ok_, .inl (cI, 166400, .inl fk)), (oK, .inl (cI, 64, .inl fK)), (og, .inl (cI, 32, .inl fs)), (on_, .inl (cI, 32, .inl fn))] sz)) (va_QV (fun (v_9 : Option Value) (u_9 : (Nat → Int32) × (Nat → Int32) × (Nat → Int32) × (Nat → Nat)) => v_9 = some (.int (iZ 0)) ∧ (WB u_9.1 u_9.2.1 u_9.2.2.2)) (fun u_9 => wPost D [(cI, .int)] [(mo, .inr (8, [.int qc, .int (iZ (np : Int)), .ref ow, .ref om, .ref ok_, .ref oK, .ref og, .ref on_, .ref oh, .ref ox, .int qn, .int qf, .ref op_, .int ql])), (ow, .inl (cI, 108000, .inl fw)), (om, .inl (cI, 9, .inl fm)), (oh, .inl (cI, 10000, .inl fh)), (ok_, .inl (cI, 166400, .inl fk)), (oK, .inl (cI, 64, .inl fK)), (og, .inl (cI, 32, .inl fs)), (on_, .inl (cI, 32, .inl fn))] [(mo, .inr (8, [.int (iZ 3), .int (iZ (np : Int)), .ref ow, .ref om, .ref ok_, .ref oK, .ref og, .ref on_, .ref oh, .ref ox, .int qn, .int qf, .ref op_, .int ql])), (ow, .inl (cI, 108000, .inl u_9.1)), (om, .inl (cI, 9, .inl u_9.2.1)), (oh, .inl (cI, 10000, .inl u_9.2.2.1)), (ok_, .inl (cI, 166400, .inl fk)), (oK, .inl (cI, 64, .inl fK)), (og, .inl (cI, 32, .inl fs)), (on_, .inl (cI, 32, .inl fn))] sz) (va_A [(mo, .inr (8, [.int qc, .int (iZ (np : Int)), .ref ow, .ref om, .ref ok_, .ref oK, .ref og, .ref on_, .ref oh, .ref ox, .int qn, .int qf, .ref op_, .int ql])), (ow, .inl (cI, 108000, .inl fw)), (om, .inl (cI, 9, .inl fm)), (oh, .inl (cI, 10000, .inl fh)), (ok_, .inl (cI, 166400, .inl fk)), (oK, .inl (cI, 64, .inl fK)), (og, .inl (cI, 32, .inl fs)), (on_, .inl (cI, 32, .inl fn))] sz)) 0 0 (va_A [(mo, .inr (8, [.int qc, .int (iZ (np : Int)), .ref ow, .ref om, .ref ok_, .ref oK, .ref og, .ref on_, .ref oh, .ref ox, .int qn, .int qf, .ref op_, .int ql])), (ow, .inl (cI, 108000, .inl fw)), (om, .inl (cI, 9, .inl fm)), (oh, .inl (cI, 10000, .inl fh)), (ok_, .inl (cI, 166400, .inl fk)), (oK, .inl (cI, 64, .inl fK)), (og, .inl (cI, 32, .inl fs)), (on_, .inl (cI, 32, .inl fn))] sz) := by
  refine met_enter (by decide +kernel) (Nat.le_of_ble_eq_true rfl) ?_
  intro p e s m args below meth c ls A R Q H locs K hin hAe hA hR hQ hP hK hD hS hl
  obtain ⟨hx, hb, hml, hrt, hlk, hts, hown, hno⟩ := id K
  have hl : lv_has ls 4 [(0, .ref mo), (1, .int (iZ (to : Int))), (2, .int (iZ (a : Int))), (3, .int (iZ (E : Int)))] := hl
  have hE : E ≤ 34000 := by omega
  refine lv_aload_n hx hb d_Mo_align_0 rfl (lv_at hl 0 rfl) ?_
  refine lv_iload_n hx hb d_Mo_align_1 rfl (lv_at hl 1 rfl) ?_
  refine cs (n := 1) (wr := [(mo, .inr (8, [.int qc, .int (iZ (np : Int)), .ref ow, .ref om, .ref ok_, .ref oK, .ref og, .ref on_, .ref oh, .ref ox, .int qn, .int qf, .ref op_, .int ql])), (ow, .inl (cI, 108000, .inl fw)), (om, .inl (cI, 9, .inl fm)), (oh, .inl (cI, 10000, .inl fh)), (ok_, .inl (cI, 166400, .inl fk)), (oK, .inl (cI, 64, .inl fK)), (og, .inl (cI, 32, .inl fs)), (on_, .inl (cI, 32, .inl fn))]) (w1 := (fun (u : Int) => [])) (As := [.int (iZ (to : Int))]) (rest := [.ref mo]) K hP hD hK hS hA hl.1 (c_Mo_isRegister l D (to : Int) H.size (by omega)) [] [0, 1, 2, 3, 4, 5, 6, 7] [] rfl rfl rfl (by decide) (by decide) (by decide) (big_in mw_1172 rfl) (big_in mw_10 rfl) (big_in mw_1170 rfl) (big_in mw_1171 rfl) rfl rfl (by decide +kernel) ⟨by rw [hR]; exact Nat.le_of_ble_eq_true rfl, by rw [hR]; exact Nat.le_of_ble_eq_true rfl⟩ rfl (Nat.le_of_ble_eq_true rfl) d_Mo_align_2 ⟨by rw [hR]; exact Nat.le_of_ble_eq_true rfl, by rw [hR]; exact Nat.le_of_ble_eq_true rfl⟩ rfl (fun v u H locs hp1 hP hD hS _ => ?_)
  obtain ⟨r2, rfl⟩ : ∃ z, z = u := ⟨_, rfl⟩
  obtain ⟨rfl, p2⟩ := hp1
  have hP : va_P D cls0 [(mo, .inr (8, [.int qc, .int (iZ (np : Int)), .ref ow, .ref om, .ref ok_, .ref oK, .ref og, .ref on_, .ref oh, .ref ox, .int qn, .int qf, .ref op_, .int ql])), (ow, .inl (cI, 108000, .inl fw)), (om, .inl (cI, 9, .inl fm)), (oh, .inl (cI, 10000, .inl fh)), (ok_, .inl (cI, 166400, .inl fk)), (oK, .inl (cI, 64, .inl fK)), (og, .inl (cI, 32, .inl fs)), (on_, .inl (cI, 32, .inl fn))] H := hP
  have hD : va_D A [(mo, .inr (8, [.int qc, .int (iZ (np : Int)), .ref ow, .ref om, .ref ok_, .ref oK, .ref og, .ref on_, .ref oh, .ref ox, .int qn, .int qf, .ref op_, .int ql])), (ow, .inl (cI, 108000, .inl fw)), (om, .inl (cI, 9, .inl fm)), (oh, .inl (cI, 10000, .inl fh)), (ok_, .inl (cI, 166400, .inl fk)), (oK, .inl (cI, 64, .inl fK)), (og, .inl (cI, 32, .inl fs)), (on_, .inl (cI, 32, .inl fn))] := hD
  show W p l e R s m args below meth c H locs _ _ Q (F0 m 5 ls [.int (iZ r2), .ref mo])
  have b2 : 0 ≤ r2 ∧ r2 ≤ 1 := by omega
  refine zz_if_eq (tgt := 15) hx hb d_Mo_align_5 (by decide) (by omega) (fun c5 => ?_) (fun c5 => ?_)
  · refine lv_iconst (v := iZ (1)) hx hb d_Mo_align_15 (by decide +kernel) ?_
    refine lv_goto (tgt := 38) hx hb d_Mo_align_16 (by decide) ?_
    exfalso
    omega
  · refine lv_iload_n hx hb d_Mo_align_8 rfl (lv_at hl 2 rfl) ?_
    refine cs (n := 1) (wr := [(mo, .inr (8, [.int qc, .int (iZ (np : Int)), .ref ow, .ref om, .ref ok_, .ref oK, .ref og, .ref on_, .ref oh, .ref ox, .int qn, .int qf, .ref op_, .int ql])), (ow, .inl (cI, 108000, .inl fw)), (om, .inl (cI, 9, .inl fm)), (oh, .inl (cI, 10000, .inl fh)), (ok_, .inl (cI, 166400, .inl fk)), (oK, .inl (cI, 64, .inl fK)), (og, .inl (cI, 32, .inl fs)), (on_, .inl (cI, 32, .inl fn))]) (w1 := (fun (u : Int) => [])) (As := [.int (iZ (a : Int))]) (rest := [.ref mo]) K hP hD hK hS hA hl.1 (c_Mo_isRegister l D (a : Int) H.size (by omega)) [] [0, 1, 2, 3, 4, 5, 6, 7] [] rfl rfl rfl (by decide) (by decide) (by decide) (big_in mw_1172 rfl) (big_in mw_10 rfl) (big_in mw_1170 rfl) (big_in mw_1171 rfl) rfl rfl (by decide +kernel) ⟨by rw [hR]; exact Nat.le_of_ble_eq_true rfl, by rw [hR]; exact Nat.le_of_ble_eq_true rfl⟩ rfl (Nat.le_of_ble_eq_true rfl) d_Mo_align_9 ⟨by rw [hR]; exact Nat.le_of_ble_eq_true rfl, by rw [hR]; exact Nat.le_of_ble_eq_true rfl⟩ rfl (fun v u H locs hp2 hP hD hS _ => ?_)
    obtain ⟨r9, rfl⟩ : ∃ z, z = u := ⟨_, rfl⟩
    obtain ⟨rfl, p9⟩ := hp2
    have hP : va_P D cls0 [(mo, .inr (8, [.int qc, .int (iZ (np : Int)), .ref ow, .ref om, .ref ok_, .ref oK, .ref og, .ref on_, .ref oh, .ref ox, .int qn, .int qf, .ref op_, .int ql])), (ow, .inl (cI, 108000, .inl fw)), (om, .inl (cI, 9, .inl fm)), (oh, .inl (cI, 10000, .inl fh)), (ok_, .inl (cI, 166400, .inl fk)), (oK, .inl (cI, 64, .inl fK)), (og, .inl (cI, 32, .inl fs)), (on_, .inl (cI, 32, .inl fn))] H := hP
    have hD : va_D A [(mo, .inr (8, [.int qc, .int (iZ (np : Int)), .ref ow, .ref om, .ref ok_, .ref oK, .ref og, .ref on_, .ref oh, .ref ox, .int qn, .int qf, .ref op_, .int ql])), (ow, .inl (cI, 108000, .inl fw)), (om, .inl (cI, 9, .inl fm)), (oh, .inl (cI, 10000, .inl fh)), (ok_, .inl (cI, 166400, .inl fk)), (oK, .inl (cI, 64, .inl fK)), (og, .inl (cI, 32, .inl fs)), (on_, .inl (cI, 32, .inl fn))] := hD
    show W p l e R s m args below meth c H locs _ _ Q (F0 m 12 ls [.int (iZ r9), .ref mo])
    have b9 : 0 ≤ r9 ∧ r9 ≤ 1 := by omega
    refine zz_if_ne (tgt := 19) hx hb d_Mo_align_12 (by decide) (by omega) (fun c12 => ?_) (fun c12 => ?_)
    · refine lv_iload_n hx hb d_Mo_align_19 rfl (lv_at hl 3 rfl) ?_
      refine lv_sipush (v := iZ (-4000)) hx hb d_Mo_align_20 (by decide +kernel) ?_
      refine zz_icmp_lt (tgt := 33) hx hb d_Mo_align_23 (by decide) (by omega) (by omega) (fun c23 => ?_) (fun c23 => ?_)
      · refine lv_iconst (v := iZ (2)) hx hb d_Mo_align_33 (by decide +kernel) ?_
        refine lv_goto (tgt := 38) hx hb d_Mo_align_34 (by decide) ?_
        exfalso
        omega
      · refine lv_iload_n hx hb d_Mo_align_26 rfl (lv_at hl 3 rfl) ?_
        refine lv_sipush (v := iZ (4000)) hx hb d_Mo_align_27 (by decide +kernel) ?_
        refine zz_icmp_le (tgt := 37) hx hb d_Mo_align_30 (by decide) (by omega) (by omega) (fun c30 => ?_) (fun c30 => ?_)
        · refine lv_iconst (v := iZ (0)) hx hb d_Mo_align_37 (by decide +kernel) ?_
          refine cv (n := 1) (wr := [(ow, .inl (cI, 108000, .inl fw)), (om, .inl (cI, 9, .inl fm)), (oh, .inl (cI, 10000, .inl fh)), (ok_, .inl (cI, 166400, .inl fk)), (oK, .inl (cI, 64, .inl fK)), (og, .inl (cI, 32, .inl fs)), (on_, .inl (cI, 32, .inl fn))]) (w1 := (fun (u : Int) => [(mo, .inr (8, [.int (iZ 0), .int (iZ (np : Int)), .ref ow, .ref om, .ref ok_, .ref oK, .ref og, .ref on_, .ref oh, .ref ox, .int qn, .int qf, .ref op_, .int ql]))])) (As := [.int (iZ 0)]) (rest := []) K hP hD hK hS hA hl.1 (c_Mo_refuses l D mo qc np ow om ok_ oK og on_ oh ox qn qf op_ ql 0 H.size (by omega)) [0] [1, 2, 3, 4, 5, 6, 7] [] rfl rfl rfl (by decide) (by decide) (by decide) 0 rfl rfl (big_in mw_1176 rfl) (big_in mw_10 rfl) (big_in mw_1173 rfl) (big_in mw_1175 rfl) (big_in sp_18 rfl) rfl rfl (by decide +kernel) ⟨by rw [hR]; exact Nat.le_of_ble_eq_true rfl, by rw [hR]; exact Nat.le_of_ble_eq_true rfl⟩ rfl (Nat.le_of_ble_eq_true rfl) d_Mo_align_38 ⟨by rw [hR]; exact Nat.le_of_ble_eq_true rfl, by rw [hR]; exact Nat.le_of_ble_eq_true rfl⟩ rfl (fun v u H locs hp3 hP hD hS _ => ?_)
          obtain ⟨rf, rfl⟩ : ∃ z, z = u := ⟨_, rfl⟩
          obtain ⟨rfl, prf⟩ := hp3
          have hP : va_P D cls0 [(ow, .inl (cI, 108000, .inl fw)), (om, .inl (cI, 9, .inl fm)), (oh, .inl (cI, 10000, .inl fh)), (ok_, .inl (cI, 166400, .inl fk)), (oK, .inl (cI, 64, .inl fK)), (og, .inl (cI, 32, .inl fs)), (on_, .inl (cI, 32, .inl fn)), (mo, .inr (8, [.int (iZ 0), .int (iZ (np : Int)), .ref ow, .ref om, .ref ok_, .ref oK, .ref og, .ref on_, .ref oh, .ref ox, .int qn, .int qf, .ref op_, .int ql]))] H := hP
          have hD : va_D A [(ow, .inl (cI, 108000, .inl fw)), (om, .inl (cI, 9, .inl fm)), (oh, .inl (cI, 10000, .inl fh)), (ok_, .inl (cI, 166400, .inl fk)), (oK, .inl (cI, 64, .inl fK)), (og, .inl (cI, 32, .inl fs)), (on_, .inl (cI, 32, .inl fn)), (mo, .inr (8, [.int (iZ 0), .int (iZ (np : Int)), .ref ow, .ref om, .ref ok_, .ref oK, .ref og, .ref on_, .ref oh, .ref ox, .int qn, .int qf, .ref op_, .int ql]))] := hD
          show W p l e R s m args below meth c H locs _ _ Q (F0 m 41 ls [.int (iZ rf)])
          refine zz_if_eq (tgt := 48) hx hb d_Mo_align_41 (by decide) (by omega) (fun c41 => ?_) (fun c41 => False.elim (by omega))
          refine lv_aload_n hx hb d_Mo_align_48 rfl (lv_at hl 0 rfl) ?_
          refine lv_iload_n hx hb d_Mo_align_49 rfl (lv_at hl 1 rfl) ?_
          refine lv_iload_n hx hb d_Mo_align_50 rfl (lv_at hl 2 rfl) ?_
          refine lv_iload_n hx hb d_Mo_align_51 rfl (lv_at hl 3 rfl) ?_
          refine cv (n := 3) (wr := []) (w1 := (fun (u : (Nat → Int32) × (Nat → Int32) × (Nat → Int32) × (Nat → Nat)) => [(mo, .inr (8, [.int (iZ 3), .int (iZ (np : Int)), .ref ow, .ref om, .ref ok_, .ref oK, .ref og, .ref on_, .ref oh, .ref ox, .int qn, .int qf, .ref op_, .int ql])), (ow, .inl (cI, 108000, .inl u.1)), (om, .inl (cI, 9, .inl u.2.1)), (oh, .inl (cI, 10000, .inl u.2.2.1)), (ok_, .inl (cI, 166400, .inl fk)), (oK, .inl (cI, 64, .inl fK)), (og, .inl (cI, 32, .inl fs)), (on_, .inl (cI, 32, .inl fn))])) (As := [.int (iZ (to : Int)), .int (iZ (a : Int)), .int (iZ (E : Int))]) (rest := []) K hP hD hK hS hA hl.1 (f_Mo_multipleUp l D mo (iZ 0) np ow om ok_ oK og on_ oh ox qn qf op_ ql fw fm cI fh fk fK fs fn val tv bv sg to a E H.size hW hMR hnd hnp J hbv t1 t2 hE hfit) [7, 0, 1, 2, 3, 4, 5, 6] [] [0] rfl rfl rfl (by decide) (by decide) (by decide) 0 rfl rfl (big_in mw_1329 rfl) (big_in mw_10 rfl) (big_in mw_1326 rfl) (big_in mw_1328 rfl) (big_in sp_44 rfl) rfl rfl (by decide +kernel) ⟨by rw [hR]; exact Nat.le_of_ble_eq_true rfl, by rw [hR]; exact Nat.le_of_ble_eq_true rfl⟩ rfl (Nat.le_of_ble_eq_true rfl) d_Mo_align_52 ⟨by rw [hR]; exact Nat.le_of_ble_eq_true rfl, by rw [hR]; exact Nat.le_of_ble_eq_true rfl⟩ rfl (fun v u H locs hp4 hP hD hS _ => ?_)
          obtain ⟨fa, fb, fc, v9⟩ := u
          try dsimp only at hp4
          obtain ⟨rfl, w9⟩ := hp4
          have hP : va_P D cls0 [(mo, .inr (8, [.int (iZ 3), .int (iZ (np : Int)), .ref ow, .ref om, .ref ok_, .ref oK, .ref og, .ref on_, .ref oh, .ref ox, .int qn, .int qf, .ref op_, .int ql])), (ow, .inl (cI, 108000, .inl fa)), (om, .inl (cI, 9, .inl fb)), (oh, .inl (cI, 10000, .inl fc)), (ok_, .inl (cI, 166400, .inl fk)), (oK, .inl (cI, 64, .inl fK)), (og, .inl (cI, 32, .inl fs)), (on_, .inl (cI, 32, .inl fn))] H := hP
          have hD : va_D A [(mo, .inr (8, [.int (iZ 3), .int (iZ (np : Int)), .ref ow, .ref om, .ref ok_, .ref oK, .ref og, .ref on_, .ref oh, .ref ox, .int qn, .int qf, .ref op_, .int ql])), (ow, .inl (cI, 108000, .inl fa)), (om, .inl (cI, 9, .inl fb)), (oh, .inl (cI, 10000, .inl fc)), (ok_, .inl (cI, 166400, .inl fk)), (oK, .inl (cI, 64, .inl fK)), (og, .inl (cI, 32, .inl fs)), (on_, .inl (cI, 32, .inl fn))] := hD
          show W p l e R s m args below meth c H locs _ _ Q (F0 m 55 ls [.int (iZ 0)])
          have hP9 : va_P D cls0 [(mo, .inr (8, [.int (iZ 3), .int (iZ (np : Int)), .ref ow, .ref om, .ref ok_, .ref oK, .ref og, .ref on_, .ref oh, .ref ox, .int qn, .int qf, .ref op_, .int ql])), (ow, .inl (cI, 108000, .inl fa)), (om, .inl (cI, 9, .inl fb)), (oh, .inl (cI, 10000, .inl fc)), (ok_, .inl (cI, 166400, .inl fk)), (oK, .inl (cI, 64, .inl fK)), (og, .inl (cI, 32, .inl fs)), (on_, .inl (cI, 32, .inl fn))] H := hP.sub [0, 1, 2, 3, 4, 5, 6, 7] rfl
          have hD9 : va_D A [(mo, .inr (8, [.int (iZ 3), .int (iZ (np : Int)), .ref ow, .ref om, .ref ok_, .ref oK, .ref og, .ref on_, .ref oh, .ref ox, .int qn, .int qf, .ref op_, .int ql])), (ow, .inl (cI, 108000, .inl fa)), (om, .inl (cI, 9, .inl fb)), (oh, .inl (cI, 10000, .inl fc)), (ok_, .inl (cI, 166400, .inl fk)), (oK, .inl (cI, 64, .inl fK)), (og, .inl (cI, 32, .inl fs)), (on_, .inl (cI, 32, .inl fn))] := hD.sub [0, 1, 2, 3, 4, 5, 6, 7] (by decide) rfl
          rw [hQ, ← hAe]
          refine r_i (v := (iZ 0)) K (fa, fb, fc, v9) hS d_Mo_align_55 ?_ (fun t ht hv => ?_)
          · exact ⟨rfl, w9⟩
          · exact ⟨by rw [ht]; exact hP9, va_K.moved hv hK, by rw [← hAe]; exact hD9⟩
        · refine lv_iconst (v := iZ (2)) hx hb d_Mo_align_33 (by decide +kernel) ?_
          refine lv_goto (tgt := 38) hx hb d_Mo_align_34 (by decide) ?_
          exfalso
          omega
    · refine lv_iconst (v := iZ (1)) hx hb d_Mo_align_15 (by decide +kernel) ?_
      refine lv_goto (tgt := 38) hx hb d_Mo_align_16 (by decide) ?_
      exfalso
      omega
set_option maxHeartbeats 4000000 in
set_option maxRecDepth 100000 in
theorem c_Mo_roundUp (l : Launch) (D : va_G) (mo : Nat) (qc : Int32) (np : Nat) (ow : Nat) (om : Nat) (ok_ : Nat) (oK : Nat) (og : Nat) (on_ : Nat) (oh : Nat) (ox : Nat) (qn : Int32) (qf : Int32) (op_ : Nat) (ql : Int32) (fw : Nat → Int32) (fm : Nat → Int32) (cI : ClassId) (fh : Nat → Int32) (fk : Nat → Int32) (fK : Nat → Int32) (fs : Nat → Int32) (fn : Nat → Int32) (val : Nat → Nat) (tv : Nat → Nat) (bv : Nat → Nat) (sg : Nat → Int) (to : Nat) (a : Nat) (pb : Nat) (E : Nat) (sz : Nat) (hW : WB fw fm val) (hMR : MoR fk fK fs fn tv bv sg) (hnd : ndS tv bv 32 ≤ np) (hnp : np ≤ 1024) (J : RgC tv bv sg) (hbv : ∀ r, r < 32 → 0 < bv r) (t1 : to < 32) (t2 : a < 32) (hpb : 0 < pb ∧ pb ≤ 1024) (hs0 : sg a ≠ 0) (hEx : xE (tv a) (bv a) - (pb : Int) + 1 = (E : Int)) (hfit : ndS tv bv 32 + (lm (rdN (nmQ (tv a) (bv a * 2 ^ E) * 2 ^ E) (1)) + lm (rdD (nmQ (tv a) (bv a * 2 ^ E) * 2 ^ E) (1))) ≤ np + (lm (tv to) + lm (bv to))) : Met l y_Mo_round (wsB y_Mo_round b_Mo_round 6 (some .int)) ({ frames := 6, cells := 0, slots := 0, locals := 148 }) (va_Pc [.ref mo, .int (iZ (to : Int)), .int (iZ (a : Int)), .int (iZ (pb : Int))] (wPre D [(cI, .int)] [(mo, .inr (8, [.int qc, .int (iZ (np : Int)), .ref ow, .ref om, .ref ok_, .ref oK, .ref og, .ref on_, .ref oh, .ref ox, .int qn, .int qf, .ref op_, .int ql])), (ow, .inl (cI, 108000, .inl fw)), (om, .inl (cI, 9, .inl fm)), (oh, .inl (cI, 10000, .inl fh)), (ok_, .inl (cI, 166400, .inl fk)), (oK, .inl (cI, 64, .inl fK)), (og, .inl (cI, 32, .inl fs)), (on_, .inl (cI, 32, .inl fn))] sz)) (va_QV (fun (v_9 : Option Value) (u_9 : (Nat → Int32) × (Nat → Int32) × (Nat → Int32) × (Nat → Int32) × (Nat → Int32) × (Nat → Int32) × (Nat → Int32) × (Nat → Nat)) => v_9 = some (.int (iZ ((lm (rdN (nmQ (tv a) (bv a * 2 ^ E) * 2 ^ E) (1)) : Int) + (lm (rdD (nmQ (tv a) (bv a * 2 ^ E) * 2 ^ E) (1)) : Int)))) ∧ (WB u_9.1 u_9.2.1 u_9.2.2.2.2.2.2.2) ∧ (MoR u_9.2.2.2.1 u_9.2.2.2.2.1 u_9.2.2.2.2.2.1 u_9.2.2.2.2.2.2.1 (up tv to (rdN (nmQ (tv a) (bv a * 2 ^ E) * 2 ^ E) (1))) (up bv to (rdD (nmQ (tv a) (bv a * 2 ^ E) * 2 ^ E) (1))) (up sg to (if rdN (nmQ (tv a) (bv a * 2 ^ E) * 2 ^ E) (1) = 0 then 0 else sg a)))) (fun u_9 => wPost D [(cI, .int)] [(mo, .inr (8, [.int qc, .int (iZ (np : Int)), .ref ow, .ref om, .ref ok_, .ref oK, .ref og, .ref on_, .ref oh, .ref ox, .int qn, .int qf, .ref op_, .int ql])), (ow, .inl (cI, 108000, .inl fw)), (om, .inl (cI, 9, .inl fm)), (oh, .inl (cI, 10000, .inl fh)), (ok_, .inl (cI, 166400, .inl fk)), (oK, .inl (cI, 64, .inl fK)), (og, .inl (cI, 32, .inl fs)), (on_, .inl (cI, 32, .inl fn))] [(mo, .inr (8, [.int (iZ 0), .int (iZ (np : Int)), .ref ow, .ref om, .ref ok_, .ref oK, .ref og, .ref on_, .ref oh, .ref ox, .int qn, .int qf, .ref op_, .int ql])), (ow, .inl (cI, 108000, .inl u_9.1)), (om, .inl (cI, 9, .inl u_9.2.1)), (oh, .inl (cI, 10000, .inl u_9.2.2.1)), (ok_, .inl (cI, 166400, .inl u_9.2.2.2.1)), (oK, .inl (cI, 64, .inl u_9.2.2.2.2.1)), (og, .inl (cI, 32, .inl u_9.2.2.2.2.2.1)), (on_, .inl (cI, 32, .inl u_9.2.2.2.2.2.2.1))] sz) (va_A [(mo, .inr (8, [.int qc, .int (iZ (np : Int)), .ref ow, .ref om, .ref ok_, .ref oK, .ref og, .ref on_, .ref oh, .ref ox, .int qn, .int qf, .ref op_, .int ql])), (ow, .inl (cI, 108000, .inl fw)), (om, .inl (cI, 9, .inl fm)), (oh, .inl (cI, 10000, .inl fh)), (ok_, .inl (cI, 166400, .inl fk)), (oK, .inl (cI, 64, .inl fK)), (og, .inl (cI, 32, .inl fs)), (on_, .inl (cI, 32, .inl fn))] sz)) 0 0 (va_A [(mo, .inr (8, [.int qc, .int (iZ (np : Int)), .ref ow, .ref om, .ref ok_, .ref oK, .ref og, .ref on_, .ref oh, .ref ox, .int qn, .int qf, .ref op_, .int ql])), (ow, .inl (cI, 108000, .inl fw)), (om, .inl (cI, 9, .inl fm)), (oh, .inl (cI, 10000, .inl fh)), (ok_, .inl (cI, 166400, .inl fk)), (oK, .inl (cI, 64, .inl fK)), (og, .inl (cI, 32, .inl fs)), (on_, .inl (cI, 32, .inl fn))] sz) := by
  refine met_enter (by decide +kernel) (Nat.le_of_ble_eq_true rfl) ?_
  intro p e s m args below meth c ls A R Q H locs K hin hAe hA hR hQ hP hK hD hS hl
  obtain ⟨hx, hb, hml, hrt, hlk, hts, hown, hno⟩ := id K
  have hl : lv_has ls 6 [(0, .ref mo), (1, .int (iZ (to : Int))), (2, .int (iZ (a : Int))), (3, .int (iZ (pb : Int)))] := hl
  have hlr : ∀ q, q < 32 → lm (tv q) + lm (bv q) ≤ 1024 := fun q hq => by have z := ndS_le (tv := tv) (bv := bv) hq; omega
  have hnt : ∀ q, q < 32 → nd (tv q) ≤ 2600 := fun q hq => by have z := nd_lm (v := tv q) (L := 1024) (by have y := hlr q hq; omega); omega
  have hnb : ∀ q, q < 32 → nd (bv q) ≤ 2600 := fun q hq => by have z := nd_lm (v := bv q) (L := 1024) (by have y := hlr q hq; omega); omega
  obtain ⟨ja1, ja2, ja3⟩ := J a (by omega)
  have pa := hbv a (by omega)
  have la := hlr a (by omega)
  have n1 := hnt a (by omega)
  have n2 := hnb a (by omega)
  have xb := xE_b (tv a) (bv a)
  have bb1 := bl_le_lm (tv a)
  have bb2 := bl_le_lm (bv a)
  have hE : E ≤ 34000 := by omega
  refine lv_aload_n hx hb d_Mo_round_0 rfl (lv_at hl 0 rfl) ?_
  refine lv_iload_n hx hb d_Mo_round_1 rfl (lv_at hl 1 rfl) ?_
  refine cs (n := 1) (wr := [(mo, .inr (8, [.int qc, .int (iZ (np : Int)), .ref ow, .ref om, .ref ok_, .ref oK, .ref og, .ref on_, .ref oh, .ref ox, .int qn, .int qf, .ref op_, .int ql])), (ow, .inl (cI, 108000, .inl fw)), (om, .inl (cI, 9, .inl fm)), (oh, .inl (cI, 10000, .inl fh)), (ok_, .inl (cI, 166400, .inl fk)), (oK, .inl (cI, 64, .inl fK)), (og, .inl (cI, 32, .inl fs)), (on_, .inl (cI, 32, .inl fn))]) (w1 := (fun (u : Int) => [])) (As := [.int (iZ (to : Int))]) (rest := [.ref mo]) K hP hD hK hS hA hl.1 (c_Mo_isRegister l D (to : Int) H.size (by omega)) [] [0, 1, 2, 3, 4, 5, 6, 7] [] rfl rfl rfl (by decide) (by decide) (by decide) (big_in mw_1172 rfl) (big_in mw_10 rfl) (big_in mw_1170 rfl) (big_in mw_1171 rfl) rfl rfl (by decide +kernel) ⟨by rw [hR]; exact Nat.le_of_ble_eq_true rfl, by rw [hR]; exact Nat.le_of_ble_eq_true rfl⟩ rfl (Nat.le_of_ble_eq_true rfl) d_Mo_round_2 ⟨by rw [hR]; exact Nat.le_of_ble_eq_true rfl, by rw [hR]; exact Nat.le_of_ble_eq_true rfl⟩ rfl (fun v u H locs hp1 hP hD hS _ => ?_)
  obtain ⟨r2, rfl⟩ : ∃ z, z = u := ⟨_, rfl⟩
  obtain ⟨rfl, p2⟩ := hp1
  have hP : va_P D cls0 [(mo, .inr (8, [.int qc, .int (iZ (np : Int)), .ref ow, .ref om, .ref ok_, .ref oK, .ref og, .ref on_, .ref oh, .ref ox, .int qn, .int qf, .ref op_, .int ql])), (ow, .inl (cI, 108000, .inl fw)), (om, .inl (cI, 9, .inl fm)), (oh, .inl (cI, 10000, .inl fh)), (ok_, .inl (cI, 166400, .inl fk)), (oK, .inl (cI, 64, .inl fK)), (og, .inl (cI, 32, .inl fs)), (on_, .inl (cI, 32, .inl fn))] H := hP
  have hD : va_D A [(mo, .inr (8, [.int qc, .int (iZ (np : Int)), .ref ow, .ref om, .ref ok_, .ref oK, .ref og, .ref on_, .ref oh, .ref ox, .int qn, .int qf, .ref op_, .int ql])), (ow, .inl (cI, 108000, .inl fw)), (om, .inl (cI, 9, .inl fm)), (oh, .inl (cI, 10000, .inl fh)), (ok_, .inl (cI, 166400, .inl fk)), (oK, .inl (cI, 64, .inl fK)), (og, .inl (cI, 32, .inl fs)), (on_, .inl (cI, 32, .inl fn))] := hD
  show W p l e R s m args below meth c H locs _ _ Q (F0 m 5 ls [.int (iZ r2), .ref mo])
  have b2 : 0 ≤ r2 ∧ r2 ≤ 1 := by omega
  refine zz_if_eq (tgt := 15) hx hb d_Mo_round_5 (by decide) (by omega) (fun c5 => ?_) (fun c5 => ?_)
  · refine lv_iconst (v := iZ (1)) hx hb d_Mo_round_15 (by decide +kernel) ?_
    refine lv_goto (tgt := 36) hx hb d_Mo_round_16 (by decide) ?_
    exfalso
    omega
  · refine lv_iload_n hx hb d_Mo_round_8 rfl (lv_at hl 2 rfl) ?_
    refine cs (n := 1) (wr := [(mo, .inr (8, [.int qc, .int (iZ (np : Int)), .ref ow, .ref om, .ref ok_, .ref oK, .ref og, .ref on_, .ref oh, .ref ox, .int qn, .int qf, .ref op_, .int ql])), (ow, .inl (cI, 108000, .inl fw)), (om, .inl (cI, 9, .inl fm)), (oh, .inl (cI, 10000, .inl fh)), (ok_, .inl (cI, 166400, .inl fk)), (oK, .inl (cI, 64, .inl fK)), (og, .inl (cI, 32, .inl fs)), (on_, .inl (cI, 32, .inl fn))]) (w1 := (fun (u : Int) => [])) (As := [.int (iZ (a : Int))]) (rest := [.ref mo]) K hP hD hK hS hA hl.1 (c_Mo_isRegister l D (a : Int) H.size (by omega)) [] [0, 1, 2, 3, 4, 5, 6, 7] [] rfl rfl rfl (by decide) (by decide) (by decide) (big_in mw_1172 rfl) (big_in mw_10 rfl) (big_in mw_1170 rfl) (big_in mw_1171 rfl) rfl rfl (by decide +kernel) ⟨by rw [hR]; exact Nat.le_of_ble_eq_true rfl, by rw [hR]; exact Nat.le_of_ble_eq_true rfl⟩ rfl (Nat.le_of_ble_eq_true rfl) d_Mo_round_9 ⟨by rw [hR]; exact Nat.le_of_ble_eq_true rfl, by rw [hR]; exact Nat.le_of_ble_eq_true rfl⟩ rfl (fun v u H locs hp2 hP hD hS _ => ?_)
    obtain ⟨r9, rfl⟩ : ∃ z, z = u := ⟨_, rfl⟩
    obtain ⟨rfl, p9⟩ := hp2
    have hP : va_P D cls0 [(mo, .inr (8, [.int qc, .int (iZ (np : Int)), .ref ow, .ref om, .ref ok_, .ref oK, .ref og, .ref on_, .ref oh, .ref ox, .int qn, .int qf, .ref op_, .int ql])), (ow, .inl (cI, 108000, .inl fw)), (om, .inl (cI, 9, .inl fm)), (oh, .inl (cI, 10000, .inl fh)), (ok_, .inl (cI, 166400, .inl fk)), (oK, .inl (cI, 64, .inl fK)), (og, .inl (cI, 32, .inl fs)), (on_, .inl (cI, 32, .inl fn))] H := hP
    have hD : va_D A [(mo, .inr (8, [.int qc, .int (iZ (np : Int)), .ref ow, .ref om, .ref ok_, .ref oK, .ref og, .ref on_, .ref oh, .ref ox, .int qn, .int qf, .ref op_, .int ql])), (ow, .inl (cI, 108000, .inl fw)), (om, .inl (cI, 9, .inl fm)), (oh, .inl (cI, 10000, .inl fh)), (ok_, .inl (cI, 166400, .inl fk)), (oK, .inl (cI, 64, .inl fK)), (og, .inl (cI, 32, .inl fs)), (on_, .inl (cI, 32, .inl fn))] := hD
    show W p l e R s m args below meth c H locs _ _ Q (F0 m 12 ls [.int (iZ r9), .ref mo])
    have b9 : 0 ≤ r9 ∧ r9 ≤ 1 := by omega
    refine zz_if_ne (tgt := 19) hx hb d_Mo_round_12 (by decide) (by omega) (fun c12 => ?_) (fun c12 => ?_)
    · refine lv_iload_n hx hb d_Mo_round_19 rfl (lv_at hl 3 rfl) ?_
      refine lv_iconst (v := iZ (1)) hx hb d_Mo_round_20 (by decide +kernel) ?_
      refine zz_icmp_lt (tgt := 31) hx hb d_Mo_round_21 (by decide) (by omega) (by omega) (fun c21 => ?_) (fun c21 => ?_)
      · refine lv_iconst (v := iZ (2)) hx hb d_Mo_round_31 (by decide +kernel) ?_
        refine lv_goto (tgt := 36) hx hb d_Mo_round_32 (by decide) ?_
        exfalso
        omega
      · refine lv_iload_n hx hb d_Mo_round_24 rfl (lv_at hl 3 rfl) ?_
        refine lv_sipush (v := iZ (1024)) hx hb d_Mo_round_25 (by decide +kernel) ?_
        refine zz_icmp_le (tgt := 35) hx hb d_Mo_round_28 (by decide) (by omega) (by omega) (fun c28 => ?_) (fun c28 => ?_)
        · refine lv_iconst (v := iZ (0)) hx hb d_Mo_round_35 (by decide +kernel) ?_
          refine cv (n := 1) (wr := [(ow, .inl (cI, 108000, .inl fw)), (om, .inl (cI, 9, .inl fm)), (oh, .inl (cI, 10000, .inl fh)), (ok_, .inl (cI, 166400, .inl fk)), (oK, .inl (cI, 64, .inl fK)), (og, .inl (cI, 32, .inl fs)), (on_, .inl (cI, 32, .inl fn))]) (w1 := (fun (u : Int) => [(mo, .inr (8, [.int (iZ 0), .int (iZ (np : Int)), .ref ow, .ref om, .ref ok_, .ref oK, .ref og, .ref on_, .ref oh, .ref ox, .int qn, .int qf, .ref op_, .int ql]))])) (As := [.int (iZ 0)]) (rest := []) K hP hD hK hS hA hl.1 (c_Mo_refuses l D mo qc np ow om ok_ oK og on_ oh ox qn qf op_ ql 0 H.size (by omega)) [0] [1, 2, 3, 4, 5, 6, 7] [] rfl rfl rfl (by decide) (by decide) (by decide) 0 rfl rfl (big_in mw_1176 rfl) (big_in mw_10 rfl) (big_in mw_1173 rfl) (big_in mw_1175 rfl) (big_in sp_18 rfl) rfl rfl (by decide +kernel) ⟨by rw [hR]; exact Nat.le_of_ble_eq_true rfl, by rw [hR]; exact Nat.le_of_ble_eq_true rfl⟩ rfl (Nat.le_of_ble_eq_true rfl) d_Mo_round_36 ⟨by rw [hR]; exact Nat.le_of_ble_eq_true rfl, by rw [hR]; exact Nat.le_of_ble_eq_true rfl⟩ rfl (fun v u H locs hp3 hP hD hS _ => ?_)
          obtain ⟨rf, rfl⟩ : ∃ z, z = u := ⟨_, rfl⟩
          obtain ⟨rfl, prf⟩ := hp3
          have hP : va_P D cls0 [(ow, .inl (cI, 108000, .inl fw)), (om, .inl (cI, 9, .inl fm)), (oh, .inl (cI, 10000, .inl fh)), (ok_, .inl (cI, 166400, .inl fk)), (oK, .inl (cI, 64, .inl fK)), (og, .inl (cI, 32, .inl fs)), (on_, .inl (cI, 32, .inl fn)), (mo, .inr (8, [.int (iZ 0), .int (iZ (np : Int)), .ref ow, .ref om, .ref ok_, .ref oK, .ref og, .ref on_, .ref oh, .ref ox, .int qn, .int qf, .ref op_, .int ql]))] H := hP
          have hD : va_D A [(ow, .inl (cI, 108000, .inl fw)), (om, .inl (cI, 9, .inl fm)), (oh, .inl (cI, 10000, .inl fh)), (ok_, .inl (cI, 166400, .inl fk)), (oK, .inl (cI, 64, .inl fK)), (og, .inl (cI, 32, .inl fs)), (on_, .inl (cI, 32, .inl fn)), (mo, .inr (8, [.int (iZ 0), .int (iZ (np : Int)), .ref ow, .ref om, .ref ok_, .ref oK, .ref og, .ref on_, .ref oh, .ref ox, .int qn, .int qf, .ref op_, .int ql]))] := hD
          show W p l e R s m args below meth c H locs _ _ Q (F0 m 39 ls [.int (iZ rf)])
          refine zz_if_eq (tgt := 44) hx hb d_Mo_round_39 (by decide) (by omega) (fun c39 => ?_) (fun c39 => False.elim (by omega))
          refine lv_aload_n hx hb d_Mo_round_44 rfl (lv_at hl 0 rfl) ?_
          refine va_get (D := D) (ci := 8) (v := .ref og) (C := R_Mo) (T := F_Mo) (N := 14) hx hb hts i_Mo hown hK hP 7 rfl rfl 6 (by decide) (hts _ (big_in mw_1121 rfl)) (fun _ h9 => h9) rfl d_Mo_round_45 ?_
          refine lv_iload_n hx hb d_Mo_round_48 rfl (lv_at hl 2 rfl) ?_
          refine zz_iald hx hb hK hP 5 0 rfl rfl (a) (by omega) (by omega) (by omega) d_Mo_round_49 ?_
          rw [hMR.2.1 a (by omega)]
          refine zz_if_ne (tgt := 60) hx hb d_Mo_round_50 (by decide) (by omega) (fun c50 => ?_) (fun c50 => False.elim (by omega))
          refine lv_aload_n hx hb d_Mo_round_60 rfl (lv_at hl 0 rfl) ?_
          refine lv_iconst (v := iZ (0)) hx hb d_Mo_round_61 (by decide +kernel) ?_
          refine lv_iconst (v := iZ (2)) hx hb d_Mo_round_62 (by decide +kernel) ?_
          refine lv_iload_n hx hb d_Mo_round_63 rfl (lv_at hl 2 rfl) ?_
          refine zz_imul hx hb d_Mo_round_64 ?_
          rw [show (2 * (a : Int) : Int) = ((2 * a : Nat) : Int) by omega]
          refine cv (n := 2) (wr := [(oh, .inl (cI, 10000, .inl fh)), (og, .inl (cI, 32, .inl fs)), (on_, .inl (cI, 32, .inl fn))]) (w1 := (fun (u : (Nat → Int32) × (Nat → Int32)) => [(mo, .inr (8, [.int (iZ 0), .int (iZ (np : Int)), .ref ow, .ref om, .ref ok_, .ref oK, .ref og, .ref on_, .ref oh, .ref ox, .int qn, .int qf, .ref op_, .int ql])), (ow, .inl (cI, 108000, .inl u.1)), (om, .inl (cI, 9, .inl u.2)), (ok_, .inl (cI, 166400, .inl fk)), (oK, .inl (cI, 64, .inl fK))])) (As := [.int (iZ 0), .int (iZ ((2 * a : Nat) : Int))]) (rest := []) K hP hD hK hS hA hl.1 (c_Mo_load l D mo (iZ 0) np ow om ok_ oK og on_ oh ox qn qf op_ ql fw fm cI fk fK val (kvf tv bv) 0 (2 * a) H.size hW hMR.1 (by decide) (by omega)) [7, 0, 1, 3, 4] [2, 5, 6] [0] rfl rfl rfl (by decide) (by decide) (by decide) 0 rfl rfl (big_in mw_1238 rfl) (big_in mw_10 rfl) (big_in mw_1235 rfl) (big_in mw_1237 rfl) (big_in sp_31 rfl) rfl rfl (by decide +kernel) ⟨by rw [hR]; exact Nat.le_of_ble_eq_true rfl, by rw [hR]; exact Nat.le_of_ble_eq_true rfl⟩ rfl (Nat.le_of_ble_eq_true rfl) d_Mo_round_65 ⟨by rw [hR]; exact Nat.le_of_ble_eq_true rfl, by rw [hR]; exact Nat.le_of_ble_eq_true rfl⟩ rfl (fun v u H locs hp4 hP hD hS _ => ?_)
          obtain ⟨fx1, fy1⟩ := u
          try dsimp only at hp4
          obtain ⟨rfl, w1⟩ := hp4
          have hP : va_P D cls0 [(oh, .inl (cI, 10000, .inl fh)), (og, .inl (cI, 32, .inl fs)), (on_, .inl (cI, 32, .inl fn)), (mo, .inr (8, [.int (iZ 0), .int (iZ (np : Int)), .ref ow, .ref om, .ref ok_, .ref oK, .ref og, .ref on_, .ref oh, .ref ox, .int qn, .int qf, .ref op_, .int ql])), (ow, .inl (cI, 108000, .inl fx1)), (om, .inl (cI, 9, .inl fy1)), (ok_, .inl (cI, 166400, .inl fk)), (oK, .inl (cI, 64, .inl fK))] H := hP
          have hD : va_D A [(oh, .inl (cI, 10000, .inl fh)), (og, .inl (cI, 32, .inl fs)), (on_, .inl (cI, 32, .inl fn)), (mo, .inr (8, [.int (iZ 0), .int (iZ (np : Int)), .ref ow, .ref om, .ref ok_, .ref oK, .ref og, .ref on_, .ref oh, .ref ox, .int qn, .int qf, .ref op_, .int ql])), (ow, .inl (cI, 108000, .inl fx1)), (om, .inl (cI, 9, .inl fy1)), (ok_, .inl (cI, 166400, .inl fk)), (oK, .inl (cI, 64, .inl fK))] := hD
          show W p l e R s m args below meth c H locs _ _ Q (F0 m 68 ls [])
          rw [kvf_0] at w1
          obtain ⟨v1, hv1⟩ : ∃ z, z = up val 0 (tv a) := ⟨_, rfl⟩
          rw [← hv1] at w1
          refine lv_aload_n hx hb d_Mo_round_68 rfl (lv_at hl 0 rfl) ?_
          refine lv_iconst (v := iZ (1)) hx hb d_Mo_round_69 (by decide +kernel) ?_
          refine lv_iconst (v := iZ (2)) hx hb d_Mo_round_70 (by decide +kernel) ?_
          refine lv_iload_n hx hb d_Mo_round_71 rfl (lv_at hl 2 rfl) ?_
          refine zz_imul hx hb d_Mo_round_72 ?_
          refine lv_iconst (v := iZ (1)) hx hb d_Mo_round_73 (by decide +kernel) ?_
          refine zz_iadd hx hb d_Mo_round_74 ?_
          rw [show (2 * (a : Int) + 1 : Int) = ((2 * a + 1 : Nat) : Int) by omega]
          refine cv (n := 2) (wr := [(oh, .inl (cI, 10000, .inl fh)), (og, .inl (cI, 32, .inl fs)), (on_, .inl (cI, 32, .inl fn))]) (w1 := (fun (u : (Nat → Int32) × (Nat → Int32)) => [(mo, .inr (8, [.int (iZ 0), .int (iZ (np : Int)), .ref ow, .ref om, .ref ok_, .ref oK, .ref og, .ref on_, .ref oh, .ref ox, .int qn, .int qf, .ref op_, .int ql])), (ow, .inl (cI, 108000, .inl u.1)), (om, .inl (cI, 9, .inl u.2)), (ok_, .inl (cI, 166400, .inl fk)), (oK, .inl (cI, 64, .inl fK))])) (As := [.int (iZ 1), .int (iZ ((2 * a + 1 : Nat) : Int))]) (rest := []) K hP hD hK hS hA hl.1 (c_Mo_load l D mo (iZ 0) np ow om ok_ oK og on_ oh ox qn qf op_ ql fx1 fy1 cI fk fK v1 (kvf tv bv) 1 (2 * a + 1) H.size w1 hMR.1 (by decide) (by omega)) [3, 4, 5, 6, 7] [0, 1, 2] [0] rfl rfl rfl (by decide) (by decide) (by decide) 0 rfl rfl (big_in mw_1238 rfl) (big_in mw_10 rfl) (big_in mw_1235 rfl) (big_in mw_1237 rfl) (big_in sp_31 rfl) rfl rfl (by decide +kernel) ⟨by rw [hR]; exact Nat.le_of_ble_eq_true rfl, by rw [hR]; exact Nat.le_of_ble_eq_true rfl⟩ rfl (Nat.le_of_ble_eq_true rfl) d_Mo_round_75 ⟨by rw [hR]; exact Nat.le_of_ble_eq_true rfl, by rw [hR]; exact Nat.le_of_ble_eq_true rfl⟩ rfl (fun v u H locs hp5 hP hD hS _ => ?_)
          obtain ⟨fx2, fy2⟩ := u
          try dsimp only at hp5
          obtain ⟨rfl, w2⟩ := hp5
          have hP : va_P D cls0 [(oh, .inl (cI, 10000, .inl fh)), (og, .inl (cI, 32, .inl fs)), (on_, .inl (cI, 32, .inl fn)), (mo, .inr (8, [.int (iZ 0), .int (iZ (np : Int)), .ref ow, .ref om, .ref ok_, .ref oK, .ref og, .ref on_, .ref oh, .ref ox, .int qn, .int qf, .ref op_, .int ql])), (ow, .inl (cI, 108000, .inl fx2)), (om, .inl (cI, 9, .inl fy2)), (ok_, .inl (cI, 166400, .inl fk)), (oK, .inl (cI, 64, .inl fK))] H := hP
          have hD : va_D A [(oh, .inl (cI, 10000, .inl fh)), (og, .inl (cI, 32, .inl fs)), (on_, .inl (cI, 32, .inl fn)), (mo, .inr (8, [.int (iZ 0), .int (iZ (np : Int)), .ref ow, .ref om, .ref ok_, .ref oK, .ref og, .ref on_, .ref oh, .ref ox, .int qn, .int qf, .ref op_, .int ql])), (ow, .inl (cI, 108000, .inl fx2)), (om, .inl (cI, 9, .inl fy2)), (ok_, .inl (cI, 166400, .inl fk)), (oK, .inl (cI, 64, .inl fK))] := hD
          show W p l e R s m args below meth c H locs _ _ Q (F0 m 78 ls [])
          rw [kvf_1] at w2
          obtain ⟨v2, hv2⟩ : ∃ z, z = up v1 1 (bv a) := ⟨_, rfl⟩
          rw [← hv2] at w2
          have e0 : v2 0 = tv a := by rw [hv2, up_n (by decide), hv1, up_s]
          have e1 : v2 1 = bv a := by rw [hv2, up_s]
          have ba := hlr a (by omega)
          refine lv_aload_n hx hb d_Mo_round_78 rfl (lv_at hl 0 rfl) ?_
          refine lv_iconst (v := iZ (0)) hx hb d_Mo_round_79 (by decide +kernel) ?_
          refine cv (n := 1) (wr := [(og, .inl (cI, 32, .inl fs)), (on_, .inl (cI, 32, .inl fn)), (ok_, .inl (cI, 166400, .inl fk)), (oK, .inl (cI, 64, .inl fK))]) (w1 := (fun (u : Int × (Nat → Int32) × (Nat → Int32) × (Nat → Int32)) => [(mo, .inr (8, [.int (iZ 0), .int (iZ (np : Int)), .ref ow, .ref om, .ref ok_, .ref oK, .ref og, .ref on_, .ref oh, .ref ox, .int qn, .int qf, .ref op_, .int ql])), (ow, .inl (cI, 108000, .inl u.2.1)), (om, .inl (cI, 9, .inl u.2.2.1)), (oh, .inl (cI, 10000, .inl u.2.2.2))])) (As := [.int (iZ 0)]) (rest := []) K hP hD hK hS hA hl.1 (c_Mo_bits l D mo (iZ 0) np ow om ok_ oK og on_ oh ox qn qf op_ ql fx2 fy2 cI fh v2 0 H.size w2 (by decide) (by decide) (hB_lm (by rw [e0]; omega))) [3, 4, 5, 0] [1, 2, 6, 7] [0] rfl rfl rfl (by decide) (by decide) (by decide) 0 rfl rfl (big_in mw_1298 rfl) (big_in mw_10 rfl) (big_in mw_1295 rfl) (big_in mw_1297 rfl) (big_in sp_40 rfl) rfl rfl (by decide +kernel) ⟨by rw [hR]; exact Nat.le_of_ble_eq_true rfl, by rw [hR]; exact Nat.le_of_ble_eq_true rfl⟩ rfl (Nat.le_of_ble_eq_true rfl) d_Mo_round_80 ⟨by rw [hR]; exact Nat.le_of_ble_eq_true rfl, by rw [hR]; exact Nat.le_of_ble_eq_true rfl⟩ rfl (fun v u H locs hp6 hP hD hS _ => ?_)
          obtain ⟨rb3, fx3, fy3, fh3⟩ := u
          try dsimp only at hp6
          obtain ⟨rfl, eb3, w3⟩ := hp6
          have hP : va_P D cls0 [(og, .inl (cI, 32, .inl fs)), (on_, .inl (cI, 32, .inl fn)), (ok_, .inl (cI, 166400, .inl fk)), (oK, .inl (cI, 64, .inl fK)), (mo, .inr (8, [.int (iZ 0), .int (iZ (np : Int)), .ref ow, .ref om, .ref ok_, .ref oK, .ref og, .ref on_, .ref oh, .ref ox, .int qn, .int qf, .ref op_, .int ql])), (ow, .inl (cI, 108000, .inl fx3)), (om, .inl (cI, 9, .inl fy3)), (oh, .inl (cI, 10000, .inl fh3))] H := hP
          have hD : va_D A [(og, .inl (cI, 32, .inl fs)), (on_, .inl (cI, 32, .inl fn)), (ok_, .inl (cI, 166400, .inl fk)), (oK, .inl (cI, 64, .inl fK)), (mo, .inr (8, [.int (iZ 0), .int (iZ (np : Int)), .ref ow, .ref om, .ref ok_, .ref oK, .ref og, .ref on_, .ref oh, .ref ox, .int qn, .int qf, .ref op_, .int ql])), (ow, .inl (cI, 108000, .inl fx3)), (om, .inl (cI, 9, .inl fy3)), (oh, .inl (cI, 10000, .inl fh3))] := hD
          show W p l e R s m args below meth c H locs _ _ Q (F0 m 83 ls [.int (iZ rb3)])
          rw [e0] at eb3
          subst eb3
          obtain ⟨v3, hv3⟩ : ∃ z, z = up v2 4 0 := ⟨_, rfl⟩
          rw [← hv3] at w3
          have z30 : v3 0 = tv a := by rw [hv3, up_n (by decide)]; exact e0
          have z31 : v3 1 = bv a := by rw [hv3, up_n (by decide)]; exact e1
          refine lv_aload_n hx hb d_Mo_round_83 rfl (lv_at hl 0 rfl) ?_
          refine lv_iconst (v := iZ (1)) hx hb d_Mo_round_84 (by decide +kernel) ?_
          refine cv (n := 1) (wr := [(og, .inl (cI, 32, .inl fs)), (on_, .inl (cI, 32, .inl fn)), (ok_, .inl (cI, 166400, .inl fk)), (oK, .inl (cI, 64, .inl fK))]) (w1 := (fun (u : Int × (Nat → Int32) × (Nat → Int32) × (Nat → Int32)) => [(mo, .inr (8, [.int (iZ 0), .int (iZ (np : Int)), .ref ow, .ref om, .ref ok_, .ref oK, .ref og, .ref on_, .ref oh, .ref ox, .int qn, .int qf, .ref op_, .int ql])), (ow, .inl (cI, 108000, .inl u.2.1)), (om, .inl (cI, 9, .inl u.2.2.1)), (oh, .inl (cI, 10000, .inl u.2.2.2))])) (As := [.int (iZ 1)]) (rest := [.int (iZ (bl (tv a) : Int))]) K hP hD hK hS hA hl.1 (c_Mo_bits l D mo (iZ 0) np ow om ok_ oK og on_ oh ox qn qf op_ ql fx3 fy3 cI fh3 v3 1 H.size w3 (by decide) (by decide) (hB_lm (by rw [z31]; omega))) [4, 5, 6, 7] [0, 1, 2, 3] [0] rfl rfl rfl (by decide) (by decide) (by decide) 0 rfl rfl (big_in mw_1298 rfl) (big_in mw_10 rfl) (big_in mw_1295 rfl) (big_in mw_1297 rfl) (big_in sp_40 rfl) rfl rfl (by decide +kernel) ⟨by rw [hR]; exact Nat.le_of_ble_eq_true rfl, by rw [hR]; exact Nat.le_of_ble_eq_true rfl⟩ rfl (Nat.le_of_ble_eq_true rfl) d_Mo_round_85 ⟨by rw [hR]; exact Nat.le_of_ble_eq_true rfl, by rw [hR]; exact Nat.le_of_ble_eq_true rfl⟩ rfl (fun v u H locs hp7 hP hD hS _ => ?_)
          obtain ⟨rb4, fx4, fy4, fh4⟩ := u
          try dsimp only at hp7
          obtain ⟨rfl, eb4, w4⟩ := hp7
          have hP : va_P D cls0 [(og, .inl (cI, 32, .inl fs)), (on_, .inl (cI, 32, .inl fn)), (ok_, .inl (cI, 166400, .inl fk)), (oK, .inl (cI, 64, .inl fK)), (mo, .inr (8, [.int (iZ 0), .int (iZ (np : Int)), .ref ow, .ref om, .ref ok_, .ref oK, .ref og, .ref on_, .ref oh, .ref ox, .int qn, .int qf, .ref op_, .int ql])), (ow, .inl (cI, 108000, .inl fx4)), (om, .inl (cI, 9, .inl fy4)), (oh, .inl (cI, 10000, .inl fh4))] H := hP
          have hD : va_D A [(og, .inl (cI, 32, .inl fs)), (on_, .inl (cI, 32, .inl fn)), (ok_, .inl (cI, 166400, .inl fk)), (oK, .inl (cI, 64, .inl fK)), (mo, .inr (8, [.int (iZ 0), .int (iZ (np : Int)), .ref ow, .ref om, .ref ok_, .ref oK, .ref og, .ref on_, .ref oh, .ref ox, .int qn, .int qf, .ref op_, .int ql])), (ow, .inl (cI, 108000, .inl fx4)), (om, .inl (cI, 9, .inl fy4)), (oh, .inl (cI, 10000, .inl fh4))] := hD
          show W p l e R s m args below meth c H locs _ _ Q (F0 m 88 ls [.int (iZ rb4), .int (iZ (bl (tv a) : Int))])
          rw [z31] at eb4
          subst eb4
          obtain ⟨v4, hv4⟩ : ∃ z, z = up v3 4 0 := ⟨_, rfl⟩
          rw [← hv4] at w4
          have z40 : v4 0 = tv a := by rw [hv4, up_n (by decide)]; exact z30
          have z41 : v4 1 = bv a := by rw [hv4, up_n (by decide)]; exact z31
          refine zz_isub hx hb d_Mo_round_88 ?_
          refine lv_iload_n hx hb d_Mo_round_89 rfl (lv_at hl 3 rfl) ?_
          refine zz_isub hx hb d_Mo_round_90 ?_
          refine lv_istore (lv' := [(4, .int (iZ ((bl (tv a) : Int) - (bl (bv a) : Int) - (pb : Int)))), (0, .ref mo), (1, .int (iZ (to : Int))), (2, .int (iZ (a : Int))), (3, .int (iZ (pb : Int)))]) hx hb d_Mo_round_91 hl (by decide) rfl (fun ls hl => ?_)
          refine lv_iload hx hb d_Mo_round_93 (lv_at hl 0 rfl) ?_
          refine lv_iload_n hx hb d_Mo_round_95 rfl (lv_at hl 4 rfl) ?_
          refine zz_iadd hx hb d_Mo_round_96 ?_
          refine lv_istore (lv' := [(5, .int (iZ ((bl (tv a) : Int) - (bl (bv a) : Int) - (pb : Int) + (pb : Int)))), (4, .int (iZ ((bl (tv a) : Int) - (bl (bv a) : Int) - (pb : Int)))), (0, .ref mo), (1, .int (iZ (to : Int))), (2, .int (iZ (a : Int))), (3, .int (iZ (pb : Int)))]) hx hb d_Mo_round_97 hl (by decide) rfl (fun ls hl => ?_)
          refine lv_aload_n hx hb d_Mo_round_99 rfl (lv_at hl 2 rfl) ?_
          refine lv_iload hx hb d_Mo_round_100 (lv_at hl 0 rfl) ?_
          refine zz_if_ge (tgt := 109) hx hb d_Mo_round_102 (by decide) (by omega) (fun c102 => ?_) (fun c102 => ?_)
          · refine lv_iconst (v := iZ (1)) hx hb d_Mo_round_109 (by decide +kernel) ?_
            refine lv_iload hx hb d_Mo_round_110 (lv_at hl 0 rfl) ?_
            refine zz_if_ge (tgt := 121) hx hb d_Mo_round_112 (by decide) (by omega) (fun c112 => ?_) (fun c112 => ?_)
            · refine lv_iload hx hb d_Mo_round_121 (lv_at hl 0 rfl) ?_
              rw [show ((bl (tv a) : Int) - (bl (bv a) : Int) - (pb : Int) + (pb : Int) : Int) = ((bl (tv a) - bl (bv a) : Nat) : Int) by omega]
              refine cv (n := 2) (wr := [(og, .inl (cI, 32, .inl fs)), (on_, .inl (cI, 32, .inl fn)), (ok_, .inl (cI, 166400, .inl fk)), (oK, .inl (cI, 64, .inl fK)), (oh, .inl (cI, 10000, .inl fh4))]) (w1 := (fun (u : (Nat → Int32) × (Nat → Int32)) => [(mo, .inr (8, [.int (iZ 0), .int (iZ (np : Int)), .ref ow, .ref om, .ref ok_, .ref oK, .ref og, .ref on_, .ref oh, .ref ox, .int qn, .int qf, .ref op_, .int ql])), (ow, .inl (cI, 108000, .inl u.1)), (om, .inl (cI, 9, .inl u.2))])) (As := [.int (iZ 1), .int (iZ ((bl (tv a) - bl (bv a) : Nat) : Int))]) (rest := []) K hP hD hK hS hA hl.1 (c_Mo_doubled l D mo (iZ 0) np ow om ok_ oK og on_ oh ox qn qf op_ ql fx4 fy4 cI v4 1 (bl (tv a) - bl (bv a)) H.size w4 (by decide) (by omega) (by rw [z41]; have z := nd_shl (bv a) (bl (tv a) - bl (bv a)); omega)) [4, 5, 6] [0, 1, 2, 3, 7] [0] rfl rfl rfl (by decide) (by decide) (by decide) 0 rfl rfl (big_in mw_1320 rfl) (big_in mw_10 rfl) (big_in mw_1317 rfl) (big_in mw_1319 rfl) (big_in sp_42 rfl) rfl rfl (by decide +kernel) ⟨by rw [hR]; exact Nat.le_of_ble_eq_true rfl, by rw [hR]; exact Nat.le_of_ble_eq_true rfl⟩ rfl (Nat.le_of_ble_eq_true rfl) d_Mo_round_123 ⟨by rw [hR]; exact Nat.le_of_ble_eq_true rfl, by rw [hR]; exact Nat.le_of_ble_eq_true rfl⟩ rfl (fun v u H locs hp8 hP hD hS _ => ?_)
              obtain ⟨fx5, fy5⟩ := u
              try dsimp only at hp8
              obtain ⟨rfl, w5⟩ := hp8
              have hP : va_P D cls0 [(og, .inl (cI, 32, .inl fs)), (on_, .inl (cI, 32, .inl fn)), (ok_, .inl (cI, 166400, .inl fk)), (oK, .inl (cI, 64, .inl fK)), (oh, .inl (cI, 10000, .inl fh4)), (mo, .inr (8, [.int (iZ 0), .int (iZ (np : Int)), .ref ow, .ref om, .ref ok_, .ref oK, .ref og, .ref on_, .ref oh, .ref ox, .int qn, .int qf, .ref op_, .int ql])), (ow, .inl (cI, 108000, .inl fx5)), (om, .inl (cI, 9, .inl fy5))] H := hP
              have hD : va_D A [(og, .inl (cI, 32, .inl fs)), (on_, .inl (cI, 32, .inl fn)), (ok_, .inl (cI, 166400, .inl fk)), (oK, .inl (cI, 64, .inl fK)), (oh, .inl (cI, 10000, .inl fh4)), (mo, .inr (8, [.int (iZ 0), .int (iZ (np : Int)), .ref ow, .ref om, .ref ok_, .ref oK, .ref og, .ref on_, .ref oh, .ref ox, .int qn, .int qf, .ref op_, .int ql])), (ow, .inl (cI, 108000, .inl fx5)), (om, .inl (cI, 9, .inl fy5))] := hD
              show W p l e R s m args below meth c H locs _ _ Q (F0 m 126 ls [])
              rw [z41] at w5
              obtain ⟨v5, hv5⟩ : ∃ z, z = up v4 1 (bv a * 2 ^ (bl (tv a) - bl (bv a))) := ⟨_, rfl⟩
              rw [← hv5] at w5
              have z50 : v5 0 = tv a * 2 ^ (bl (bv a) - bl (tv a)) := by rw [hv5, up_n (by decide), z40, show bl (bv a) - bl (tv a) = 0 by omega, Nat.pow_zero, Nat.mul_one]
              have z51 : v5 1 = bv a * 2 ^ (bl (tv a) - bl (bv a)) := by rw [hv5, up_s]
              refine lv_iload hx hb d_Mo_round_126 (lv_at hl 1 rfl) ?_
              refine lv_aload_n hx hb d_Mo_round_128 rfl (lv_at hl 2 rfl) ?_
              refine lv_iconst (v := iZ (0)) hx hb d_Mo_round_129 (by decide +kernel) ?_
              refine lv_iconst (v := iZ (1)) hx hb d_Mo_round_130 (by decide +kernel) ?_
              refine cv (n := 2) (wr := [(og, .inl (cI, 32, .inl fs)), (on_, .inl (cI, 32, .inl fn)), (ok_, .inl (cI, 166400, .inl fk)), (oK, .inl (cI, 64, .inl fK)), (oh, .inl (cI, 10000, .inl fh4))]) (w1 := (fun (u : Int) => [(mo, .inr (8, [.int (iZ 0), .int (iZ (np : Int)), .ref ow, .ref om, .ref ok_, .ref oK, .ref og, .ref on_, .ref oh, .ref ox, .int qn, .int qf, .ref op_, .int ql])), (ow, .inl (cI, 108000, .inl fx5)), (om, .inl (cI, 9, .inl fy5))])) (As := [.int (iZ 0), .int (iZ 1)]) (rest := [.int (iZ ((bl (tv a) : Int) - (bl (bv a) : Int) - (pb : Int)))]) K hP hD hK hS hA hl.1 (c_Mo_order l D mo (iZ 0) np ow om ok_ oK og on_ oh ox qn qf op_ ql fx5 fy5 cI v5 0 1 H.size w5 (by omega) (by omega)) [5, 6, 7] [0, 1, 2, 3, 4] [0] rfl rfl rfl (by decide) (by decide) (by decide) 0 rfl rfl (big_in mw_1270 rfl) (big_in mw_10 rfl) (big_in mw_1267 rfl) (big_in mw_1269 rfl) (big_in sp_37 rfl) rfl rfl (by decide +kernel) ⟨by rw [hR]; exact Nat.le_of_ble_eq_true rfl, by rw [hR]; exact Nat.le_of_ble_eq_true rfl⟩ rfl (Nat.le_of_ble_eq_true rfl) d_Mo_round_131 ⟨by rw [hR]; exact Nat.le_of_ble_eq_true rfl, by rw [hR]; exact Nat.le_of_ble_eq_true rfl⟩ rfl (fun v u H locs hp9 hP hD hS _ => ?_)
              obtain ⟨rc, rfl⟩ : ∃ z, z = u := ⟨_, rfl⟩
              obtain ⟨rfl, gq⟩ := hp9
              have hP : va_P D cls0 [(og, .inl (cI, 32, .inl fs)), (on_, .inl (cI, 32, .inl fn)), (ok_, .inl (cI, 166400, .inl fk)), (oK, .inl (cI, 64, .inl fK)), (oh, .inl (cI, 10000, .inl fh4)), (mo, .inr (8, [.int (iZ 0), .int (iZ (np : Int)), .ref ow, .ref om, .ref ok_, .ref oK, .ref og, .ref on_, .ref oh, .ref ox, .int qn, .int qf, .ref op_, .int ql])), (ow, .inl (cI, 108000, .inl fx5)), (om, .inl (cI, 9, .inl fy5))] H := hP
              have hD : va_D A [(og, .inl (cI, 32, .inl fs)), (on_, .inl (cI, 32, .inl fn)), (ok_, .inl (cI, 166400, .inl fk)), (oK, .inl (cI, 64, .inl fK)), (oh, .inl (cI, 10000, .inl fh4)), (mo, .inr (8, [.int (iZ 0), .int (iZ (np : Int)), .ref ow, .ref om, .ref ok_, .ref oK, .ref og, .ref on_, .ref oh, .ref ox, .int qn, .int qf, .ref op_, .int ql])), (ow, .inl (cI, 108000, .inl fx5)), (om, .inl (cI, 9, .inl fy5))] := hD
              show W p l e R s m args below meth c H locs _ _ Q (F0 m 134 ls [.int (iZ rc), .int (iZ ((bl (tv a) : Int) - (bl (bv a) : Int) - (pb : Int)))])
              rw [z50, z51] at gq
              have t0 : (rc < 0 ↔ ((tv a * 2 ^ (bl (bv a) - bl (tv a)) : Nat) : Int) < ((bv a * 2 ^ (bl (tv a) - bl (bv a)) : Nat) : Int)) ∧ (-1 ≤ rc ∧ rc ≤ 1) := by rw [gq]; exact ⟨cmpZ_lt, cmpZ_r _ _⟩
              clear gq
              have xs : (rc < 0 ∧ xE (tv a) (bv a) = (bl (tv a) : Int) - (bl (bv a) : Int) - 1) ∨ (0 ≤ rc ∧ xE (tv a) (bv a) = (bl (tv a) : Int) - (bl (bv a) : Int)) := by unfold xE; by_cases z : tv a * 2 ^ (bl (bv a) - bl (tv a)) < bv a * 2 ^ (bl (tv a) - bl (bv a)); (left; rw [if_pos z]; omega); (right; rw [if_neg z]; omega)
              have trc := t0.2
              clear t0
              refine zz_if_lt (tgt := 141) hx hb d_Mo_round_134 (by decide) (by omega) (fun c134 => ?_) (fun c134 => ?_)
              · refine lv_iconst (v := iZ (0)) hx hb d_Mo_round_141 (by decide +kernel) ?_
                refine zz_iadd hx hb d_Mo_round_142 ?_
                refine lv_istore (lv' := [(4, .int (iZ ((bl (tv a) : Int) - (bl (bv a) : Int) - (pb : Int) + 0))), (5, .int (iZ ((bl (tv a) : Int) - (bl (bv a) : Int) - (pb : Int) + (pb : Int)))), (0, .ref mo), (1, .int (iZ (to : Int))), (2, .int (iZ (a : Int))), (3, .int (iZ (pb : Int)))]) hx hb d_Mo_round_143 hl (by decide) rfl (fun ls hl => ?_)
                refine lv_aload_n hx hb d_Mo_round_145 rfl (lv_at hl 2 rfl) ?_
                refine lv_iload_n hx hb d_Mo_round_146 rfl (lv_at hl 3 rfl) ?_
                refine lv_iload_n hx hb d_Mo_round_147 rfl (lv_at hl 4 rfl) ?_
                refine lv_iload hx hb d_Mo_round_148 (lv_at hl 0 rfl) ?_
                rw [show ((bl (tv a) : Int) - (bl (bv a) : Int) - (pb : Int) + 0 : Int) = (E : Int) by omega]
                refine cv (n := 3) (wr := []) (w1 := (fun (u : (Nat → Int32) × (Nat → Int32) × (Nat → Int32) × (Nat → Int32) × (Nat → Int32) × (Nat → Int32) × (Nat → Int32) × (Nat → Nat)) => [(mo, .inr (8, [.int (iZ 0), .int (iZ (np : Int)), .ref ow, .ref om, .ref ok_, .ref oK, .ref og, .ref on_, .ref oh, .ref ox, .int qn, .int qf, .ref op_, .int ql])), (ow, .inl (cI, 108000, .inl u.1)), (om, .inl (cI, 9, .inl u.2.1)), (oh, .inl (cI, 10000, .inl u.2.2.1)), (ok_, .inl (cI, 166400, .inl u.2.2.2.1)), (oK, .inl (cI, 64, .inl u.2.2.2.2.1)), (og, .inl (cI, 32, .inl u.2.2.2.2.2.1)), (on_, .inl (cI, 32, .inl u.2.2.2.2.2.2.1))])) (As := [.int (iZ (to : Int)), .int (iZ (a : Int)), .int (iZ (E : Int))]) (rest := []) K hP hD hK hS hA hl.1 (c_Mo_multipleUp l D mo (iZ 0) np ow om ok_ oK og on_ oh ox qn qf op_ ql fx5 fy5 cI fh4 fk fK fs fn v5 tv bv sg to a E H.size w5 hMR hnd hnp J hbv t1 t2 hE hfit) [5, 6, 7, 4, 2, 3, 0, 1] [] [0] rfl rfl rfl (by decide) (by decide) (by decide) 0 rfl rfl (big_in mw_1329 rfl) (big_in mw_10 rfl) (big_in mw_1326 rfl) (big_in mw_1328 rfl) (big_in sp_44 rfl) rfl rfl (by decide +kernel) ⟨by rw [hR]; exact Nat.le_of_ble_eq_true rfl, by rw [hR]; exact Nat.le_of_ble_eq_true rfl⟩ rfl (Nat.le_of_ble_eq_true rfl) d_Mo_round_150 ⟨by rw [hR]; exact Nat.le_of_ble_eq_true rfl, by rw [hR]; exact Nat.le_of_ble_eq_true rfl⟩ rfl (fun v u H locs hp10 hP hD hS _ => ?_)
                obtain ⟨fa, fb, fc, fd, fe, ff, fg, v9⟩ := u
                try dsimp only at hp10
                obtain ⟨rfl, w9, q9⟩ := hp10
                have hP : va_P D cls0 [(mo, .inr (8, [.int (iZ 0), .int (iZ (np : Int)), .ref ow, .ref om, .ref ok_, .ref oK, .ref og, .ref on_, .ref oh, .ref ox, .int qn, .int qf, .ref op_, .int ql])), (ow, .inl (cI, 108000, .inl fa)), (om, .inl (cI, 9, .inl fb)), (oh, .inl (cI, 10000, .inl fc)), (ok_, .inl (cI, 166400, .inl fd)), (oK, .inl (cI, 64, .inl fe)), (og, .inl (cI, 32, .inl ff)), (on_, .inl (cI, 32, .inl fg))] H := hP
                have hD : va_D A [(mo, .inr (8, [.int (iZ 0), .int (iZ (np : Int)), .ref ow, .ref om, .ref ok_, .ref oK, .ref og, .ref on_, .ref oh, .ref ox, .int qn, .int qf, .ref op_, .int ql])), (ow, .inl (cI, 108000, .inl fa)), (om, .inl (cI, 9, .inl fb)), (oh, .inl (cI, 10000, .inl fc)), (ok_, .inl (cI, 166400, .inl fd)), (oK, .inl (cI, 64, .inl fe)), (og, .inl (cI, 32, .inl ff)), (on_, .inl (cI, 32, .inl fg))] := hD
                show W p l e R s m args below meth c H locs _ _ Q (F0 m 153 ls [.int (iZ ((lm (rdN (nmQ (tv a) (bv a * 2 ^ E) * 2 ^ E) (1)) : Int) + (lm (rdD (nmQ (tv a) (bv a * 2 ^ E) * 2 ^ E) (1)) : Int)))])
                have hP9 : va_P D cls0 [(mo, .inr (8, [.int (iZ 0), .int (iZ (np : Int)), .ref ow, .ref om, .ref ok_, .ref oK, .ref og, .ref on_, .ref oh, .ref ox, .int qn, .int qf, .ref op_, .int ql])), (ow, .inl (cI, 108000, .inl fa)), (om, .inl (cI, 9, .inl fb)), (oh, .inl (cI, 10000, .inl fc)), (ok_, .inl (cI, 166400, .inl fd)), (oK, .inl (cI, 64, .inl fe)), (og, .inl (cI, 32, .inl ff)), (on_, .inl (cI, 32, .inl fg))] H := hP.sub [0, 1, 2, 3, 4, 5, 6, 7] rfl
                have hD9 : va_D A [(mo, .inr (8, [.int (iZ 0), .int (iZ (np : Int)), .ref ow, .ref om, .ref ok_, .ref oK, .ref og, .ref on_, .ref oh, .ref ox, .int qn, .int qf, .ref op_, .int ql])), (ow, .inl (cI, 108000, .inl fa)), (om, .inl (cI, 9, .inl fb)), (oh, .inl (cI, 10000, .inl fc)), (ok_, .inl (cI, 166400, .inl fd)), (oK, .inl (cI, 64, .inl fe)), (og, .inl (cI, 32, .inl ff)), (on_, .inl (cI, 32, .inl fg))] := hD.sub [0, 1, 2, 3, 4, 5, 6, 7] (by decide) rfl
                rw [hQ, ← hAe]
                refine r_i (v := (iZ ((lm (rdN (nmQ (tv a) (bv a * 2 ^ E) * 2 ^ E) (1)) : Int) + (lm (rdD (nmQ (tv a) (bv a * 2 ^ E) * 2 ^ E) (1)) : Int)))) K (fa, fb, fc, fd, fe, ff, fg, v9) hS d_Mo_round_153 ?_ (fun t ht hv => ?_)
                · exact ⟨rfl, w9, q9⟩
                · exact ⟨by rw [ht]; exact hP9, va_K.moved hv hK, by rw [← hAe]; exact hD9⟩
              · refine lv_iconst (v := iZ (1)) hx hb d_Mo_round_137 (by decide +kernel) ?_
                refine lv_goto (tgt := 142) hx hb d_Mo_round_138 (by decide) ?_
                refine zz_iadd hx hb d_Mo_round_142 ?_
                refine lv_istore (lv' := [(4, .int (iZ ((bl (tv a) : Int) - (bl (bv a) : Int) - (pb : Int) + 1))), (5, .int (iZ ((bl (tv a) : Int) - (bl (bv a) : Int) - (pb : Int) + (pb : Int)))), (0, .ref mo), (1, .int (iZ (to : Int))), (2, .int (iZ (a : Int))), (3, .int (iZ (pb : Int)))]) hx hb d_Mo_round_143 hl (by decide) rfl (fun ls hl => ?_)
                refine lv_aload_n hx hb d_Mo_round_145 rfl (lv_at hl 2 rfl) ?_
                refine lv_iload_n hx hb d_Mo_round_146 rfl (lv_at hl 3 rfl) ?_
                refine lv_iload_n hx hb d_Mo_round_147 rfl (lv_at hl 4 rfl) ?_
                refine lv_iload hx hb d_Mo_round_148 (lv_at hl 0 rfl) ?_
                rw [show ((bl (tv a) : Int) - (bl (bv a) : Int) - (pb : Int) + 1 : Int) = (E : Int) by omega]
                refine cv (n := 3) (wr := []) (w1 := (fun (u : (Nat → Int32) × (Nat → Int32) × (Nat → Int32) × (Nat → Int32) × (Nat → Int32) × (Nat → Int32) × (Nat → Int32) × (Nat → Nat)) => [(mo, .inr (8, [.int (iZ 0), .int (iZ (np : Int)), .ref ow, .ref om, .ref ok_, .ref oK, .ref og, .ref on_, .ref oh, .ref ox, .int qn, .int qf, .ref op_, .int ql])), (ow, .inl (cI, 108000, .inl u.1)), (om, .inl (cI, 9, .inl u.2.1)), (oh, .inl (cI, 10000, .inl u.2.2.1)), (ok_, .inl (cI, 166400, .inl u.2.2.2.1)), (oK, .inl (cI, 64, .inl u.2.2.2.2.1)), (og, .inl (cI, 32, .inl u.2.2.2.2.2.1)), (on_, .inl (cI, 32, .inl u.2.2.2.2.2.2.1))])) (As := [.int (iZ (to : Int)), .int (iZ (a : Int)), .int (iZ (E : Int))]) (rest := []) K hP hD hK hS hA hl.1 (c_Mo_multipleUp l D mo (iZ 0) np ow om ok_ oK og on_ oh ox qn qf op_ ql fx5 fy5 cI fh4 fk fK fs fn v5 tv bv sg to a E H.size w5 hMR hnd hnp J hbv t1 t2 hE hfit) [5, 6, 7, 4, 2, 3, 0, 1] [] [0] rfl rfl rfl (by decide) (by decide) (by decide) 0 rfl rfl (big_in mw_1329 rfl) (big_in mw_10 rfl) (big_in mw_1326 rfl) (big_in mw_1328 rfl) (big_in sp_44 rfl) rfl rfl (by decide +kernel) ⟨by rw [hR]; exact Nat.le_of_ble_eq_true rfl, by rw [hR]; exact Nat.le_of_ble_eq_true rfl⟩ rfl (Nat.le_of_ble_eq_true rfl) d_Mo_round_150 ⟨by rw [hR]; exact Nat.le_of_ble_eq_true rfl, by rw [hR]; exact Nat.le_of_ble_eq_true rfl⟩ rfl (fun v u H locs hp11 hP hD hS _ => ?_)
                obtain ⟨fa, fb, fc, fd, fe, ff, fg, v9⟩ := u
                try dsimp only at hp11
                obtain ⟨rfl, w9, q9⟩ := hp11
                have hP : va_P D cls0 [(mo, .inr (8, [.int (iZ 0), .int (iZ (np : Int)), .ref ow, .ref om, .ref ok_, .ref oK, .ref og, .ref on_, .ref oh, .ref ox, .int qn, .int qf, .ref op_, .int ql])), (ow, .inl (cI, 108000, .inl fa)), (om, .inl (cI, 9, .inl fb)), (oh, .inl (cI, 10000, .inl fc)), (ok_, .inl (cI, 166400, .inl fd)), (oK, .inl (cI, 64, .inl fe)), (og, .inl (cI, 32, .inl ff)), (on_, .inl (cI, 32, .inl fg))] H := hP
                have hD : va_D A [(mo, .inr (8, [.int (iZ 0), .int (iZ (np : Int)), .ref ow, .ref om, .ref ok_, .ref oK, .ref og, .ref on_, .ref oh, .ref ox, .int qn, .int qf, .ref op_, .int ql])), (ow, .inl (cI, 108000, .inl fa)), (om, .inl (cI, 9, .inl fb)), (oh, .inl (cI, 10000, .inl fc)), (ok_, .inl (cI, 166400, .inl fd)), (oK, .inl (cI, 64, .inl fe)), (og, .inl (cI, 32, .inl ff)), (on_, .inl (cI, 32, .inl fg))] := hD
                show W p l e R s m args below meth c H locs _ _ Q (F0 m 153 ls [.int (iZ ((lm (rdN (nmQ (tv a) (bv a * 2 ^ E) * 2 ^ E) (1)) : Int) + (lm (rdD (nmQ (tv a) (bv a * 2 ^ E) * 2 ^ E) (1)) : Int)))])
                have hP9 : va_P D cls0 [(mo, .inr (8, [.int (iZ 0), .int (iZ (np : Int)), .ref ow, .ref om, .ref ok_, .ref oK, .ref og, .ref on_, .ref oh, .ref ox, .int qn, .int qf, .ref op_, .int ql])), (ow, .inl (cI, 108000, .inl fa)), (om, .inl (cI, 9, .inl fb)), (oh, .inl (cI, 10000, .inl fc)), (ok_, .inl (cI, 166400, .inl fd)), (oK, .inl (cI, 64, .inl fe)), (og, .inl (cI, 32, .inl ff)), (on_, .inl (cI, 32, .inl fg))] H := hP.sub [0, 1, 2, 3, 4, 5, 6, 7] rfl
                have hD9 : va_D A [(mo, .inr (8, [.int (iZ 0), .int (iZ (np : Int)), .ref ow, .ref om, .ref ok_, .ref oK, .ref og, .ref on_, .ref oh, .ref ox, .int qn, .int qf, .ref op_, .int ql])), (ow, .inl (cI, 108000, .inl fa)), (om, .inl (cI, 9, .inl fb)), (oh, .inl (cI, 10000, .inl fc)), (ok_, .inl (cI, 166400, .inl fd)), (oK, .inl (cI, 64, .inl fe)), (og, .inl (cI, 32, .inl ff)), (on_, .inl (cI, 32, .inl fg))] := hD.sub [0, 1, 2, 3, 4, 5, 6, 7] (by decide) rfl
                rw [hQ, ← hAe]
                refine r_i (v := (iZ ((lm (rdN (nmQ (tv a) (bv a * 2 ^ E) * 2 ^ E) (1)) : Int) + (lm (rdD (nmQ (tv a) (bv a * 2 ^ E) * 2 ^ E) (1)) : Int)))) K (fa, fb, fc, fd, fe, ff, fg, v9) hS d_Mo_round_153 ?_ (fun t ht hv => ?_)
                · exact ⟨rfl, w9, q9⟩
                · exact ⟨by rw [ht]; exact hP9, va_K.moved hv hK, by rw [← hAe]; exact hD9⟩
            · refine lv_iload hx hb d_Mo_round_115 (lv_at hl 0 rfl) ?_
              refine zz_ineg hx hb d_Mo_round_117 ?_
              refine lv_goto (tgt := 123) hx hb d_Mo_round_118 (by decide) ?_
              rw [show (-((bl (tv a) : Int) - (bl (bv a) : Int) - (pb : Int) + (pb : Int)) : Int) = ((bl (tv a) - bl (bv a) : Nat) : Int) by omega]
              refine cv (n := 2) (wr := [(og, .inl (cI, 32, .inl fs)), (on_, .inl (cI, 32, .inl fn)), (ok_, .inl (cI, 166400, .inl fk)), (oK, .inl (cI, 64, .inl fK)), (oh, .inl (cI, 10000, .inl fh4))]) (w1 := (fun (u : (Nat → Int32) × (Nat → Int32)) => [(mo, .inr (8, [.int (iZ 0), .int (iZ (np : Int)), .ref ow, .ref om, .ref ok_, .ref oK, .ref og, .ref on_, .ref oh, .ref ox, .int qn, .int qf, .ref op_, .int ql])), (ow, .inl (cI, 108000, .inl u.1)), (om, .inl (cI, 9, .inl u.2))])) (As := [.int (iZ 1), .int (iZ ((bl (tv a) - bl (bv a) : Nat) : Int))]) (rest := []) K hP hD hK hS hA hl.1 (c_Mo_doubled l D mo (iZ 0) np ow om ok_ oK og on_ oh ox qn qf op_ ql fx4 fy4 cI v4 1 (bl (tv a) - bl (bv a)) H.size w4 (by decide) (by omega) (by rw [z41]; have z := nd_shl (bv a) (bl (tv a) - bl (bv a)); omega)) [4, 5, 6] [0, 1, 2, 3, 7] [0] rfl rfl rfl (by decide) (by decide) (by decide) 0 rfl rfl (big_in mw_1320 rfl) (big_in mw_10 rfl) (big_in mw_1317 rfl) (big_in mw_1319 rfl) (big_in sp_42 rfl) rfl rfl (by decide +kernel) ⟨by rw [hR]; exact Nat.le_of_ble_eq_true rfl, by rw [hR]; exact Nat.le_of_ble_eq_true rfl⟩ rfl (Nat.le_of_ble_eq_true rfl) d_Mo_round_123 ⟨by rw [hR]; exact Nat.le_of_ble_eq_true rfl, by rw [hR]; exact Nat.le_of_ble_eq_true rfl⟩ rfl (fun v u H locs hp12 hP hD hS _ => ?_)
              obtain ⟨fx5, fy5⟩ := u
              try dsimp only at hp12
              obtain ⟨rfl, w5⟩ := hp12
              have hP : va_P D cls0 [(og, .inl (cI, 32, .inl fs)), (on_, .inl (cI, 32, .inl fn)), (ok_, .inl (cI, 166400, .inl fk)), (oK, .inl (cI, 64, .inl fK)), (oh, .inl (cI, 10000, .inl fh4)), (mo, .inr (8, [.int (iZ 0), .int (iZ (np : Int)), .ref ow, .ref om, .ref ok_, .ref oK, .ref og, .ref on_, .ref oh, .ref ox, .int qn, .int qf, .ref op_, .int ql])), (ow, .inl (cI, 108000, .inl fx5)), (om, .inl (cI, 9, .inl fy5))] H := hP
              have hD : va_D A [(og, .inl (cI, 32, .inl fs)), (on_, .inl (cI, 32, .inl fn)), (ok_, .inl (cI, 166400, .inl fk)), (oK, .inl (cI, 64, .inl fK)), (oh, .inl (cI, 10000, .inl fh4)), (mo, .inr (8, [.int (iZ 0), .int (iZ (np : Int)), .ref ow, .ref om, .ref ok_, .ref oK, .ref og, .ref on_, .ref oh, .ref ox, .int qn, .int qf, .ref op_, .int ql])), (ow, .inl (cI, 108000, .inl fx5)), (om, .inl (cI, 9, .inl fy5))] := hD
              show W p l e R s m args below meth c H locs _ _ Q (F0 m 126 ls [])
              rw [z41] at w5
              obtain ⟨v5, hv5⟩ : ∃ z, z = up v4 1 (bv a * 2 ^ (bl (tv a) - bl (bv a))) := ⟨_, rfl⟩
              rw [← hv5] at w5
              have z50 : v5 0 = tv a * 2 ^ (bl (bv a) - bl (tv a)) := by rw [hv5, up_n (by decide), z40, show bl (bv a) - bl (tv a) = 0 by omega, Nat.pow_zero, Nat.mul_one]
              have z51 : v5 1 = bv a * 2 ^ (bl (tv a) - bl (bv a)) := by rw [hv5, up_s]
              refine lv_iload hx hb d_Mo_round_126 (lv_at hl 1 rfl) ?_
              refine lv_aload_n hx hb d_Mo_round_128 rfl (lv_at hl 2 rfl) ?_
              refine lv_iconst (v := iZ (0)) hx hb d_Mo_round_129 (by decide +kernel) ?_
              refine lv_iconst (v := iZ (1)) hx hb d_Mo_round_130 (by decide +kernel) ?_
              refine cv (n := 2) (wr := [(og, .inl (cI, 32, .inl fs)), (on_, .inl (cI, 32, .inl fn)), (ok_, .inl (cI, 166400, .inl fk)), (oK, .inl (cI, 64, .inl fK)), (oh, .inl (cI, 10000, .inl fh4))]) (w1 := (fun (u : Int) => [(mo, .inr (8, [.int (iZ 0), .int (iZ (np : Int)), .ref ow, .ref om, .ref ok_, .ref oK, .ref og, .ref on_, .ref oh, .ref ox, .int qn, .int qf, .ref op_, .int ql])), (ow, .inl (cI, 108000, .inl fx5)), (om, .inl (cI, 9, .inl fy5))])) (As := [.int (iZ 0), .int (iZ 1)]) (rest := [.int (iZ ((bl (tv a) : Int) - (bl (bv a) : Int) - (pb : Int)))]) K hP hD hK hS hA hl.1 (c_Mo_order l D mo (iZ 0) np ow om ok_ oK og on_ oh ox qn qf op_ ql fx5 fy5 cI v5 0 1 H.size w5 (by omega) (by omega)) [5, 6, 7] [0, 1, 2, 3, 4] [0] rfl rfl rfl (by decide) (by decide) (by decide) 0 rfl rfl (big_in mw_1270 rfl) (big_in mw_10 rfl) (big_in mw_1267 rfl) (big_in mw_1269 rfl) (big_in sp_37 rfl) rfl rfl (by decide +kernel) ⟨by rw [hR]; exact Nat.le_of_ble_eq_true rfl, by rw [hR]; exact Nat.le_of_ble_eq_true rfl⟩ rfl (Nat.le_of_ble_eq_true rfl) d_Mo_round_131 ⟨by rw [hR]; exact Nat.le_of_ble_eq_true rfl, by rw [hR]; exact Nat.le_of_ble_eq_true rfl⟩ rfl (fun v u H locs hp13 hP hD hS _ => ?_)
              obtain ⟨rc, rfl⟩ : ∃ z, z = u := ⟨_, rfl⟩
              obtain ⟨rfl, gq⟩ := hp13
              have hP : va_P D cls0 [(og, .inl (cI, 32, .inl fs)), (on_, .inl (cI, 32, .inl fn)), (ok_, .inl (cI, 166400, .inl fk)), (oK, .inl (cI, 64, .inl fK)), (oh, .inl (cI, 10000, .inl fh4)), (mo, .inr (8, [.int (iZ 0), .int (iZ (np : Int)), .ref ow, .ref om, .ref ok_, .ref oK, .ref og, .ref on_, .ref oh, .ref ox, .int qn, .int qf, .ref op_, .int ql])), (ow, .inl (cI, 108000, .inl fx5)), (om, .inl (cI, 9, .inl fy5))] H := hP
              have hD : va_D A [(og, .inl (cI, 32, .inl fs)), (on_, .inl (cI, 32, .inl fn)), (ok_, .inl (cI, 166400, .inl fk)), (oK, .inl (cI, 64, .inl fK)), (oh, .inl (cI, 10000, .inl fh4)), (mo, .inr (8, [.int (iZ 0), .int (iZ (np : Int)), .ref ow, .ref om, .ref ok_, .ref oK, .ref og, .ref on_, .ref oh, .ref ox, .int qn, .int qf, .ref op_, .int ql])), (ow, .inl (cI, 108000, .inl fx5)), (om, .inl (cI, 9, .inl fy5))] := hD
              show W p l e R s m args below meth c H locs _ _ Q (F0 m 134 ls [.int (iZ rc), .int (iZ ((bl (tv a) : Int) - (bl (bv a) : Int) - (pb : Int)))])
              rw [z50, z51] at gq
              have t0 : (rc < 0 ↔ ((tv a * 2 ^ (bl (bv a) - bl (tv a)) : Nat) : Int) < ((bv a * 2 ^ (bl (tv a) - bl (bv a)) : Nat) : Int)) ∧ (-1 ≤ rc ∧ rc ≤ 1) := by rw [gq]; exact ⟨cmpZ_lt, cmpZ_r _ _⟩
              clear gq
              have xs : (rc < 0 ∧ xE (tv a) (bv a) = (bl (tv a) : Int) - (bl (bv a) : Int) - 1) ∨ (0 ≤ rc ∧ xE (tv a) (bv a) = (bl (tv a) : Int) - (bl (bv a) : Int)) := by unfold xE; by_cases z : tv a * 2 ^ (bl (bv a) - bl (tv a)) < bv a * 2 ^ (bl (tv a) - bl (bv a)); (left; rw [if_pos z]; omega); (right; rw [if_neg z]; omega)
              have trc := t0.2
              clear t0
              refine zz_if_lt (tgt := 141) hx hb d_Mo_round_134 (by decide) (by omega) (fun c134 => ?_) (fun c134 => ?_)
              · refine lv_iconst (v := iZ (0)) hx hb d_Mo_round_141 (by decide +kernel) ?_
                refine zz_iadd hx hb d_Mo_round_142 ?_
                refine lv_istore (lv' := [(4, .int (iZ ((bl (tv a) : Int) - (bl (bv a) : Int) - (pb : Int) + 0))), (5, .int (iZ ((bl (tv a) : Int) - (bl (bv a) : Int) - (pb : Int) + (pb : Int)))), (0, .ref mo), (1, .int (iZ (to : Int))), (2, .int (iZ (a : Int))), (3, .int (iZ (pb : Int)))]) hx hb d_Mo_round_143 hl (by decide) rfl (fun ls hl => ?_)
                refine lv_aload_n hx hb d_Mo_round_145 rfl (lv_at hl 2 rfl) ?_
                refine lv_iload_n hx hb d_Mo_round_146 rfl (lv_at hl 3 rfl) ?_
                refine lv_iload_n hx hb d_Mo_round_147 rfl (lv_at hl 4 rfl) ?_
                refine lv_iload hx hb d_Mo_round_148 (lv_at hl 0 rfl) ?_
                rw [show ((bl (tv a) : Int) - (bl (bv a) : Int) - (pb : Int) + 0 : Int) = (E : Int) by omega]
                refine cv (n := 3) (wr := []) (w1 := (fun (u : (Nat → Int32) × (Nat → Int32) × (Nat → Int32) × (Nat → Int32) × (Nat → Int32) × (Nat → Int32) × (Nat → Int32) × (Nat → Nat)) => [(mo, .inr (8, [.int (iZ 0), .int (iZ (np : Int)), .ref ow, .ref om, .ref ok_, .ref oK, .ref og, .ref on_, .ref oh, .ref ox, .int qn, .int qf, .ref op_, .int ql])), (ow, .inl (cI, 108000, .inl u.1)), (om, .inl (cI, 9, .inl u.2.1)), (oh, .inl (cI, 10000, .inl u.2.2.1)), (ok_, .inl (cI, 166400, .inl u.2.2.2.1)), (oK, .inl (cI, 64, .inl u.2.2.2.2.1)), (og, .inl (cI, 32, .inl u.2.2.2.2.2.1)), (on_, .inl (cI, 32, .inl u.2.2.2.2.2.2.1))])) (As := [.int (iZ (to : Int)), .int (iZ (a : Int)), .int (iZ (E : Int))]) (rest := []) K hP hD hK hS hA hl.1 (c_Mo_multipleUp l D mo (iZ 0) np ow om ok_ oK og on_ oh ox qn qf op_ ql fx5 fy5 cI fh4 fk fK fs fn v5 tv bv sg to a E H.size w5 hMR hnd hnp J hbv t1 t2 hE hfit) [5, 6, 7, 4, 2, 3, 0, 1] [] [0] rfl rfl rfl (by decide) (by decide) (by decide) 0 rfl rfl (big_in mw_1329 rfl) (big_in mw_10 rfl) (big_in mw_1326 rfl) (big_in mw_1328 rfl) (big_in sp_44 rfl) rfl rfl (by decide +kernel) ⟨by rw [hR]; exact Nat.le_of_ble_eq_true rfl, by rw [hR]; exact Nat.le_of_ble_eq_true rfl⟩ rfl (Nat.le_of_ble_eq_true rfl) d_Mo_round_150 ⟨by rw [hR]; exact Nat.le_of_ble_eq_true rfl, by rw [hR]; exact Nat.le_of_ble_eq_true rfl⟩ rfl (fun v u H locs hp14 hP hD hS _ => ?_)
                obtain ⟨fa, fb, fc, fd, fe, ff, fg, v9⟩ := u
                try dsimp only at hp14
                obtain ⟨rfl, w9, q9⟩ := hp14
                have hP : va_P D cls0 [(mo, .inr (8, [.int (iZ 0), .int (iZ (np : Int)), .ref ow, .ref om, .ref ok_, .ref oK, .ref og, .ref on_, .ref oh, .ref ox, .int qn, .int qf, .ref op_, .int ql])), (ow, .inl (cI, 108000, .inl fa)), (om, .inl (cI, 9, .inl fb)), (oh, .inl (cI, 10000, .inl fc)), (ok_, .inl (cI, 166400, .inl fd)), (oK, .inl (cI, 64, .inl fe)), (og, .inl (cI, 32, .inl ff)), (on_, .inl (cI, 32, .inl fg))] H := hP
                have hD : va_D A [(mo, .inr (8, [.int (iZ 0), .int (iZ (np : Int)), .ref ow, .ref om, .ref ok_, .ref oK, .ref og, .ref on_, .ref oh, .ref ox, .int qn, .int qf, .ref op_, .int ql])), (ow, .inl (cI, 108000, .inl fa)), (om, .inl (cI, 9, .inl fb)), (oh, .inl (cI, 10000, .inl fc)), (ok_, .inl (cI, 166400, .inl fd)), (oK, .inl (cI, 64, .inl fe)), (og, .inl (cI, 32, .inl ff)), (on_, .inl (cI, 32, .inl fg))] := hD
                show W p l e R s m args below meth c H locs _ _ Q (F0 m 153 ls [.int (iZ ((lm (rdN (nmQ (tv a) (bv a * 2 ^ E) * 2 ^ E) (1)) : Int) + (lm (rdD (nmQ (tv a) (bv a * 2 ^ E) * 2 ^ E) (1)) : Int)))])
                have hP9 : va_P D cls0 [(mo, .inr (8, [.int (iZ 0), .int (iZ (np : Int)), .ref ow, .ref om, .ref ok_, .ref oK, .ref og, .ref on_, .ref oh, .ref ox, .int qn, .int qf, .ref op_, .int ql])), (ow, .inl (cI, 108000, .inl fa)), (om, .inl (cI, 9, .inl fb)), (oh, .inl (cI, 10000, .inl fc)), (ok_, .inl (cI, 166400, .inl fd)), (oK, .inl (cI, 64, .inl fe)), (og, .inl (cI, 32, .inl ff)), (on_, .inl (cI, 32, .inl fg))] H := hP.sub [0, 1, 2, 3, 4, 5, 6, 7] rfl
                have hD9 : va_D A [(mo, .inr (8, [.int (iZ 0), .int (iZ (np : Int)), .ref ow, .ref om, .ref ok_, .ref oK, .ref og, .ref on_, .ref oh, .ref ox, .int qn, .int qf, .ref op_, .int ql])), (ow, .inl (cI, 108000, .inl fa)), (om, .inl (cI, 9, .inl fb)), (oh, .inl (cI, 10000, .inl fc)), (ok_, .inl (cI, 166400, .inl fd)), (oK, .inl (cI, 64, .inl fe)), (og, .inl (cI, 32, .inl ff)), (on_, .inl (cI, 32, .inl fg))] := hD.sub [0, 1, 2, 3, 4, 5, 6, 7] (by decide) rfl
                rw [hQ, ← hAe]
                refine r_i (v := (iZ ((lm (rdN (nmQ (tv a) (bv a * 2 ^ E) * 2 ^ E) (1)) : Int) + (lm (rdD (nmQ (tv a) (bv a * 2 ^ E) * 2 ^ E) (1)) : Int)))) K (fa, fb, fc, fd, fe, ff, fg, v9) hS d_Mo_round_153 ?_ (fun t ht hv => ?_)
                · exact ⟨rfl, w9, q9⟩
                · exact ⟨by rw [ht]; exact hP9, va_K.moved hv hK, by rw [← hAe]; exact hD9⟩
              · refine lv_iconst (v := iZ (1)) hx hb d_Mo_round_137 (by decide +kernel) ?_
                refine lv_goto (tgt := 142) hx hb d_Mo_round_138 (by decide) ?_
                refine zz_iadd hx hb d_Mo_round_142 ?_
                refine lv_istore (lv' := [(4, .int (iZ ((bl (tv a) : Int) - (bl (bv a) : Int) - (pb : Int) + 1))), (5, .int (iZ ((bl (tv a) : Int) - (bl (bv a) : Int) - (pb : Int) + (pb : Int)))), (0, .ref mo), (1, .int (iZ (to : Int))), (2, .int (iZ (a : Int))), (3, .int (iZ (pb : Int)))]) hx hb d_Mo_round_143 hl (by decide) rfl (fun ls hl => ?_)
                refine lv_aload_n hx hb d_Mo_round_145 rfl (lv_at hl 2 rfl) ?_
                refine lv_iload_n hx hb d_Mo_round_146 rfl (lv_at hl 3 rfl) ?_
                refine lv_iload_n hx hb d_Mo_round_147 rfl (lv_at hl 4 rfl) ?_
                refine lv_iload hx hb d_Mo_round_148 (lv_at hl 0 rfl) ?_
                rw [show ((bl (tv a) : Int) - (bl (bv a) : Int) - (pb : Int) + 1 : Int) = (E : Int) by omega]
                refine cv (n := 3) (wr := []) (w1 := (fun (u : (Nat → Int32) × (Nat → Int32) × (Nat → Int32) × (Nat → Int32) × (Nat → Int32) × (Nat → Int32) × (Nat → Int32) × (Nat → Nat)) => [(mo, .inr (8, [.int (iZ 0), .int (iZ (np : Int)), .ref ow, .ref om, .ref ok_, .ref oK, .ref og, .ref on_, .ref oh, .ref ox, .int qn, .int qf, .ref op_, .int ql])), (ow, .inl (cI, 108000, .inl u.1)), (om, .inl (cI, 9, .inl u.2.1)), (oh, .inl (cI, 10000, .inl u.2.2.1)), (ok_, .inl (cI, 166400, .inl u.2.2.2.1)), (oK, .inl (cI, 64, .inl u.2.2.2.2.1)), (og, .inl (cI, 32, .inl u.2.2.2.2.2.1)), (on_, .inl (cI, 32, .inl u.2.2.2.2.2.2.1))])) (As := [.int (iZ (to : Int)), .int (iZ (a : Int)), .int (iZ (E : Int))]) (rest := []) K hP hD hK hS hA hl.1 (c_Mo_multipleUp l D mo (iZ 0) np ow om ok_ oK og on_ oh ox qn qf op_ ql fx5 fy5 cI fh4 fk fK fs fn v5 tv bv sg to a E H.size w5 hMR hnd hnp J hbv t1 t2 hE hfit) [5, 6, 7, 4, 2, 3, 0, 1] [] [0] rfl rfl rfl (by decide) (by decide) (by decide) 0 rfl rfl (big_in mw_1329 rfl) (big_in mw_10 rfl) (big_in mw_1326 rfl) (big_in mw_1328 rfl) (big_in sp_44 rfl) rfl rfl (by decide +kernel) ⟨by rw [hR]; exact Nat.le_of_ble_eq_true rfl, by rw [hR]; exact Nat.le_of_ble_eq_true rfl⟩ rfl (Nat.le_of_ble_eq_true rfl) d_Mo_round_150 ⟨by rw [hR]; exact Nat.le_of_ble_eq_true rfl, by rw [hR]; exact Nat.le_of_ble_eq_true rfl⟩ rfl (fun v u H locs hp15 hP hD hS _ => ?_)
                obtain ⟨fa, fb, fc, fd, fe, ff, fg, v9⟩ := u
                try dsimp only at hp15
                obtain ⟨rfl, w9, q9⟩ := hp15
                have hP : va_P D cls0 [(mo, .inr (8, [.int (iZ 0), .int (iZ (np : Int)), .ref ow, .ref om, .ref ok_, .ref oK, .ref og, .ref on_, .ref oh, .ref ox, .int qn, .int qf, .ref op_, .int ql])), (ow, .inl (cI, 108000, .inl fa)), (om, .inl (cI, 9, .inl fb)), (oh, .inl (cI, 10000, .inl fc)), (ok_, .inl (cI, 166400, .inl fd)), (oK, .inl (cI, 64, .inl fe)), (og, .inl (cI, 32, .inl ff)), (on_, .inl (cI, 32, .inl fg))] H := hP
                have hD : va_D A [(mo, .inr (8, [.int (iZ 0), .int (iZ (np : Int)), .ref ow, .ref om, .ref ok_, .ref oK, .ref og, .ref on_, .ref oh, .ref ox, .int qn, .int qf, .ref op_, .int ql])), (ow, .inl (cI, 108000, .inl fa)), (om, .inl (cI, 9, .inl fb)), (oh, .inl (cI, 10000, .inl fc)), (ok_, .inl (cI, 166400, .inl fd)), (oK, .inl (cI, 64, .inl fe)), (og, .inl (cI, 32, .inl ff)), (on_, .inl (cI, 32, .inl fg))] := hD
                show W p l e R s m args below meth c H locs _ _ Q (F0 m 153 ls [.int (iZ ((lm (rdN (nmQ (tv a) (bv a * 2 ^ E) * 2 ^ E) (1)) : Int) + (lm (rdD (nmQ (tv a) (bv a * 2 ^ E) * 2 ^ E) (1)) : Int)))])
                have hP9 : va_P D cls0 [(mo, .inr (8, [.int (iZ 0), .int (iZ (np : Int)), .ref ow, .ref om, .ref ok_, .ref oK, .ref og, .ref on_, .ref oh, .ref ox, .int qn, .int qf, .ref op_, .int ql])), (ow, .inl (cI, 108000, .inl fa)), (om, .inl (cI, 9, .inl fb)), (oh, .inl (cI, 10000, .inl fc)), (ok_, .inl (cI, 166400, .inl fd)), (oK, .inl (cI, 64, .inl fe)), (og, .inl (cI, 32, .inl ff)), (on_, .inl (cI, 32, .inl fg))] H := hP.sub [0, 1, 2, 3, 4, 5, 6, 7] rfl
                have hD9 : va_D A [(mo, .inr (8, [.int (iZ 0), .int (iZ (np : Int)), .ref ow, .ref om, .ref ok_, .ref oK, .ref og, .ref on_, .ref oh, .ref ox, .int qn, .int qf, .ref op_, .int ql])), (ow, .inl (cI, 108000, .inl fa)), (om, .inl (cI, 9, .inl fb)), (oh, .inl (cI, 10000, .inl fc)), (ok_, .inl (cI, 166400, .inl fd)), (oK, .inl (cI, 64, .inl fe)), (og, .inl (cI, 32, .inl ff)), (on_, .inl (cI, 32, .inl fg))] := hD.sub [0, 1, 2, 3, 4, 5, 6, 7] (by decide) rfl
                rw [hQ, ← hAe]
                refine r_i (v := (iZ ((lm (rdN (nmQ (tv a) (bv a * 2 ^ E) * 2 ^ E) (1)) : Int) + (lm (rdD (nmQ (tv a) (bv a * 2 ^ E) * 2 ^ E) (1)) : Int)))) K (fa, fb, fc, fd, fe, ff, fg, v9) hS d_Mo_round_153 ?_ (fun t ht hv => ?_)
                · exact ⟨rfl, w9, q9⟩
                · exact ⟨by rw [ht]; exact hP9, va_K.moved hv hK, by rw [← hAe]; exact hD9⟩
          · refine lv_iconst (v := iZ (0)) hx hb d_Mo_round_105 (by decide +kernel) ?_
            refine lv_goto (tgt := 110) hx hb d_Mo_round_106 (by decide) ?_
            refine lv_iload hx hb d_Mo_round_110 (lv_at hl 0 rfl) ?_
            refine zz_if_ge (tgt := 121) hx hb d_Mo_round_112 (by decide) (by omega) (fun c112 => ?_) (fun c112 => ?_)
            · refine lv_iload hx hb d_Mo_round_121 (lv_at hl 0 rfl) ?_
              rw [show ((bl (tv a) : Int) - (bl (bv a) : Int) - (pb : Int) + (pb : Int) : Int) = ((bl (bv a) - bl (tv a) : Nat) : Int) by omega]
              refine cv (n := 2) (wr := [(og, .inl (cI, 32, .inl fs)), (on_, .inl (cI, 32, .inl fn)), (ok_, .inl (cI, 166400, .inl fk)), (oK, .inl (cI, 64, .inl fK)), (oh, .inl (cI, 10000, .inl fh4))]) (w1 := (fun (u : (Nat → Int32) × (Nat → Int32)) => [(mo, .inr (8, [.int (iZ 0), .int (iZ (np : Int)), .ref ow, .ref om, .ref ok_, .ref oK, .ref og, .ref on_, .ref oh, .ref ox, .int qn, .int qf, .ref op_, .int ql])), (ow, .inl (cI, 108000, .inl u.1)), (om, .inl (cI, 9, .inl u.2))])) (As := [.int (iZ 0), .int (iZ ((bl (bv a) - bl (tv a) : Nat) : Int))]) (rest := []) K hP hD hK hS hA hl.1 (c_Mo_doubled l D mo (iZ 0) np ow om ok_ oK og on_ oh ox qn qf op_ ql fx4 fy4 cI v4 0 (bl (bv a) - bl (tv a)) H.size w4 (by decide) (by omega) (by rw [z40]; have z := nd_shl (tv a) (bl (bv a) - bl (tv a)); omega)) [4, 5, 6] [0, 1, 2, 3, 7] [0] rfl rfl rfl (by decide) (by decide) (by decide) 0 rfl rfl (big_in mw_1320 rfl) (big_in mw_10 rfl) (big_in mw_1317 rfl) (big_in mw_1319 rfl) (big_in sp_42 rfl) rfl rfl (by decide +kernel) ⟨by rw [hR]; exact Nat.le_of_ble_eq_true rfl, by rw [hR]; exact Nat.le_of_ble_eq_true rfl⟩ rfl (Nat.le_of_ble_eq_true rfl) d_Mo_round_123 ⟨by rw [hR]; exact Nat.le_of_ble_eq_true rfl, by rw [hR]; exact Nat.le_of_ble_eq_true rfl⟩ rfl (fun v u H locs hp16 hP hD hS _ => ?_)
              obtain ⟨fx5, fy5⟩ := u
              try dsimp only at hp16
              obtain ⟨rfl, w5⟩ := hp16
              have hP : va_P D cls0 [(og, .inl (cI, 32, .inl fs)), (on_, .inl (cI, 32, .inl fn)), (ok_, .inl (cI, 166400, .inl fk)), (oK, .inl (cI, 64, .inl fK)), (oh, .inl (cI, 10000, .inl fh4)), (mo, .inr (8, [.int (iZ 0), .int (iZ (np : Int)), .ref ow, .ref om, .ref ok_, .ref oK, .ref og, .ref on_, .ref oh, .ref ox, .int qn, .int qf, .ref op_, .int ql])), (ow, .inl (cI, 108000, .inl fx5)), (om, .inl (cI, 9, .inl fy5))] H := hP
              have hD : va_D A [(og, .inl (cI, 32, .inl fs)), (on_, .inl (cI, 32, .inl fn)), (ok_, .inl (cI, 166400, .inl fk)), (oK, .inl (cI, 64, .inl fK)), (oh, .inl (cI, 10000, .inl fh4)), (mo, .inr (8, [.int (iZ 0), .int (iZ (np : Int)), .ref ow, .ref om, .ref ok_, .ref oK, .ref og, .ref on_, .ref oh, .ref ox, .int qn, .int qf, .ref op_, .int ql])), (ow, .inl (cI, 108000, .inl fx5)), (om, .inl (cI, 9, .inl fy5))] := hD
              show W p l e R s m args below meth c H locs _ _ Q (F0 m 126 ls [])
              rw [z40] at w5
              obtain ⟨v5, hv5⟩ : ∃ z, z = up v4 0 (tv a * 2 ^ (bl (bv a) - bl (tv a))) := ⟨_, rfl⟩
              rw [← hv5] at w5
              have z50 : v5 0 = tv a * 2 ^ (bl (bv a) - bl (tv a)) := by rw [hv5, up_s]
              have z51 : v5 1 = bv a * 2 ^ (bl (tv a) - bl (bv a)) := by rw [hv5, up_n (by decide), z41, show bl (tv a) - bl (bv a) = 0 by omega, Nat.pow_zero, Nat.mul_one]
              refine lv_iload hx hb d_Mo_round_126 (lv_at hl 1 rfl) ?_
              refine lv_aload_n hx hb d_Mo_round_128 rfl (lv_at hl 2 rfl) ?_
              refine lv_iconst (v := iZ (0)) hx hb d_Mo_round_129 (by decide +kernel) ?_
              refine lv_iconst (v := iZ (1)) hx hb d_Mo_round_130 (by decide +kernel) ?_
              refine cv (n := 2) (wr := [(og, .inl (cI, 32, .inl fs)), (on_, .inl (cI, 32, .inl fn)), (ok_, .inl (cI, 166400, .inl fk)), (oK, .inl (cI, 64, .inl fK)), (oh, .inl (cI, 10000, .inl fh4))]) (w1 := (fun (u : Int) => [(mo, .inr (8, [.int (iZ 0), .int (iZ (np : Int)), .ref ow, .ref om, .ref ok_, .ref oK, .ref og, .ref on_, .ref oh, .ref ox, .int qn, .int qf, .ref op_, .int ql])), (ow, .inl (cI, 108000, .inl fx5)), (om, .inl (cI, 9, .inl fy5))])) (As := [.int (iZ 0), .int (iZ 1)]) (rest := [.int (iZ ((bl (tv a) : Int) - (bl (bv a) : Int) - (pb : Int)))]) K hP hD hK hS hA hl.1 (c_Mo_order l D mo (iZ 0) np ow om ok_ oK og on_ oh ox qn qf op_ ql fx5 fy5 cI v5 0 1 H.size w5 (by omega) (by omega)) [5, 6, 7] [0, 1, 2, 3, 4] [0] rfl rfl rfl (by decide) (by decide) (by decide) 0 rfl rfl (big_in mw_1270 rfl) (big_in mw_10 rfl) (big_in mw_1267 rfl) (big_in mw_1269 rfl) (big_in sp_37 rfl) rfl rfl (by decide +kernel) ⟨by rw [hR]; exact Nat.le_of_ble_eq_true rfl, by rw [hR]; exact Nat.le_of_ble_eq_true rfl⟩ rfl (Nat.le_of_ble_eq_true rfl) d_Mo_round_131 ⟨by rw [hR]; exact Nat.le_of_ble_eq_true rfl, by rw [hR]; exact Nat.le_of_ble_eq_true rfl⟩ rfl (fun v u H locs hp17 hP hD hS _ => ?_)
              obtain ⟨rc, rfl⟩ : ∃ z, z = u := ⟨_, rfl⟩
              obtain ⟨rfl, gq⟩ := hp17
              have hP : va_P D cls0 [(og, .inl (cI, 32, .inl fs)), (on_, .inl (cI, 32, .inl fn)), (ok_, .inl (cI, 166400, .inl fk)), (oK, .inl (cI, 64, .inl fK)), (oh, .inl (cI, 10000, .inl fh4)), (mo, .inr (8, [.int (iZ 0), .int (iZ (np : Int)), .ref ow, .ref om, .ref ok_, .ref oK, .ref og, .ref on_, .ref oh, .ref ox, .int qn, .int qf, .ref op_, .int ql])), (ow, .inl (cI, 108000, .inl fx5)), (om, .inl (cI, 9, .inl fy5))] H := hP
              have hD : va_D A [(og, .inl (cI, 32, .inl fs)), (on_, .inl (cI, 32, .inl fn)), (ok_, .inl (cI, 166400, .inl fk)), (oK, .inl (cI, 64, .inl fK)), (oh, .inl (cI, 10000, .inl fh4)), (mo, .inr (8, [.int (iZ 0), .int (iZ (np : Int)), .ref ow, .ref om, .ref ok_, .ref oK, .ref og, .ref on_, .ref oh, .ref ox, .int qn, .int qf, .ref op_, .int ql])), (ow, .inl (cI, 108000, .inl fx5)), (om, .inl (cI, 9, .inl fy5))] := hD
              show W p l e R s m args below meth c H locs _ _ Q (F0 m 134 ls [.int (iZ rc), .int (iZ ((bl (tv a) : Int) - (bl (bv a) : Int) - (pb : Int)))])
              rw [z50, z51] at gq
              have t0 : (rc < 0 ↔ ((tv a * 2 ^ (bl (bv a) - bl (tv a)) : Nat) : Int) < ((bv a * 2 ^ (bl (tv a) - bl (bv a)) : Nat) : Int)) ∧ (-1 ≤ rc ∧ rc ≤ 1) := by rw [gq]; exact ⟨cmpZ_lt, cmpZ_r _ _⟩
              clear gq
              have xs : (rc < 0 ∧ xE (tv a) (bv a) = (bl (tv a) : Int) - (bl (bv a) : Int) - 1) ∨ (0 ≤ rc ∧ xE (tv a) (bv a) = (bl (tv a) : Int) - (bl (bv a) : Int)) := by unfold xE; by_cases z : tv a * 2 ^ (bl (bv a) - bl (tv a)) < bv a * 2 ^ (bl (tv a) - bl (bv a)); (left; rw [if_pos z]; omega); (right; rw [if_neg z]; omega)
              have trc := t0.2
              clear t0
              refine zz_if_lt (tgt := 141) hx hb d_Mo_round_134 (by decide) (by omega) (fun c134 => ?_) (fun c134 => ?_)
              · refine lv_iconst (v := iZ (0)) hx hb d_Mo_round_141 (by decide +kernel) ?_
                refine zz_iadd hx hb d_Mo_round_142 ?_
                refine lv_istore (lv' := [(4, .int (iZ ((bl (tv a) : Int) - (bl (bv a) : Int) - (pb : Int) + 0))), (5, .int (iZ ((bl (tv a) : Int) - (bl (bv a) : Int) - (pb : Int) + (pb : Int)))), (0, .ref mo), (1, .int (iZ (to : Int))), (2, .int (iZ (a : Int))), (3, .int (iZ (pb : Int)))]) hx hb d_Mo_round_143 hl (by decide) rfl (fun ls hl => ?_)
                refine lv_aload_n hx hb d_Mo_round_145 rfl (lv_at hl 2 rfl) ?_
                refine lv_iload_n hx hb d_Mo_round_146 rfl (lv_at hl 3 rfl) ?_
                refine lv_iload_n hx hb d_Mo_round_147 rfl (lv_at hl 4 rfl) ?_
                refine lv_iload hx hb d_Mo_round_148 (lv_at hl 0 rfl) ?_
                rw [show ((bl (tv a) : Int) - (bl (bv a) : Int) - (pb : Int) + 0 : Int) = (E : Int) by omega]
                refine cv (n := 3) (wr := []) (w1 := (fun (u : (Nat → Int32) × (Nat → Int32) × (Nat → Int32) × (Nat → Int32) × (Nat → Int32) × (Nat → Int32) × (Nat → Int32) × (Nat → Nat)) => [(mo, .inr (8, [.int (iZ 0), .int (iZ (np : Int)), .ref ow, .ref om, .ref ok_, .ref oK, .ref og, .ref on_, .ref oh, .ref ox, .int qn, .int qf, .ref op_, .int ql])), (ow, .inl (cI, 108000, .inl u.1)), (om, .inl (cI, 9, .inl u.2.1)), (oh, .inl (cI, 10000, .inl u.2.2.1)), (ok_, .inl (cI, 166400, .inl u.2.2.2.1)), (oK, .inl (cI, 64, .inl u.2.2.2.2.1)), (og, .inl (cI, 32, .inl u.2.2.2.2.2.1)), (on_, .inl (cI, 32, .inl u.2.2.2.2.2.2.1))])) (As := [.int (iZ (to : Int)), .int (iZ (a : Int)), .int (iZ (E : Int))]) (rest := []) K hP hD hK hS hA hl.1 (c_Mo_multipleUp l D mo (iZ 0) np ow om ok_ oK og on_ oh ox qn qf op_ ql fx5 fy5 cI fh4 fk fK fs fn v5 tv bv sg to a E H.size w5 hMR hnd hnp J hbv t1 t2 hE hfit) [5, 6, 7, 4, 2, 3, 0, 1] [] [0] rfl rfl rfl (by decide) (by decide) (by decide) 0 rfl rfl (big_in mw_1329 rfl) (big_in mw_10 rfl) (big_in mw_1326 rfl) (big_in mw_1328 rfl) (big_in sp_44 rfl) rfl rfl (by decide +kernel) ⟨by rw [hR]; exact Nat.le_of_ble_eq_true rfl, by rw [hR]; exact Nat.le_of_ble_eq_true rfl⟩ rfl (Nat.le_of_ble_eq_true rfl) d_Mo_round_150 ⟨by rw [hR]; exact Nat.le_of_ble_eq_true rfl, by rw [hR]; exact Nat.le_of_ble_eq_true rfl⟩ rfl (fun v u H locs hp18 hP hD hS _ => ?_)
                obtain ⟨fa, fb, fc, fd, fe, ff, fg, v9⟩ := u
                try dsimp only at hp18
                obtain ⟨rfl, w9, q9⟩ := hp18
                have hP : va_P D cls0 [(mo, .inr (8, [.int (iZ 0), .int (iZ (np : Int)), .ref ow, .ref om, .ref ok_, .ref oK, .ref og, .ref on_, .ref oh, .ref ox, .int qn, .int qf, .ref op_, .int ql])), (ow, .inl (cI, 108000, .inl fa)), (om, .inl (cI, 9, .inl fb)), (oh, .inl (cI, 10000, .inl fc)), (ok_, .inl (cI, 166400, .inl fd)), (oK, .inl (cI, 64, .inl fe)), (og, .inl (cI, 32, .inl ff)), (on_, .inl (cI, 32, .inl fg))] H := hP
                have hD : va_D A [(mo, .inr (8, [.int (iZ 0), .int (iZ (np : Int)), .ref ow, .ref om, .ref ok_, .ref oK, .ref og, .ref on_, .ref oh, .ref ox, .int qn, .int qf, .ref op_, .int ql])), (ow, .inl (cI, 108000, .inl fa)), (om, .inl (cI, 9, .inl fb)), (oh, .inl (cI, 10000, .inl fc)), (ok_, .inl (cI, 166400, .inl fd)), (oK, .inl (cI, 64, .inl fe)), (og, .inl (cI, 32, .inl ff)), (on_, .inl (cI, 32, .inl fg))] := hD
                show W p l e R s m args below meth c H locs _ _ Q (F0 m 153 ls [.int (iZ ((lm (rdN (nmQ (tv a) (bv a * 2 ^ E) * 2 ^ E) (1)) : Int) + (lm (rdD (nmQ (tv a) (bv a * 2 ^ E) * 2 ^ E) (1)) : Int)))])
                have hP9 : va_P D cls0 [(mo, .inr (8, [.int (iZ 0), .int (iZ (np : Int)), .ref ow, .ref om, .ref ok_, .ref oK, .ref og, .ref on_, .ref oh, .ref ox, .int qn, .int qf, .ref op_, .int ql])), (ow, .inl (cI, 108000, .inl fa)), (om, .inl (cI, 9, .inl fb)), (oh, .inl (cI, 10000, .inl fc)), (ok_, .inl (cI, 166400, .inl fd)), (oK, .inl (cI, 64, .inl fe)), (og, .inl (cI, 32, .inl ff)), (on_, .inl (cI, 32, .inl fg))] H := hP.sub [0, 1, 2, 3, 4, 5, 6, 7] rfl
                have hD9 : va_D A [(mo, .inr (8, [.int (iZ 0), .int (iZ (np : Int)), .ref ow, .ref om, .ref ok_, .ref oK, .ref og, .ref on_, .ref oh, .ref ox, .int qn, .int qf, .ref op_, .int ql])), (ow, .inl (cI, 108000, .inl fa)), (om, .inl (cI, 9, .inl fb)), (oh, .inl (cI, 10000, .inl fc)), (ok_, .inl (cI, 166400, .inl fd)), (oK, .inl (cI, 64, .inl fe)), (og, .inl (cI, 32, .inl ff)), (on_, .inl (cI, 32, .inl fg))] := hD.sub [0, 1, 2, 3, 4, 5, 6, 7] (by decide) rfl
                rw [hQ, ← hAe]
                refine r_i (v := (iZ ((lm (rdN (nmQ (tv a) (bv a * 2 ^ E) * 2 ^ E) (1)) : Int) + (lm (rdD (nmQ (tv a) (bv a * 2 ^ E) * 2 ^ E) (1)) : Int)))) K (fa, fb, fc, fd, fe, ff, fg, v9) hS d_Mo_round_153 ?_ (fun t ht hv => ?_)
                · exact ⟨rfl, w9, q9⟩
                · exact ⟨by rw [ht]; exact hP9, va_K.moved hv hK, by rw [← hAe]; exact hD9⟩
              · refine lv_iconst (v := iZ (1)) hx hb d_Mo_round_137 (by decide +kernel) ?_
                refine lv_goto (tgt := 142) hx hb d_Mo_round_138 (by decide) ?_
                refine zz_iadd hx hb d_Mo_round_142 ?_
                refine lv_istore (lv' := [(4, .int (iZ ((bl (tv a) : Int) - (bl (bv a) : Int) - (pb : Int) + 1))), (5, .int (iZ ((bl (tv a) : Int) - (bl (bv a) : Int) - (pb : Int) + (pb : Int)))), (0, .ref mo), (1, .int (iZ (to : Int))), (2, .int (iZ (a : Int))), (3, .int (iZ (pb : Int)))]) hx hb d_Mo_round_143 hl (by decide) rfl (fun ls hl => ?_)
                refine lv_aload_n hx hb d_Mo_round_145 rfl (lv_at hl 2 rfl) ?_
                refine lv_iload_n hx hb d_Mo_round_146 rfl (lv_at hl 3 rfl) ?_
                refine lv_iload_n hx hb d_Mo_round_147 rfl (lv_at hl 4 rfl) ?_
                refine lv_iload hx hb d_Mo_round_148 (lv_at hl 0 rfl) ?_
                rw [show ((bl (tv a) : Int) - (bl (bv a) : Int) - (pb : Int) + 1 : Int) = (E : Int) by omega]
                refine cv (n := 3) (wr := []) (w1 := (fun (u : (Nat → Int32) × (Nat → Int32) × (Nat → Int32) × (Nat → Int32) × (Nat → Int32) × (Nat → Int32) × (Nat → Int32) × (Nat → Nat)) => [(mo, .inr (8, [.int (iZ 0), .int (iZ (np : Int)), .ref ow, .ref om, .ref ok_, .ref oK, .ref og, .ref on_, .ref oh, .ref ox, .int qn, .int qf, .ref op_, .int ql])), (ow, .inl (cI, 108000, .inl u.1)), (om, .inl (cI, 9, .inl u.2.1)), (oh, .inl (cI, 10000, .inl u.2.2.1)), (ok_, .inl (cI, 166400, .inl u.2.2.2.1)), (oK, .inl (cI, 64, .inl u.2.2.2.2.1)), (og, .inl (cI, 32, .inl u.2.2.2.2.2.1)), (on_, .inl (cI, 32, .inl u.2.2.2.2.2.2.1))])) (As := [.int (iZ (to : Int)), .int (iZ (a : Int)), .int (iZ (E : Int))]) (rest := []) K hP hD hK hS hA hl.1 (c_Mo_multipleUp l D mo (iZ 0) np ow om ok_ oK og on_ oh ox qn qf op_ ql fx5 fy5 cI fh4 fk fK fs fn v5 tv bv sg to a E H.size w5 hMR hnd hnp J hbv t1 t2 hE hfit) [5, 6, 7, 4, 2, 3, 0, 1] [] [0] rfl rfl rfl (by decide) (by decide) (by decide) 0 rfl rfl (big_in mw_1329 rfl) (big_in mw_10 rfl) (big_in mw_1326 rfl) (big_in mw_1328 rfl) (big_in sp_44 rfl) rfl rfl (by decide +kernel) ⟨by rw [hR]; exact Nat.le_of_ble_eq_true rfl, by rw [hR]; exact Nat.le_of_ble_eq_true rfl⟩ rfl (Nat.le_of_ble_eq_true rfl) d_Mo_round_150 ⟨by rw [hR]; exact Nat.le_of_ble_eq_true rfl, by rw [hR]; exact Nat.le_of_ble_eq_true rfl⟩ rfl (fun v u H locs hp19 hP hD hS _ => ?_)
                obtain ⟨fa, fb, fc, fd, fe, ff, fg, v9⟩ := u
                try dsimp only at hp19
                obtain ⟨rfl, w9, q9⟩ := hp19
                have hP : va_P D cls0 [(mo, .inr (8, [.int (iZ 0), .int (iZ (np : Int)), .ref ow, .ref om, .ref ok_, .ref oK, .ref og, .ref on_, .ref oh, .ref ox, .int qn, .int qf, .ref op_, .int ql])), (ow, .inl (cI, 108000, .inl fa)), (om, .inl (cI, 9, .inl fb)), (oh, .inl (cI, 10000, .inl fc)), (ok_, .inl (cI, 166400, .inl fd)), (oK, .inl (cI, 64, .inl fe)), (og, .inl (cI, 32, .inl ff)), (on_, .inl (cI, 32, .inl fg))] H := hP
                have hD : va_D A [(mo, .inr (8, [.int (iZ 0), .int (iZ (np : Int)), .ref ow, .ref om, .ref ok_, .ref oK, .ref og, .ref on_, .ref oh, .ref ox, .int qn, .int qf, .ref op_, .int ql])), (ow, .inl (cI, 108000, .inl fa)), (om, .inl (cI, 9, .inl fb)), (oh, .inl (cI, 10000, .inl fc)), (ok_, .inl (cI, 166400, .inl fd)), (oK, .inl (cI, 64, .inl fe)), (og, .inl (cI, 32, .inl ff)), (on_, .inl (cI, 32, .inl fg))] := hD
                show W p l e R s m args below meth c H locs _ _ Q (F0 m 153 ls [.int (iZ ((lm (rdN (nmQ (tv a) (bv a * 2 ^ E) * 2 ^ E) (1)) : Int) + (lm (rdD (nmQ (tv a) (bv a * 2 ^ E) * 2 ^ E) (1)) : Int)))])
                have hP9 : va_P D cls0 [(mo, .inr (8, [.int (iZ 0), .int (iZ (np : Int)), .ref ow, .ref om, .ref ok_, .ref oK, .ref og, .ref on_, .ref oh, .ref ox, .int qn, .int qf, .ref op_, .int ql])), (ow, .inl (cI, 108000, .inl fa)), (om, .inl (cI, 9, .inl fb)), (oh, .inl (cI, 10000, .inl fc)), (ok_, .inl (cI, 166400, .inl fd)), (oK, .inl (cI, 64, .inl fe)), (og, .inl (cI, 32, .inl ff)), (on_, .inl (cI, 32, .inl fg))] H := hP.sub [0, 1, 2, 3, 4, 5, 6, 7] rfl
                have hD9 : va_D A [(mo, .inr (8, [.int (iZ 0), .int (iZ (np : Int)), .ref ow, .ref om, .ref ok_, .ref oK, .ref og, .ref on_, .ref oh, .ref ox, .int qn, .int qf, .ref op_, .int ql])), (ow, .inl (cI, 108000, .inl fa)), (om, .inl (cI, 9, .inl fb)), (oh, .inl (cI, 10000, .inl fc)), (ok_, .inl (cI, 166400, .inl fd)), (oK, .inl (cI, 64, .inl fe)), (og, .inl (cI, 32, .inl ff)), (on_, .inl (cI, 32, .inl fg))] := hD.sub [0, 1, 2, 3, 4, 5, 6, 7] (by decide) rfl
                rw [hQ, ← hAe]
                refine r_i (v := (iZ ((lm (rdN (nmQ (tv a) (bv a * 2 ^ E) * 2 ^ E) (1)) : Int) + (lm (rdD (nmQ (tv a) (bv a * 2 ^ E) * 2 ^ E) (1)) : Int)))) K (fa, fb, fc, fd, fe, ff, fg, v9) hS d_Mo_round_153 ?_ (fun t ht hv => ?_)
                · exact ⟨rfl, w9, q9⟩
                · exact ⟨by rw [ht]; exact hP9, va_K.moved hv hK, by rw [← hAe]; exact hD9⟩
            · refine lv_iload hx hb d_Mo_round_115 (lv_at hl 0 rfl) ?_
              refine zz_ineg hx hb d_Mo_round_117 ?_
              refine lv_goto (tgt := 123) hx hb d_Mo_round_118 (by decide) ?_
              rw [show (-((bl (tv a) : Int) - (bl (bv a) : Int) - (pb : Int) + (pb : Int)) : Int) = ((bl (bv a) - bl (tv a) : Nat) : Int) by omega]
              refine cv (n := 2) (wr := [(og, .inl (cI, 32, .inl fs)), (on_, .inl (cI, 32, .inl fn)), (ok_, .inl (cI, 166400, .inl fk)), (oK, .inl (cI, 64, .inl fK)), (oh, .inl (cI, 10000, .inl fh4))]) (w1 := (fun (u : (Nat → Int32) × (Nat → Int32)) => [(mo, .inr (8, [.int (iZ 0), .int (iZ (np : Int)), .ref ow, .ref om, .ref ok_, .ref oK, .ref og, .ref on_, .ref oh, .ref ox, .int qn, .int qf, .ref op_, .int ql])), (ow, .inl (cI, 108000, .inl u.1)), (om, .inl (cI, 9, .inl u.2))])) (As := [.int (iZ 0), .int (iZ ((bl (bv a) - bl (tv a) : Nat) : Int))]) (rest := []) K hP hD hK hS hA hl.1 (c_Mo_doubled l D mo (iZ 0) np ow om ok_ oK og on_ oh ox qn qf op_ ql fx4 fy4 cI v4 0 (bl (bv a) - bl (tv a)) H.size w4 (by decide) (by omega) (by rw [z40]; have z := nd_shl (tv a) (bl (bv a) - bl (tv a)); omega)) [4, 5, 6] [0, 1, 2, 3, 7] [0] rfl rfl rfl (by decide) (by decide) (by decide) 0 rfl rfl (big_in mw_1320 rfl) (big_in mw_10 rfl) (big_in mw_1317 rfl) (big_in mw_1319 rfl) (big_in sp_42 rfl) rfl rfl (by decide +kernel) ⟨by rw [hR]; exact Nat.le_of_ble_eq_true rfl, by rw [hR]; exact Nat.le_of_ble_eq_true rfl⟩ rfl (Nat.le_of_ble_eq_true rfl) d_Mo_round_123 ⟨by rw [hR]; exact Nat.le_of_ble_eq_true rfl, by rw [hR]; exact Nat.le_of_ble_eq_true rfl⟩ rfl (fun v u H locs hp20 hP hD hS _ => ?_)
              obtain ⟨fx5, fy5⟩ := u
              try dsimp only at hp20
              obtain ⟨rfl, w5⟩ := hp20
              have hP : va_P D cls0 [(og, .inl (cI, 32, .inl fs)), (on_, .inl (cI, 32, .inl fn)), (ok_, .inl (cI, 166400, .inl fk)), (oK, .inl (cI, 64, .inl fK)), (oh, .inl (cI, 10000, .inl fh4)), (mo, .inr (8, [.int (iZ 0), .int (iZ (np : Int)), .ref ow, .ref om, .ref ok_, .ref oK, .ref og, .ref on_, .ref oh, .ref ox, .int qn, .int qf, .ref op_, .int ql])), (ow, .inl (cI, 108000, .inl fx5)), (om, .inl (cI, 9, .inl fy5))] H := hP
              have hD : va_D A [(og, .inl (cI, 32, .inl fs)), (on_, .inl (cI, 32, .inl fn)), (ok_, .inl (cI, 166400, .inl fk)), (oK, .inl (cI, 64, .inl fK)), (oh, .inl (cI, 10000, .inl fh4)), (mo, .inr (8, [.int (iZ 0), .int (iZ (np : Int)), .ref ow, .ref om, .ref ok_, .ref oK, .ref og, .ref on_, .ref oh, .ref ox, .int qn, .int qf, .ref op_, .int ql])), (ow, .inl (cI, 108000, .inl fx5)), (om, .inl (cI, 9, .inl fy5))] := hD
              show W p l e R s m args below meth c H locs _ _ Q (F0 m 126 ls [])
              rw [z40] at w5
              obtain ⟨v5, hv5⟩ : ∃ z, z = up v4 0 (tv a * 2 ^ (bl (bv a) - bl (tv a))) := ⟨_, rfl⟩
              rw [← hv5] at w5
              have z50 : v5 0 = tv a * 2 ^ (bl (bv a) - bl (tv a)) := by rw [hv5, up_s]
              have z51 : v5 1 = bv a * 2 ^ (bl (tv a) - bl (bv a)) := by rw [hv5, up_n (by decide), z41, show bl (tv a) - bl (bv a) = 0 by omega, Nat.pow_zero, Nat.mul_one]
              refine lv_iload hx hb d_Mo_round_126 (lv_at hl 1 rfl) ?_
              refine lv_aload_n hx hb d_Mo_round_128 rfl (lv_at hl 2 rfl) ?_
              refine lv_iconst (v := iZ (0)) hx hb d_Mo_round_129 (by decide +kernel) ?_
              refine lv_iconst (v := iZ (1)) hx hb d_Mo_round_130 (by decide +kernel) ?_
              refine cv (n := 2) (wr := [(og, .inl (cI, 32, .inl fs)), (on_, .inl (cI, 32, .inl fn)), (ok_, .inl (cI, 166400, .inl fk)), (oK, .inl (cI, 64, .inl fK)), (oh, .inl (cI, 10000, .inl fh4))]) (w1 := (fun (u : Int) => [(mo, .inr (8, [.int (iZ 0), .int (iZ (np : Int)), .ref ow, .ref om, .ref ok_, .ref oK, .ref og, .ref on_, .ref oh, .ref ox, .int qn, .int qf, .ref op_, .int ql])), (ow, .inl (cI, 108000, .inl fx5)), (om, .inl (cI, 9, .inl fy5))])) (As := [.int (iZ 0), .int (iZ 1)]) (rest := [.int (iZ ((bl (tv a) : Int) - (bl (bv a) : Int) - (pb : Int)))]) K hP hD hK hS hA hl.1 (c_Mo_order l D mo (iZ 0) np ow om ok_ oK og on_ oh ox qn qf op_ ql fx5 fy5 cI v5 0 1 H.size w5 (by omega) (by omega)) [5, 6, 7] [0, 1, 2, 3, 4] [0] rfl rfl rfl (by decide) (by decide) (by decide) 0 rfl rfl (big_in mw_1270 rfl) (big_in mw_10 rfl) (big_in mw_1267 rfl) (big_in mw_1269 rfl) (big_in sp_37 rfl) rfl rfl (by decide +kernel) ⟨by rw [hR]; exact Nat.le_of_ble_eq_true rfl, by rw [hR]; exact Nat.le_of_ble_eq_true rfl⟩ rfl (Nat.le_of_ble_eq_true rfl) d_Mo_round_131 ⟨by rw [hR]; exact Nat.le_of_ble_eq_true rfl, by rw [hR]; exact Nat.le_of_ble_eq_true rfl⟩ rfl (fun v u H locs hp21 hP hD hS _ => ?_)
              obtain ⟨rc, rfl⟩ : ∃ z, z = u := ⟨_, rfl⟩
              obtain ⟨rfl, gq⟩ := hp21
              have hP : va_P D cls0 [(og, .inl (cI, 32, .inl fs)), (on_, .inl (cI, 32, .inl fn)), (ok_, .inl (cI, 166400, .inl fk)), (oK, .inl (cI, 64, .inl fK)), (oh, .inl (cI, 10000, .inl fh4)), (mo, .inr (8, [.int (iZ 0), .int (iZ (np : Int)), .ref ow, .ref om, .ref ok_, .ref oK, .ref og, .ref on_, .ref oh, .ref ox, .int qn, .int qf, .ref op_, .int ql])), (ow, .inl (cI, 108000, .inl fx5)), (om, .inl (cI, 9, .inl fy5))] H := hP
              have hD : va_D A [(og, .inl (cI, 32, .inl fs)), (on_, .inl (cI, 32, .inl fn)), (ok_, .inl (cI, 166400, .inl fk)), (oK, .inl (cI, 64, .inl fK)), (oh, .inl (cI, 10000, .inl fh4)), (mo, .inr (8, [.int (iZ 0), .int (iZ (np : Int)), .ref ow, .ref om, .ref ok_, .ref oK, .ref og, .ref on_, .ref oh, .ref ox, .int qn, .int qf, .ref op_, .int ql])), (ow, .inl (cI, 108000, .inl fx5)), (om, .inl (cI, 9, .inl fy5))] := hD
              show W p l e R s m args below meth c H locs _ _ Q (F0 m 134 ls [.int (iZ rc), .int (iZ ((bl (tv a) : Int) - (bl (bv a) : Int) - (pb : Int)))])
              rw [z50, z51] at gq
              have t0 : (rc < 0 ↔ ((tv a * 2 ^ (bl (bv a) - bl (tv a)) : Nat) : Int) < ((bv a * 2 ^ (bl (tv a) - bl (bv a)) : Nat) : Int)) ∧ (-1 ≤ rc ∧ rc ≤ 1) := by rw [gq]; exact ⟨cmpZ_lt, cmpZ_r _ _⟩
              clear gq
              have xs : (rc < 0 ∧ xE (tv a) (bv a) = (bl (tv a) : Int) - (bl (bv a) : Int) - 1) ∨ (0 ≤ rc ∧ xE (tv a) (bv a) = (bl (tv a) : Int) - (bl (bv a) : Int)) := by unfold xE; by_cases z : tv a * 2 ^ (bl (bv a) - bl (tv a)) < bv a * 2 ^ (bl (tv a) - bl (bv a)); (left; rw [if_pos z]; omega); (right; rw [if_neg z]; omega)
              have trc := t0.2
              clear t0
              refine zz_if_lt (tgt := 141) hx hb d_Mo_round_134 (by decide) (by omega) (fun c134 => ?_) (fun c134 => ?_)
              · refine lv_iconst (v := iZ (0)) hx hb d_Mo_round_141 (by decide +kernel) ?_
                refine zz_iadd hx hb d_Mo_round_142 ?_
                refine lv_istore (lv' := [(4, .int (iZ ((bl (tv a) : Int) - (bl (bv a) : Int) - (pb : Int) + 0))), (5, .int (iZ ((bl (tv a) : Int) - (bl (bv a) : Int) - (pb : Int) + (pb : Int)))), (0, .ref mo), (1, .int (iZ (to : Int))), (2, .int (iZ (a : Int))), (3, .int (iZ (pb : Int)))]) hx hb d_Mo_round_143 hl (by decide) rfl (fun ls hl => ?_)
                refine lv_aload_n hx hb d_Mo_round_145 rfl (lv_at hl 2 rfl) ?_
                refine lv_iload_n hx hb d_Mo_round_146 rfl (lv_at hl 3 rfl) ?_
                refine lv_iload_n hx hb d_Mo_round_147 rfl (lv_at hl 4 rfl) ?_
                refine lv_iload hx hb d_Mo_round_148 (lv_at hl 0 rfl) ?_
                rw [show ((bl (tv a) : Int) - (bl (bv a) : Int) - (pb : Int) + 0 : Int) = (E : Int) by omega]
                refine cv (n := 3) (wr := []) (w1 := (fun (u : (Nat → Int32) × (Nat → Int32) × (Nat → Int32) × (Nat → Int32) × (Nat → Int32) × (Nat → Int32) × (Nat → Int32) × (Nat → Nat)) => [(mo, .inr (8, [.int (iZ 0), .int (iZ (np : Int)), .ref ow, .ref om, .ref ok_, .ref oK, .ref og, .ref on_, .ref oh, .ref ox, .int qn, .int qf, .ref op_, .int ql])), (ow, .inl (cI, 108000, .inl u.1)), (om, .inl (cI, 9, .inl u.2.1)), (oh, .inl (cI, 10000, .inl u.2.2.1)), (ok_, .inl (cI, 166400, .inl u.2.2.2.1)), (oK, .inl (cI, 64, .inl u.2.2.2.2.1)), (og, .inl (cI, 32, .inl u.2.2.2.2.2.1)), (on_, .inl (cI, 32, .inl u.2.2.2.2.2.2.1))])) (As := [.int (iZ (to : Int)), .int (iZ (a : Int)), .int (iZ (E : Int))]) (rest := []) K hP hD hK hS hA hl.1 (c_Mo_multipleUp l D mo (iZ 0) np ow om ok_ oK og on_ oh ox qn qf op_ ql fx5 fy5 cI fh4 fk fK fs fn v5 tv bv sg to a E H.size w5 hMR hnd hnp J hbv t1 t2 hE hfit) [5, 6, 7, 4, 2, 3, 0, 1] [] [0] rfl rfl rfl (by decide) (by decide) (by decide) 0 rfl rfl (big_in mw_1329 rfl) (big_in mw_10 rfl) (big_in mw_1326 rfl) (big_in mw_1328 rfl) (big_in sp_44 rfl) rfl rfl (by decide +kernel) ⟨by rw [hR]; exact Nat.le_of_ble_eq_true rfl, by rw [hR]; exact Nat.le_of_ble_eq_true rfl⟩ rfl (Nat.le_of_ble_eq_true rfl) d_Mo_round_150 ⟨by rw [hR]; exact Nat.le_of_ble_eq_true rfl, by rw [hR]; exact Nat.le_of_ble_eq_true rfl⟩ rfl (fun v u H locs hp22 hP hD hS _ => ?_)
                obtain ⟨fa, fb, fc, fd, fe, ff, fg, v9⟩ := u
                try dsimp only at hp22
                obtain ⟨rfl, w9, q9⟩ := hp22
                have hP : va_P D cls0 [(mo, .inr (8, [.int (iZ 0), .int (iZ (np : Int)), .ref ow, .ref om, .ref ok_, .ref oK, .ref og, .ref on_, .ref oh, .ref ox, .int qn, .int qf, .ref op_, .int ql])), (ow, .inl (cI, 108000, .inl fa)), (om, .inl (cI, 9, .inl fb)), (oh, .inl (cI, 10000, .inl fc)), (ok_, .inl (cI, 166400, .inl fd)), (oK, .inl (cI, 64, .inl fe)), (og, .inl (cI, 32, .inl ff)), (on_, .inl (cI, 32, .inl fg))] H := hP
                have hD : va_D A [(mo, .inr (8, [.int (iZ 0), .int (iZ (np : Int)), .ref ow, .ref om, .ref ok_, .ref oK, .ref og, .ref on_, .ref oh, .ref ox, .int qn, .int qf, .ref op_, .int ql])), (ow, .inl (cI, 108000, .inl fa)), (om, .inl (cI, 9, .inl fb)), (oh, .inl (cI, 10000, .inl fc)), (ok_, .inl (cI, 166400, .inl fd)), (oK, .inl (cI, 64, .inl fe)), (og, .inl (cI, 32, .inl ff)), (on_, .inl (cI, 32, .inl fg))] := hD
                show W p l e R s m args below meth c H locs _ _ Q (F0 m 153 ls [.int (iZ ((lm (rdN (nmQ (tv a) (bv a * 2 ^ E) * 2 ^ E) (1)) : Int) + (lm (rdD (nmQ (tv a) (bv a * 2 ^ E) * 2 ^ E) (1)) : Int)))])
                have hP9 : va_P D cls0 [(mo, .inr (8, [.int (iZ 0), .int (iZ (np : Int)), .ref ow, .ref om, .ref ok_, .ref oK, .ref og, .ref on_, .ref oh, .ref ox, .int qn, .int qf, .ref op_, .int ql])), (ow, .inl (cI, 108000, .inl fa)), (om, .inl (cI, 9, .inl fb)), (oh, .inl (cI, 10000, .inl fc)), (ok_, .inl (cI, 166400, .inl fd)), (oK, .inl (cI, 64, .inl fe)), (og, .inl (cI, 32, .inl ff)), (on_, .inl (cI, 32, .inl fg))] H := hP.sub [0, 1, 2, 3, 4, 5, 6, 7] rfl
                have hD9 : va_D A [(mo, .inr (8, [.int (iZ 0), .int (iZ (np : Int)), .ref ow, .ref om, .ref ok_, .ref oK, .ref og, .ref on_, .ref oh, .ref ox, .int qn, .int qf, .ref op_, .int ql])), (ow, .inl (cI, 108000, .inl fa)), (om, .inl (cI, 9, .inl fb)), (oh, .inl (cI, 10000, .inl fc)), (ok_, .inl (cI, 166400, .inl fd)), (oK, .inl (cI, 64, .inl fe)), (og, .inl (cI, 32, .inl ff)), (on_, .inl (cI, 32, .inl fg))] := hD.sub [0, 1, 2, 3, 4, 5, 6, 7] (by decide) rfl
                rw [hQ, ← hAe]
                refine r_i (v := (iZ ((lm (rdN (nmQ (tv a) (bv a * 2 ^ E) * 2 ^ E) (1)) : Int) + (lm (rdD (nmQ (tv a) (bv a * 2 ^ E) * 2 ^ E) (1)) : Int)))) K (fa, fb, fc, fd, fe, ff, fg, v9) hS d_Mo_round_153 ?_ (fun t ht hv => ?_)
                · exact ⟨rfl, w9, q9⟩
                · exact ⟨by rw [ht]; exact hP9, va_K.moved hv hK, by rw [← hAe]; exact hD9⟩
              · refine lv_iconst (v := iZ (1)) hx hb d_Mo_round_137 (by decide +kernel) ?_
                refine lv_goto (tgt := 142) hx hb d_Mo_round_138 (by decide) ?_
                refine zz_iadd hx hb d_Mo_round_142 ?_
                refine lv_istore (lv' := [(4, .int (iZ ((bl (tv a) : Int) - (bl (bv a) : Int) - (pb : Int) + 1))), (5, .int (iZ ((bl (tv a) : Int) - (bl (bv a) : Int) - (pb : Int) + (pb : Int)))), (0, .ref mo), (1, .int (iZ (to : Int))), (2, .int (iZ (a : Int))), (3, .int (iZ (pb : Int)))]) hx hb d_Mo_round_143 hl (by decide) rfl (fun ls hl => ?_)
                refine lv_aload_n hx hb d_Mo_round_145 rfl (lv_at hl 2 rfl) ?_
                refine lv_iload_n hx hb d_Mo_round_146 rfl (lv_at hl 3 rfl) ?_
                refine lv_iload_n hx hb d_Mo_round_147 rfl (lv_at hl 4 rfl) ?_
                refine lv_iload hx hb d_Mo_round_148 (lv_at hl 0 rfl) ?_
                rw [show ((bl (tv a) : Int) - (bl (bv a) : Int) - (pb : Int) + 1 : Int) = (E : Int) by omega]
                refine cv (n := 3) (wr := []) (w1 := (fun (u : (Nat → Int32) × (Nat → Int32) × (Nat → Int32) × (Nat → Int32) × (Nat → Int32) × (Nat → Int32) × (Nat → Int32) × (Nat → Nat)) => [(mo, .inr (8, [.int (iZ 0), .int (iZ (np : Int)), .ref ow, .ref om, .ref ok_, .ref oK, .ref og, .ref on_, .ref oh, .ref ox, .int qn, .int qf, .ref op_, .int ql])), (ow, .inl (cI, 108000, .inl u.1)), (om, .inl (cI, 9, .inl u.2.1)), (oh, .inl (cI, 10000, .inl u.2.2.1)), (ok_, .inl (cI, 166400, .inl u.2.2.2.1)), (oK, .inl (cI, 64, .inl u.2.2.2.2.1)), (og, .inl (cI, 32, .inl u.2.2.2.2.2.1)), (on_, .inl (cI, 32, .inl u.2.2.2.2.2.2.1))])) (As := [.int (iZ (to : Int)), .int (iZ (a : Int)), .int (iZ (E : Int))]) (rest := []) K hP hD hK hS hA hl.1 (c_Mo_multipleUp l D mo (iZ 0) np ow om ok_ oK og on_ oh ox qn qf op_ ql fx5 fy5 cI fh4 fk fK fs fn v5 tv bv sg to a E H.size w5 hMR hnd hnp J hbv t1 t2 hE hfit) [5, 6, 7, 4, 2, 3, 0, 1] [] [0] rfl rfl rfl (by decide) (by decide) (by decide) 0 rfl rfl (big_in mw_1329 rfl) (big_in mw_10 rfl) (big_in mw_1326 rfl) (big_in mw_1328 rfl) (big_in sp_44 rfl) rfl rfl (by decide +kernel) ⟨by rw [hR]; exact Nat.le_of_ble_eq_true rfl, by rw [hR]; exact Nat.le_of_ble_eq_true rfl⟩ rfl (Nat.le_of_ble_eq_true rfl) d_Mo_round_150 ⟨by rw [hR]; exact Nat.le_of_ble_eq_true rfl, by rw [hR]; exact Nat.le_of_ble_eq_true rfl⟩ rfl (fun v u H locs hp23 hP hD hS _ => ?_)
                obtain ⟨fa, fb, fc, fd, fe, ff, fg, v9⟩ := u
                try dsimp only at hp23
                obtain ⟨rfl, w9, q9⟩ := hp23
                have hP : va_P D cls0 [(mo, .inr (8, [.int (iZ 0), .int (iZ (np : Int)), .ref ow, .ref om, .ref ok_, .ref oK, .ref og, .ref on_, .ref oh, .ref ox, .int qn, .int qf, .ref op_, .int ql])), (ow, .inl (cI, 108000, .inl fa)), (om, .inl (cI, 9, .inl fb)), (oh, .inl (cI, 10000, .inl fc)), (ok_, .inl (cI, 166400, .inl fd)), (oK, .inl (cI, 64, .inl fe)), (og, .inl (cI, 32, .inl ff)), (on_, .inl (cI, 32, .inl fg))] H := hP
                have hD : va_D A [(mo, .inr (8, [.int (iZ 0), .int (iZ (np : Int)), .ref ow, .ref om, .ref ok_, .ref oK, .ref og, .ref on_, .ref oh, .ref ox, .int qn, .int qf, .ref op_, .int ql])), (ow, .inl (cI, 108000, .inl fa)), (om, .inl (cI, 9, .inl fb)), (oh, .inl (cI, 10000, .inl fc)), (ok_, .inl (cI, 166400, .inl fd)), (oK, .inl (cI, 64, .inl fe)), (og, .inl (cI, 32, .inl ff)), (on_, .inl (cI, 32, .inl fg))] := hD
                show W p l e R s m args below meth c H locs _ _ Q (F0 m 153 ls [.int (iZ ((lm (rdN (nmQ (tv a) (bv a * 2 ^ E) * 2 ^ E) (1)) : Int) + (lm (rdD (nmQ (tv a) (bv a * 2 ^ E) * 2 ^ E) (1)) : Int)))])
                have hP9 : va_P D cls0 [(mo, .inr (8, [.int (iZ 0), .int (iZ (np : Int)), .ref ow, .ref om, .ref ok_, .ref oK, .ref og, .ref on_, .ref oh, .ref ox, .int qn, .int qf, .ref op_, .int ql])), (ow, .inl (cI, 108000, .inl fa)), (om, .inl (cI, 9, .inl fb)), (oh, .inl (cI, 10000, .inl fc)), (ok_, .inl (cI, 166400, .inl fd)), (oK, .inl (cI, 64, .inl fe)), (og, .inl (cI, 32, .inl ff)), (on_, .inl (cI, 32, .inl fg))] H := hP.sub [0, 1, 2, 3, 4, 5, 6, 7] rfl
                have hD9 : va_D A [(mo, .inr (8, [.int (iZ 0), .int (iZ (np : Int)), .ref ow, .ref om, .ref ok_, .ref oK, .ref og, .ref on_, .ref oh, .ref ox, .int qn, .int qf, .ref op_, .int ql])), (ow, .inl (cI, 108000, .inl fa)), (om, .inl (cI, 9, .inl fb)), (oh, .inl (cI, 10000, .inl fc)), (ok_, .inl (cI, 166400, .inl fd)), (oK, .inl (cI, 64, .inl fe)), (og, .inl (cI, 32, .inl ff)), (on_, .inl (cI, 32, .inl fg))] := hD.sub [0, 1, 2, 3, 4, 5, 6, 7] (by decide) rfl
                rw [hQ, ← hAe]
                refine r_i (v := (iZ ((lm (rdN (nmQ (tv a) (bv a * 2 ^ E) * 2 ^ E) (1)) : Int) + (lm (rdD (nmQ (tv a) (bv a * 2 ^ E) * 2 ^ E) (1)) : Int)))) K (fa, fb, fc, fd, fe, ff, fg, v9) hS d_Mo_round_153 ?_ (fun t ht hv => ?_)
                · exact ⟨rfl, w9, q9⟩
                · exact ⟨by rw [ht]; exact hP9, va_K.moved hv hK, by rw [← hAe]; exact hD9⟩
        · refine lv_iconst (v := iZ (2)) hx hb d_Mo_round_31 (by decide +kernel) ?_
          refine lv_goto (tgt := 36) hx hb d_Mo_round_32 (by decide) ?_
          exfalso
          omega
    · refine lv_iconst (v := iZ (1)) hx hb d_Mo_round_15 (by decide +kernel) ?_
      refine lv_goto (tgt := 36) hx hb d_Mo_round_16 (by decide) ?_
      exfalso
      omega
set_option maxHeartbeats 4000000 in
set_option maxRecDepth 100000 in
theorem f_Mo_roundUp (l : Launch) (D : va_G) (mo : Nat) (qc : Int32) (np : Nat) (ow : Nat) (om : Nat) (ok_ : Nat) (oK : Nat) (og : Nat) (on_ : Nat) (oh : Nat) (ox : Nat) (qn : Int32) (qf : Int32) (op_ : Nat) (ql : Int32) (fw : Nat → Int32) (fm : Nat → Int32) (cI : ClassId) (fh : Nat → Int32) (fk : Nat → Int32) (fK : Nat → Int32) (fs : Nat → Int32) (fn : Nat → Int32) (val : Nat → Nat) (tv : Nat → Nat) (bv : Nat → Nat) (sg : Nat → Int) (to : Nat) (a : Nat) (pb : Nat) (E : Nat) (sz : Nat) (hW : WB fw fm val) (hMR : MoR fk fK fs fn tv bv sg) (hnd : ndS tv bv 32 ≤ np) (hnp : np ≤ 1024) (J : RgC tv bv sg) (hbv : ∀ r, r < 32 → 0 < bv r) (t1 : to < 32) (t2 : a < 32) (hpb : 0 < pb ∧ pb ≤ 1024) (hs0 : sg a ≠ 0) (hEx : xE (tv a) (bv a) - (pb : Int) + 1 = (E : Int)) (hfit : np + (lm (tv to) + lm (bv to)) < ndS tv bv 32 + (lm (rdN (nmQ (tv a) (bv a * 2 ^ E) * 2 ^ E) (1)) + lm (rdD (nmQ (tv a) (bv a * 2 ^ E) * 2 ^ E) (1)))) : Met l y_Mo_round (wsB y_Mo_round b_Mo_round 6 (some .int)) ({ frames := 6, cells := 0, slots := 0, locals := 148 }) (va_Pc [.ref mo, .int (iZ (to : Int)), .int (iZ (a : Int)), .int (iZ (pb : Int))] (wPre D [(cI, .int)] [(mo, .inr (8, [.int qc, .int (iZ (np : Int)), .ref ow, .ref om, .ref ok_, .ref oK, .ref og, .ref on_, .ref oh, .ref ox, .int qn, .int qf, .ref op_, .int ql])), (ow, .inl (cI, 108000, .inl fw)), (om, .inl (cI, 9, .inl fm)), (oh, .inl (cI, 10000, .inl fh)), (ok_, .inl (cI, 166400, .inl fk)), (oK, .inl (cI, 64, .inl fK)), (og, .inl (cI, 32, .inl fs)), (on_, .inl (cI, 32, .inl fn))] sz)) (va_QV (fun (v_9 : Option Value) (u_9 : (Nat → Int32) × (Nat → Int32) × (Nat → Int32) × (Nat → Nat)) => v_9 = some (.int (iZ 0)) ∧ (WB u_9.1 u_9.2.1 u_9.2.2.2)) (fun u_9 => wPost D [(cI, .int)] [(mo, .inr (8, [.int qc, .int (iZ (np : Int)), .ref ow, .ref om, .ref ok_, .ref oK, .ref og, .ref on_, .ref oh, .ref ox, .int qn, .int qf, .ref op_, .int ql])), (ow, .inl (cI, 108000, .inl fw)), (om, .inl (cI, 9, .inl fm)), (oh, .inl (cI, 10000, .inl fh)), (ok_, .inl (cI, 166400, .inl fk)), (oK, .inl (cI, 64, .inl fK)), (og, .inl (cI, 32, .inl fs)), (on_, .inl (cI, 32, .inl fn))] [(mo, .inr (8, [.int (iZ 3), .int (iZ (np : Int)), .ref ow, .ref om, .ref ok_, .ref oK, .ref og, .ref on_, .ref oh, .ref ox, .int qn, .int qf, .ref op_, .int ql])), (ow, .inl (cI, 108000, .inl u_9.1)), (om, .inl (cI, 9, .inl u_9.2.1)), (oh, .inl (cI, 10000, .inl u_9.2.2.1)), (ok_, .inl (cI, 166400, .inl fk)), (oK, .inl (cI, 64, .inl fK)), (og, .inl (cI, 32, .inl fs)), (on_, .inl (cI, 32, .inl fn))] sz) (va_A [(mo, .inr (8, [.int qc, .int (iZ (np : Int)), .ref ow, .ref om, .ref ok_, .ref oK, .ref og, .ref on_, .ref oh, .ref ox, .int qn, .int qf, .ref op_, .int ql])), (ow, .inl (cI, 108000, .inl fw)), (om, .inl (cI, 9, .inl fm)), (oh, .inl (cI, 10000, .inl fh)), (ok_, .inl (cI, 166400, .inl fk)), (oK, .inl (cI, 64, .inl fK)), (og, .inl (cI, 32, .inl fs)), (on_, .inl (cI, 32, .inl fn))] sz)) 0 0 (va_A [(mo, .inr (8, [.int qc, .int (iZ (np : Int)), .ref ow, .ref om, .ref ok_, .ref oK, .ref og, .ref on_, .ref oh, .ref ox, .int qn, .int qf, .ref op_, .int ql])), (ow, .inl (cI, 108000, .inl fw)), (om, .inl (cI, 9, .inl fm)), (oh, .inl (cI, 10000, .inl fh)), (ok_, .inl (cI, 166400, .inl fk)), (oK, .inl (cI, 64, .inl fK)), (og, .inl (cI, 32, .inl fs)), (on_, .inl (cI, 32, .inl fn))] sz) := by
  refine met_enter (by decide +kernel) (Nat.le_of_ble_eq_true rfl) ?_
  intro p e s m args below meth c ls A R Q H locs K hin hAe hA hR hQ hP hK hD hS hl
  obtain ⟨hx, hb, hml, hrt, hlk, hts, hown, hno⟩ := id K
  have hl : lv_has ls 6 [(0, .ref mo), (1, .int (iZ (to : Int))), (2, .int (iZ (a : Int))), (3, .int (iZ (pb : Int)))] := hl
  have hlr : ∀ q, q < 32 → lm (tv q) + lm (bv q) ≤ 1024 := fun q hq => by have z := ndS_le (tv := tv) (bv := bv) hq; omega
  have hnt : ∀ q, q < 32 → nd (tv q) ≤ 2600 := fun q hq => by have z := nd_lm (v := tv q) (L := 1024) (by have y := hlr q hq; omega); omega
  have hnb : ∀ q, q < 32 → nd (bv q) ≤ 2600 := fun q hq => by have z := nd_lm (v := bv q) (L := 1024) (by have y := hlr q hq; omega); omega
  obtain ⟨ja1, ja2, ja3⟩ := J a (by omega)
  have pa := hbv a (by omega)
  have la := hlr a (by omega)
  have n1 := hnt a (by omega)
  have n2 := hnb a (by omega)
  have xb := xE_b (tv a) (bv a)
  have bb1 := bl_le_lm (tv a)
  have bb2 := bl_le_lm (bv a)
  have hE : E ≤ 34000 := by omega
  refine lv_aload_n hx hb d_Mo_round_0 rfl (lv_at hl 0 rfl) ?_
  refine lv_iload_n hx hb d_Mo_round_1 rfl (lv_at hl 1 rfl) ?_
  refine cs (n := 1) (wr := [(mo, .inr (8, [.int qc, .int (iZ (np : Int)), .ref ow, .ref om, .ref ok_, .ref oK, .ref og, .ref on_, .ref oh, .ref ox, .int qn, .int qf, .ref op_, .int ql])), (ow, .inl (cI, 108000, .inl fw)), (om, .inl (cI, 9, .inl fm)), (oh, .inl (cI, 10000, .inl fh)), (ok_, .inl (cI, 166400, .inl fk)), (oK, .inl (cI, 64, .inl fK)), (og, .inl (cI, 32, .inl fs)), (on_, .inl (cI, 32, .inl fn))]) (w1 := (fun (u : Int) => [])) (As := [.int (iZ (to : Int))]) (rest := [.ref mo]) K hP hD hK hS hA hl.1 (c_Mo_isRegister l D (to : Int) H.size (by omega)) [] [0, 1, 2, 3, 4, 5, 6, 7] [] rfl rfl rfl (by decide) (by decide) (by decide) (big_in mw_1172 rfl) (big_in mw_10 rfl) (big_in mw_1170 rfl) (big_in mw_1171 rfl) rfl rfl (by decide +kernel) ⟨by rw [hR]; exact Nat.le_of_ble_eq_true rfl, by rw [hR]; exact Nat.le_of_ble_eq_true rfl⟩ rfl (Nat.le_of_ble_eq_true rfl) d_Mo_round_2 ⟨by rw [hR]; exact Nat.le_of_ble_eq_true rfl, by rw [hR]; exact Nat.le_of_ble_eq_true rfl⟩ rfl (fun v u H locs hp1 hP hD hS _ => ?_)
  obtain ⟨r2, rfl⟩ : ∃ z, z = u := ⟨_, rfl⟩
  obtain ⟨rfl, p2⟩ := hp1
  have hP : va_P D cls0 [(mo, .inr (8, [.int qc, .int (iZ (np : Int)), .ref ow, .ref om, .ref ok_, .ref oK, .ref og, .ref on_, .ref oh, .ref ox, .int qn, .int qf, .ref op_, .int ql])), (ow, .inl (cI, 108000, .inl fw)), (om, .inl (cI, 9, .inl fm)), (oh, .inl (cI, 10000, .inl fh)), (ok_, .inl (cI, 166400, .inl fk)), (oK, .inl (cI, 64, .inl fK)), (og, .inl (cI, 32, .inl fs)), (on_, .inl (cI, 32, .inl fn))] H := hP
  have hD : va_D A [(mo, .inr (8, [.int qc, .int (iZ (np : Int)), .ref ow, .ref om, .ref ok_, .ref oK, .ref og, .ref on_, .ref oh, .ref ox, .int qn, .int qf, .ref op_, .int ql])), (ow, .inl (cI, 108000, .inl fw)), (om, .inl (cI, 9, .inl fm)), (oh, .inl (cI, 10000, .inl fh)), (ok_, .inl (cI, 166400, .inl fk)), (oK, .inl (cI, 64, .inl fK)), (og, .inl (cI, 32, .inl fs)), (on_, .inl (cI, 32, .inl fn))] := hD
  show W p l e R s m args below meth c H locs _ _ Q (F0 m 5 ls [.int (iZ r2), .ref mo])
  have b2 : 0 ≤ r2 ∧ r2 ≤ 1 := by omega
  refine zz_if_eq (tgt := 15) hx hb d_Mo_round_5 (by decide) (by omega) (fun c5 => ?_) (fun c5 => ?_)
  · refine lv_iconst (v := iZ (1)) hx hb d_Mo_round_15 (by decide +kernel) ?_
    refine lv_goto (tgt := 36) hx hb d_Mo_round_16 (by decide) ?_
    exfalso
    omega
  · refine lv_iload_n hx hb d_Mo_round_8 rfl (lv_at hl 2 rfl) ?_
    refine cs (n := 1) (wr := [(mo, .inr (8, [.int qc, .int (iZ (np : Int)), .ref ow, .ref om, .ref ok_, .ref oK, .ref og, .ref on_, .ref oh, .ref ox, .int qn, .int qf, .ref op_, .int ql])), (ow, .inl (cI, 108000, .inl fw)), (om, .inl (cI, 9, .inl fm)), (oh, .inl (cI, 10000, .inl fh)), (ok_, .inl (cI, 166400, .inl fk)), (oK, .inl (cI, 64, .inl fK)), (og, .inl (cI, 32, .inl fs)), (on_, .inl (cI, 32, .inl fn))]) (w1 := (fun (u : Int) => [])) (As := [.int (iZ (a : Int))]) (rest := [.ref mo]) K hP hD hK hS hA hl.1 (c_Mo_isRegister l D (a : Int) H.size (by omega)) [] [0, 1, 2, 3, 4, 5, 6, 7] [] rfl rfl rfl (by decide) (by decide) (by decide) (big_in mw_1172 rfl) (big_in mw_10 rfl) (big_in mw_1170 rfl) (big_in mw_1171 rfl) rfl rfl (by decide +kernel) ⟨by rw [hR]; exact Nat.le_of_ble_eq_true rfl, by rw [hR]; exact Nat.le_of_ble_eq_true rfl⟩ rfl (Nat.le_of_ble_eq_true rfl) d_Mo_round_9 ⟨by rw [hR]; exact Nat.le_of_ble_eq_true rfl, by rw [hR]; exact Nat.le_of_ble_eq_true rfl⟩ rfl (fun v u H locs hp2 hP hD hS _ => ?_)
    obtain ⟨r9, rfl⟩ : ∃ z, z = u := ⟨_, rfl⟩
    obtain ⟨rfl, p9⟩ := hp2
    have hP : va_P D cls0 [(mo, .inr (8, [.int qc, .int (iZ (np : Int)), .ref ow, .ref om, .ref ok_, .ref oK, .ref og, .ref on_, .ref oh, .ref ox, .int qn, .int qf, .ref op_, .int ql])), (ow, .inl (cI, 108000, .inl fw)), (om, .inl (cI, 9, .inl fm)), (oh, .inl (cI, 10000, .inl fh)), (ok_, .inl (cI, 166400, .inl fk)), (oK, .inl (cI, 64, .inl fK)), (og, .inl (cI, 32, .inl fs)), (on_, .inl (cI, 32, .inl fn))] H := hP
    have hD : va_D A [(mo, .inr (8, [.int qc, .int (iZ (np : Int)), .ref ow, .ref om, .ref ok_, .ref oK, .ref og, .ref on_, .ref oh, .ref ox, .int qn, .int qf, .ref op_, .int ql])), (ow, .inl (cI, 108000, .inl fw)), (om, .inl (cI, 9, .inl fm)), (oh, .inl (cI, 10000, .inl fh)), (ok_, .inl (cI, 166400, .inl fk)), (oK, .inl (cI, 64, .inl fK)), (og, .inl (cI, 32, .inl fs)), (on_, .inl (cI, 32, .inl fn))] := hD
    show W p l e R s m args below meth c H locs _ _ Q (F0 m 12 ls [.int (iZ r9), .ref mo])
    have b9 : 0 ≤ r9 ∧ r9 ≤ 1 := by omega
    refine zz_if_ne (tgt := 19) hx hb d_Mo_round_12 (by decide) (by omega) (fun c12 => ?_) (fun c12 => ?_)
    · refine lv_iload_n hx hb d_Mo_round_19 rfl (lv_at hl 3 rfl) ?_
      refine lv_iconst (v := iZ (1)) hx hb d_Mo_round_20 (by decide +kernel) ?_
      refine zz_icmp_lt (tgt := 31) hx hb d_Mo_round_21 (by decide) (by omega) (by omega) (fun c21 => ?_) (fun c21 => ?_)
      · refine lv_iconst (v := iZ (2)) hx hb d_Mo_round_31 (by decide +kernel) ?_
        refine lv_goto (tgt := 36) hx hb d_Mo_round_32 (by decide) ?_
        exfalso
        omega
      · refine lv_iload_n hx hb d_Mo_round_24 rfl (lv_at hl 3 rfl) ?_
        refine lv_sipush (v := iZ (1024)) hx hb d_Mo_round_25 (by decide +kernel) ?_
        refine zz_icmp_le (tgt := 35) hx hb d_Mo_round_28 (by decide) (by omega) (by omega) (fun c28 => ?_) (fun c28 => ?_)
        · refine lv_iconst (v := iZ (0)) hx hb d_Mo_round_35 (by decide +kernel) ?_
          refine cv (n := 1) (wr := [(ow, .inl (cI, 108000, .inl fw)), (om, .inl (cI, 9, .inl fm)), (oh, .inl (cI, 10000, .inl fh)), (ok_, .inl (cI, 166400, .inl fk)), (oK, .inl (cI, 64, .inl fK)), (og, .inl (cI, 32, .inl fs)), (on_, .inl (cI, 32, .inl fn))]) (w1 := (fun (u : Int) => [(mo, .inr (8, [.int (iZ 0), .int (iZ (np : Int)), .ref ow, .ref om, .ref ok_, .ref oK, .ref og, .ref on_, .ref oh, .ref ox, .int qn, .int qf, .ref op_, .int ql]))])) (As := [.int (iZ 0)]) (rest := []) K hP hD hK hS hA hl.1 (c_Mo_refuses l D mo qc np ow om ok_ oK og on_ oh ox qn qf op_ ql 0 H.size (by omega)) [0] [1, 2, 3, 4, 5, 6, 7] [] rfl rfl rfl (by decide) (by decide) (by decide) 0 rfl rfl (big_in mw_1176 rfl) (big_in mw_10 rfl) (big_in mw_1173 rfl) (big_in mw_1175 rfl) (big_in sp_18 rfl) rfl rfl (by decide +kernel) ⟨by rw [hR]; exact Nat.le_of_ble_eq_true rfl, by rw [hR]; exact Nat.le_of_ble_eq_true rfl⟩ rfl (Nat.le_of_ble_eq_true rfl) d_Mo_round_36 ⟨by rw [hR]; exact Nat.le_of_ble_eq_true rfl, by rw [hR]; exact Nat.le_of_ble_eq_true rfl⟩ rfl (fun v u H locs hp3 hP hD hS _ => ?_)
          obtain ⟨rf, rfl⟩ : ∃ z, z = u := ⟨_, rfl⟩
          obtain ⟨rfl, prf⟩ := hp3
          have hP : va_P D cls0 [(ow, .inl (cI, 108000, .inl fw)), (om, .inl (cI, 9, .inl fm)), (oh, .inl (cI, 10000, .inl fh)), (ok_, .inl (cI, 166400, .inl fk)), (oK, .inl (cI, 64, .inl fK)), (og, .inl (cI, 32, .inl fs)), (on_, .inl (cI, 32, .inl fn)), (mo, .inr (8, [.int (iZ 0), .int (iZ (np : Int)), .ref ow, .ref om, .ref ok_, .ref oK, .ref og, .ref on_, .ref oh, .ref ox, .int qn, .int qf, .ref op_, .int ql]))] H := hP
          have hD : va_D A [(ow, .inl (cI, 108000, .inl fw)), (om, .inl (cI, 9, .inl fm)), (oh, .inl (cI, 10000, .inl fh)), (ok_, .inl (cI, 166400, .inl fk)), (oK, .inl (cI, 64, .inl fK)), (og, .inl (cI, 32, .inl fs)), (on_, .inl (cI, 32, .inl fn)), (mo, .inr (8, [.int (iZ 0), .int (iZ (np : Int)), .ref ow, .ref om, .ref ok_, .ref oK, .ref og, .ref on_, .ref oh, .ref ox, .int qn, .int qf, .ref op_, .int ql]))] := hD
          show W p l e R s m args below meth c H locs _ _ Q (F0 m 39 ls [.int (iZ rf)])
          refine zz_if_eq (tgt := 44) hx hb d_Mo_round_39 (by decide) (by omega) (fun c39 => ?_) (fun c39 => False.elim (by omega))
          refine lv_aload_n hx hb d_Mo_round_44 rfl (lv_at hl 0 rfl) ?_
          refine va_get (D := D) (ci := 8) (v := .ref og) (C := R_Mo) (T := F_Mo) (N := 14) hx hb hts i_Mo hown hK hP 7 rfl rfl 6 (by decide) (hts _ (big_in mw_1121 rfl)) (fun _ h9 => h9) rfl d_Mo_round_45 ?_
          refine lv_iload_n hx hb d_Mo_round_48 rfl (lv_at hl 2 rfl) ?_
          refine zz_iald hx hb hK hP 5 0 rfl rfl (a) (by omega) (by omega) (by omega) d_Mo_round_49 ?_
          rw [hMR.2.1 a (by omega)]
          refine zz_if_ne (tgt := 60) hx hb d_Mo_round_50 (by decide) (by omega) (fun c50 => ?_) (fun c50 => False.elim (by omega))
          refine lv_aload_n hx hb d_Mo_round_60 rfl (lv_at hl 0 rfl) ?_
          refine lv_iconst (v := iZ (0)) hx hb d_Mo_round_61 (by decide +kernel) ?_
          refine lv_iconst (v := iZ (2)) hx hb d_Mo_round_62 (by decide +kernel) ?_
          refine lv_iload_n hx hb d_Mo_round_63 rfl (lv_at hl 2 rfl) ?_
          refine zz_imul hx hb d_Mo_round_64 ?_
          rw [show (2 * (a : Int) : Int) = ((2 * a : Nat) : Int) by omega]
          refine cv (n := 2) (wr := [(oh, .inl (cI, 10000, .inl fh)), (og, .inl (cI, 32, .inl fs)), (on_, .inl (cI, 32, .inl fn))]) (w1 := (fun (u : (Nat → Int32) × (Nat → Int32)) => [(mo, .inr (8, [.int (iZ 0), .int (iZ (np : Int)), .ref ow, .ref om, .ref ok_, .ref oK, .ref og, .ref on_, .ref oh, .ref ox, .int qn, .int qf, .ref op_, .int ql])), (ow, .inl (cI, 108000, .inl u.1)), (om, .inl (cI, 9, .inl u.2)), (ok_, .inl (cI, 166400, .inl fk)), (oK, .inl (cI, 64, .inl fK))])) (As := [.int (iZ 0), .int (iZ ((2 * a : Nat) : Int))]) (rest := []) K hP hD hK hS hA hl.1 (c_Mo_load l D mo (iZ 0) np ow om ok_ oK og on_ oh ox qn qf op_ ql fw fm cI fk fK val (kvf tv bv) 0 (2 * a) H.size hW hMR.1 (by decide) (by omega)) [7, 0, 1, 3, 4] [2, 5, 6] [0] rfl rfl rfl (by decide) (by decide) (by decide) 0 rfl rfl (big_in mw_1238 rfl) (big_in mw_10 rfl) (big_in mw_1235 rfl) (big_in mw_1237 rfl) (big_in sp_31 rfl) rfl rfl (by decide +kernel) ⟨by rw [hR]; exact Nat.le_of_ble_eq_true rfl, by rw [hR]; exact Nat.le_of_ble_eq_true rfl⟩ rfl (Nat.le_of_ble_eq_true rfl) d_Mo_round_65 ⟨by rw [hR]; exact Nat.le_of_ble_eq_true rfl, by rw [hR]; exact Nat.le_of_ble_eq_true rfl⟩ rfl (fun v u H locs hp4 hP hD hS _ => ?_)
          obtain ⟨fx1, fy1⟩ := u
          try dsimp only at hp4
          obtain ⟨rfl, w1⟩ := hp4
          have hP : va_P D cls0 [(oh, .inl (cI, 10000, .inl fh)), (og, .inl (cI, 32, .inl fs)), (on_, .inl (cI, 32, .inl fn)), (mo, .inr (8, [.int (iZ 0), .int (iZ (np : Int)), .ref ow, .ref om, .ref ok_, .ref oK, .ref og, .ref on_, .ref oh, .ref ox, .int qn, .int qf, .ref op_, .int ql])), (ow, .inl (cI, 108000, .inl fx1)), (om, .inl (cI, 9, .inl fy1)), (ok_, .inl (cI, 166400, .inl fk)), (oK, .inl (cI, 64, .inl fK))] H := hP
          have hD : va_D A [(oh, .inl (cI, 10000, .inl fh)), (og, .inl (cI, 32, .inl fs)), (on_, .inl (cI, 32, .inl fn)), (mo, .inr (8, [.int (iZ 0), .int (iZ (np : Int)), .ref ow, .ref om, .ref ok_, .ref oK, .ref og, .ref on_, .ref oh, .ref ox, .int qn, .int qf, .ref op_, .int ql])), (ow, .inl (cI, 108000, .inl fx1)), (om, .inl (cI, 9, .inl fy1)), (ok_, .inl (cI, 166400, .inl fk)), (oK, .inl (cI, 64, .inl fK))] := hD
          show W p l e R s m args below meth c H locs _ _ Q (F0 m 68 ls [])
          rw [kvf_0] at w1
          obtain ⟨v1, hv1⟩ : ∃ z, z = up val 0 (tv a) := ⟨_, rfl⟩
          rw [← hv1] at w1
          refine lv_aload_n hx hb d_Mo_round_68 rfl (lv_at hl 0 rfl) ?_
          refine lv_iconst (v := iZ (1)) hx hb d_Mo_round_69 (by decide +kernel) ?_
          refine lv_iconst (v := iZ (2)) hx hb d_Mo_round_70 (by decide +kernel) ?_
          refine lv_iload_n hx hb d_Mo_round_71 rfl (lv_at hl 2 rfl) ?_
          refine zz_imul hx hb d_Mo_round_72 ?_
          refine lv_iconst (v := iZ (1)) hx hb d_Mo_round_73 (by decide +kernel) ?_
          refine zz_iadd hx hb d_Mo_round_74 ?_
          rw [show (2 * (a : Int) + 1 : Int) = ((2 * a + 1 : Nat) : Int) by omega]
          refine cv (n := 2) (wr := [(oh, .inl (cI, 10000, .inl fh)), (og, .inl (cI, 32, .inl fs)), (on_, .inl (cI, 32, .inl fn))]) (w1 := (fun (u : (Nat → Int32) × (Nat → Int32)) => [(mo, .inr (8, [.int (iZ 0), .int (iZ (np : Int)), .ref ow, .ref om, .ref ok_, .ref oK, .ref og, .ref on_, .ref oh, .ref ox, .int qn, .int qf, .ref op_, .int ql])), (ow, .inl (cI, 108000, .inl u.1)), (om, .inl (cI, 9, .inl u.2)), (ok_, .inl (cI, 166400, .inl fk)), (oK, .inl (cI, 64, .inl fK))])) (As := [.int (iZ 1), .int (iZ ((2 * a + 1 : Nat) : Int))]) (rest := []) K hP hD hK hS hA hl.1 (c_Mo_load l D mo (iZ 0) np ow om ok_ oK og on_ oh ox qn qf op_ ql fx1 fy1 cI fk fK v1 (kvf tv bv) 1 (2 * a + 1) H.size w1 hMR.1 (by decide) (by omega)) [3, 4, 5, 6, 7] [0, 1, 2] [0] rfl rfl rfl (by decide) (by decide) (by decide) 0 rfl rfl (big_in mw_1238 rfl) (big_in mw_10 rfl) (big_in mw_1235 rfl) (big_in mw_1237 rfl) (big_in sp_31 rfl) rfl rfl (by decide +kernel) ⟨by rw [hR]; exact Nat.le_of_ble_eq_true rfl, by rw [hR]; exact Nat.le_of_ble_eq_true rfl⟩ rfl (Nat.le_of_ble_eq_true rfl) d_Mo_round_75 ⟨by rw [hR]; exact Nat.le_of_ble_eq_true rfl, by rw [hR]; exact Nat.le_of_ble_eq_true rfl⟩ rfl (fun v u H locs hp5 hP hD hS _ => ?_)
          obtain ⟨fx2, fy2⟩ := u
          try dsimp only at hp5
          obtain ⟨rfl, w2⟩ := hp5
          have hP : va_P D cls0 [(oh, .inl (cI, 10000, .inl fh)), (og, .inl (cI, 32, .inl fs)), (on_, .inl (cI, 32, .inl fn)), (mo, .inr (8, [.int (iZ 0), .int (iZ (np : Int)), .ref ow, .ref om, .ref ok_, .ref oK, .ref og, .ref on_, .ref oh, .ref ox, .int qn, .int qf, .ref op_, .int ql])), (ow, .inl (cI, 108000, .inl fx2)), (om, .inl (cI, 9, .inl fy2)), (ok_, .inl (cI, 166400, .inl fk)), (oK, .inl (cI, 64, .inl fK))] H := hP
          have hD : va_D A [(oh, .inl (cI, 10000, .inl fh)), (og, .inl (cI, 32, .inl fs)), (on_, .inl (cI, 32, .inl fn)), (mo, .inr (8, [.int (iZ 0), .int (iZ (np : Int)), .ref ow, .ref om, .ref ok_, .ref oK, .ref og, .ref on_, .ref oh, .ref ox, .int qn, .int qf, .ref op_, .int ql])), (ow, .inl (cI, 108000, .inl fx2)), (om, .inl (cI, 9, .inl fy2)), (ok_, .inl (cI, 166400, .inl fk)), (oK, .inl (cI, 64, .inl fK))] := hD
          show W p l e R s m args below meth c H locs _ _ Q (F0 m 78 ls [])
          rw [kvf_1] at w2
          obtain ⟨v2, hv2⟩ : ∃ z, z = up v1 1 (bv a) := ⟨_, rfl⟩
          rw [← hv2] at w2
          have e0 : v2 0 = tv a := by rw [hv2, up_n (by decide), hv1, up_s]
          have e1 : v2 1 = bv a := by rw [hv2, up_s]
          have ba := hlr a (by omega)
          refine lv_aload_n hx hb d_Mo_round_78 rfl (lv_at hl 0 rfl) ?_
          refine lv_iconst (v := iZ (0)) hx hb d_Mo_round_79 (by decide +kernel) ?_
          refine cv (n := 1) (wr := [(og, .inl (cI, 32, .inl fs)), (on_, .inl (cI, 32, .inl fn)), (ok_, .inl (cI, 166400, .inl fk)), (oK, .inl (cI, 64, .inl fK))]) (w1 := (fun (u : Int × (Nat → Int32) × (Nat → Int32) × (Nat → Int32)) => [(mo, .inr (8, [.int (iZ 0), .int (iZ (np : Int)), .ref ow, .ref om, .ref ok_, .ref oK, .ref og, .ref on_, .ref oh, .ref ox, .int qn, .int qf, .ref op_, .int ql])), (ow, .inl (cI, 108000, .inl u.2.1)), (om, .inl (cI, 9, .inl u.2.2.1)), (oh, .inl (cI, 10000, .inl u.2.2.2))])) (As := [.int (iZ 0)]) (rest := []) K hP hD hK hS hA hl.1 (c_Mo_bits l D mo (iZ 0) np ow om ok_ oK og on_ oh ox qn qf op_ ql fx2 fy2 cI fh v2 0 H.size w2 (by decide) (by decide) (hB_lm (by rw [e0]; omega))) [3, 4, 5, 0] [1, 2, 6, 7] [0] rfl rfl rfl (by decide) (by decide) (by decide) 0 rfl rfl (big_in mw_1298 rfl) (big_in mw_10 rfl) (big_in mw_1295 rfl) (big_in mw_1297 rfl) (big_in sp_40 rfl) rfl rfl (by decide +kernel) ⟨by rw [hR]; exact Nat.le_of_ble_eq_true rfl, by rw [hR]; exact Nat.le_of_ble_eq_true rfl⟩ rfl (Nat.le_of_ble_eq_true rfl) d_Mo_round_80 ⟨by rw [hR]; exact Nat.le_of_ble_eq_true rfl, by rw [hR]; exact Nat.le_of_ble_eq_true rfl⟩ rfl (fun v u H locs hp6 hP hD hS _ => ?_)
          obtain ⟨rb3, fx3, fy3, fh3⟩ := u
          try dsimp only at hp6
          obtain ⟨rfl, eb3, w3⟩ := hp6
          have hP : va_P D cls0 [(og, .inl (cI, 32, .inl fs)), (on_, .inl (cI, 32, .inl fn)), (ok_, .inl (cI, 166400, .inl fk)), (oK, .inl (cI, 64, .inl fK)), (mo, .inr (8, [.int (iZ 0), .int (iZ (np : Int)), .ref ow, .ref om, .ref ok_, .ref oK, .ref og, .ref on_, .ref oh, .ref ox, .int qn, .int qf, .ref op_, .int ql])), (ow, .inl (cI, 108000, .inl fx3)), (om, .inl (cI, 9, .inl fy3)), (oh, .inl (cI, 10000, .inl fh3))] H := hP
          have hD : va_D A [(og, .inl (cI, 32, .inl fs)), (on_, .inl (cI, 32, .inl fn)), (ok_, .inl (cI, 166400, .inl fk)), (oK, .inl (cI, 64, .inl fK)), (mo, .inr (8, [.int (iZ 0), .int (iZ (np : Int)), .ref ow, .ref om, .ref ok_, .ref oK, .ref og, .ref on_, .ref oh, .ref ox, .int qn, .int qf, .ref op_, .int ql])), (ow, .inl (cI, 108000, .inl fx3)), (om, .inl (cI, 9, .inl fy3)), (oh, .inl (cI, 10000, .inl fh3))] := hD
          show W p l e R s m args below meth c H locs _ _ Q (F0 m 83 ls [.int (iZ rb3)])
          rw [e0] at eb3
          subst eb3
          obtain ⟨v3, hv3⟩ : ∃ z, z = up v2 4 0 := ⟨_, rfl⟩
          rw [← hv3] at w3
          have z30 : v3 0 = tv a := by rw [hv3, up_n (by decide)]; exact e0
          have z31 : v3 1 = bv a := by rw [hv3, up_n (by decide)]; exact e1
          refine lv_aload_n hx hb d_Mo_round_83 rfl (lv_at hl 0 rfl) ?_
          refine lv_iconst (v := iZ (1)) hx hb d_Mo_round_84 (by decide +kernel) ?_
          refine cv (n := 1) (wr := [(og, .inl (cI, 32, .inl fs)), (on_, .inl (cI, 32, .inl fn)), (ok_, .inl (cI, 166400, .inl fk)), (oK, .inl (cI, 64, .inl fK))]) (w1 := (fun (u : Int × (Nat → Int32) × (Nat → Int32) × (Nat → Int32)) => [(mo, .inr (8, [.int (iZ 0), .int (iZ (np : Int)), .ref ow, .ref om, .ref ok_, .ref oK, .ref og, .ref on_, .ref oh, .ref ox, .int qn, .int qf, .ref op_, .int ql])), (ow, .inl (cI, 108000, .inl u.2.1)), (om, .inl (cI, 9, .inl u.2.2.1)), (oh, .inl (cI, 10000, .inl u.2.2.2))])) (As := [.int (iZ 1)]) (rest := [.int (iZ (bl (tv a) : Int))]) K hP hD hK hS hA hl.1 (c_Mo_bits l D mo (iZ 0) np ow om ok_ oK og on_ oh ox qn qf op_ ql fx3 fy3 cI fh3 v3 1 H.size w3 (by decide) (by decide) (hB_lm (by rw [z31]; omega))) [4, 5, 6, 7] [0, 1, 2, 3] [0] rfl rfl rfl (by decide) (by decide) (by decide) 0 rfl rfl (big_in mw_1298 rfl) (big_in mw_10 rfl) (big_in mw_1295 rfl) (big_in mw_1297 rfl) (big_in sp_40 rfl) rfl rfl (by decide +kernel) ⟨by rw [hR]; exact Nat.le_of_ble_eq_true rfl, by rw [hR]; exact Nat.le_of_ble_eq_true rfl⟩ rfl (Nat.le_of_ble_eq_true rfl) d_Mo_round_85 ⟨by rw [hR]; exact Nat.le_of_ble_eq_true rfl, by rw [hR]; exact Nat.le_of_ble_eq_true rfl⟩ rfl (fun v u H locs hp7 hP hD hS _ => ?_)
          obtain ⟨rb4, fx4, fy4, fh4⟩ := u
          try dsimp only at hp7
          obtain ⟨rfl, eb4, w4⟩ := hp7
          have hP : va_P D cls0 [(og, .inl (cI, 32, .inl fs)), (on_, .inl (cI, 32, .inl fn)), (ok_, .inl (cI, 166400, .inl fk)), (oK, .inl (cI, 64, .inl fK)), (mo, .inr (8, [.int (iZ 0), .int (iZ (np : Int)), .ref ow, .ref om, .ref ok_, .ref oK, .ref og, .ref on_, .ref oh, .ref ox, .int qn, .int qf, .ref op_, .int ql])), (ow, .inl (cI, 108000, .inl fx4)), (om, .inl (cI, 9, .inl fy4)), (oh, .inl (cI, 10000, .inl fh4))] H := hP
          have hD : va_D A [(og, .inl (cI, 32, .inl fs)), (on_, .inl (cI, 32, .inl fn)), (ok_, .inl (cI, 166400, .inl fk)), (oK, .inl (cI, 64, .inl fK)), (mo, .inr (8, [.int (iZ 0), .int (iZ (np : Int)), .ref ow, .ref om, .ref ok_, .ref oK, .ref og, .ref on_, .ref oh, .ref ox, .int qn, .int qf, .ref op_, .int ql])), (ow, .inl (cI, 108000, .inl fx4)), (om, .inl (cI, 9, .inl fy4)), (oh, .inl (cI, 10000, .inl fh4))] := hD
          show W p l e R s m args below meth c H locs _ _ Q (F0 m 88 ls [.int (iZ rb4), .int (iZ (bl (tv a) : Int))])
          rw [z31] at eb4
          subst eb4
          obtain ⟨v4, hv4⟩ : ∃ z, z = up v3 4 0 := ⟨_, rfl⟩
          rw [← hv4] at w4
          have z40 : v4 0 = tv a := by rw [hv4, up_n (by decide)]; exact z30
          have z41 : v4 1 = bv a := by rw [hv4, up_n (by decide)]; exact z31
          refine zz_isub hx hb d_Mo_round_88 ?_
          refine lv_iload_n hx hb d_Mo_round_89 rfl (lv_at hl 3 rfl) ?_
          refine zz_isub hx hb d_Mo_round_90 ?_
          refine lv_istore (lv' := [(4, .int (iZ ((bl (tv a) : Int) - (bl (bv a) : Int) - (pb : Int)))), (0, .ref mo), (1, .int (iZ (to : Int))), (2, .int (iZ (a : Int))), (3, .int (iZ (pb : Int)))]) hx hb d_Mo_round_91 hl (by decide) rfl (fun ls hl => ?_)
          refine lv_iload hx hb d_Mo_round_93 (lv_at hl 0 rfl) ?_
          refine lv_iload_n hx hb d_Mo_round_95 rfl (lv_at hl 4 rfl) ?_
          refine zz_iadd hx hb d_Mo_round_96 ?_
          refine lv_istore (lv' := [(5, .int (iZ ((bl (tv a) : Int) - (bl (bv a) : Int) - (pb : Int) + (pb : Int)))), (4, .int (iZ ((bl (tv a) : Int) - (bl (bv a) : Int) - (pb : Int)))), (0, .ref mo), (1, .int (iZ (to : Int))), (2, .int (iZ (a : Int))), (3, .int (iZ (pb : Int)))]) hx hb d_Mo_round_97 hl (by decide) rfl (fun ls hl => ?_)
          refine lv_aload_n hx hb d_Mo_round_99 rfl (lv_at hl 2 rfl) ?_
          refine lv_iload hx hb d_Mo_round_100 (lv_at hl 0 rfl) ?_
          refine zz_if_ge (tgt := 109) hx hb d_Mo_round_102 (by decide) (by omega) (fun c102 => ?_) (fun c102 => ?_)
          · refine lv_iconst (v := iZ (1)) hx hb d_Mo_round_109 (by decide +kernel) ?_
            refine lv_iload hx hb d_Mo_round_110 (lv_at hl 0 rfl) ?_
            refine zz_if_ge (tgt := 121) hx hb d_Mo_round_112 (by decide) (by omega) (fun c112 => ?_) (fun c112 => ?_)
            · refine lv_iload hx hb d_Mo_round_121 (lv_at hl 0 rfl) ?_
              rw [show ((bl (tv a) : Int) - (bl (bv a) : Int) - (pb : Int) + (pb : Int) : Int) = ((bl (tv a) - bl (bv a) : Nat) : Int) by omega]
              refine cv (n := 2) (wr := [(og, .inl (cI, 32, .inl fs)), (on_, .inl (cI, 32, .inl fn)), (ok_, .inl (cI, 166400, .inl fk)), (oK, .inl (cI, 64, .inl fK)), (oh, .inl (cI, 10000, .inl fh4))]) (w1 := (fun (u : (Nat → Int32) × (Nat → Int32)) => [(mo, .inr (8, [.int (iZ 0), .int (iZ (np : Int)), .ref ow, .ref om, .ref ok_, .ref oK, .ref og, .ref on_, .ref oh, .ref ox, .int qn, .int qf, .ref op_, .int ql])), (ow, .inl (cI, 108000, .inl u.1)), (om, .inl (cI, 9, .inl u.2))])) (As := [.int (iZ 1), .int (iZ ((bl (tv a) - bl (bv a) : Nat) : Int))]) (rest := []) K hP hD hK hS hA hl.1 (c_Mo_doubled l D mo (iZ 0) np ow om ok_ oK og on_ oh ox qn qf op_ ql fx4 fy4 cI v4 1 (bl (tv a) - bl (bv a)) H.size w4 (by decide) (by omega) (by rw [z41]; have z := nd_shl (bv a) (bl (tv a) - bl (bv a)); omega)) [4, 5, 6] [0, 1, 2, 3, 7] [0] rfl rfl rfl (by decide) (by decide) (by decide) 0 rfl rfl (big_in mw_1320 rfl) (big_in mw_10 rfl) (big_in mw_1317 rfl) (big_in mw_1319 rfl) (big_in sp_42 rfl) rfl rfl (by decide +kernel) ⟨by rw [hR]; exact Nat.le_of_ble_eq_true rfl, by rw [hR]; exact Nat.le_of_ble_eq_true rfl⟩ rfl (Nat.le_of_ble_eq_true rfl) d_Mo_round_123 ⟨by rw [hR]; exact Nat.le_of_ble_eq_true rfl, by rw [hR]; exact Nat.le_of_ble_eq_true rfl⟩ rfl (fun v u H locs hp8 hP hD hS _ => ?_)
              obtain ⟨fx5, fy5⟩ := u
              try dsimp only at hp8
              obtain ⟨rfl, w5⟩ := hp8
              have hP : va_P D cls0 [(og, .inl (cI, 32, .inl fs)), (on_, .inl (cI, 32, .inl fn)), (ok_, .inl (cI, 166400, .inl fk)), (oK, .inl (cI, 64, .inl fK)), (oh, .inl (cI, 10000, .inl fh4)), (mo, .inr (8, [.int (iZ 0), .int (iZ (np : Int)), .ref ow, .ref om, .ref ok_, .ref oK, .ref og, .ref on_, .ref oh, .ref ox, .int qn, .int qf, .ref op_, .int ql])), (ow, .inl (cI, 108000, .inl fx5)), (om, .inl (cI, 9, .inl fy5))] H := hP
              have hD : va_D A [(og, .inl (cI, 32, .inl fs)), (on_, .inl (cI, 32, .inl fn)), (ok_, .inl (cI, 166400, .inl fk)), (oK, .inl (cI, 64, .inl fK)), (oh, .inl (cI, 10000, .inl fh4)), (mo, .inr (8, [.int (iZ 0), .int (iZ (np : Int)), .ref ow, .ref om, .ref ok_, .ref oK, .ref og, .ref on_, .ref oh, .ref ox, .int qn, .int qf, .ref op_, .int ql])), (ow, .inl (cI, 108000, .inl fx5)), (om, .inl (cI, 9, .inl fy5))] := hD
              show W p l e R s m args below meth c H locs _ _ Q (F0 m 126 ls [])
              rw [z41] at w5
              obtain ⟨v5, hv5⟩ : ∃ z, z = up v4 1 (bv a * 2 ^ (bl (tv a) - bl (bv a))) := ⟨_, rfl⟩
              rw [← hv5] at w5
              have z50 : v5 0 = tv a * 2 ^ (bl (bv a) - bl (tv a)) := by rw [hv5, up_n (by decide), z40, show bl (bv a) - bl (tv a) = 0 by omega, Nat.pow_zero, Nat.mul_one]
              have z51 : v5 1 = bv a * 2 ^ (bl (tv a) - bl (bv a)) := by rw [hv5, up_s]
              refine lv_iload hx hb d_Mo_round_126 (lv_at hl 1 rfl) ?_
              refine lv_aload_n hx hb d_Mo_round_128 rfl (lv_at hl 2 rfl) ?_
              refine lv_iconst (v := iZ (0)) hx hb d_Mo_round_129 (by decide +kernel) ?_
              refine lv_iconst (v := iZ (1)) hx hb d_Mo_round_130 (by decide +kernel) ?_
              refine cv (n := 2) (wr := [(og, .inl (cI, 32, .inl fs)), (on_, .inl (cI, 32, .inl fn)), (ok_, .inl (cI, 166400, .inl fk)), (oK, .inl (cI, 64, .inl fK)), (oh, .inl (cI, 10000, .inl fh4))]) (w1 := (fun (u : Int) => [(mo, .inr (8, [.int (iZ 0), .int (iZ (np : Int)), .ref ow, .ref om, .ref ok_, .ref oK, .ref og, .ref on_, .ref oh, .ref ox, .int qn, .int qf, .ref op_, .int ql])), (ow, .inl (cI, 108000, .inl fx5)), (om, .inl (cI, 9, .inl fy5))])) (As := [.int (iZ 0), .int (iZ 1)]) (rest := [.int (iZ ((bl (tv a) : Int) - (bl (bv a) : Int) - (pb : Int)))]) K hP hD hK hS hA hl.1 (c_Mo_order l D mo (iZ 0) np ow om ok_ oK og on_ oh ox qn qf op_ ql fx5 fy5 cI v5 0 1 H.size w5 (by omega) (by omega)) [5, 6, 7] [0, 1, 2, 3, 4] [0] rfl rfl rfl (by decide) (by decide) (by decide) 0 rfl rfl (big_in mw_1270 rfl) (big_in mw_10 rfl) (big_in mw_1267 rfl) (big_in mw_1269 rfl) (big_in sp_37 rfl) rfl rfl (by decide +kernel) ⟨by rw [hR]; exact Nat.le_of_ble_eq_true rfl, by rw [hR]; exact Nat.le_of_ble_eq_true rfl⟩ rfl (Nat.le_of_ble_eq_true rfl) d_Mo_round_131 ⟨by rw [hR]; exact Nat.le_of_ble_eq_true rfl, by rw [hR]; exact Nat.le_of_ble_eq_true rfl⟩ rfl (fun v u H locs hp9 hP hD hS _ => ?_)
              obtain ⟨rc, rfl⟩ : ∃ z, z = u := ⟨_, rfl⟩
              obtain ⟨rfl, gq⟩ := hp9
              have hP : va_P D cls0 [(og, .inl (cI, 32, .inl fs)), (on_, .inl (cI, 32, .inl fn)), (ok_, .inl (cI, 166400, .inl fk)), (oK, .inl (cI, 64, .inl fK)), (oh, .inl (cI, 10000, .inl fh4)), (mo, .inr (8, [.int (iZ 0), .int (iZ (np : Int)), .ref ow, .ref om, .ref ok_, .ref oK, .ref og, .ref on_, .ref oh, .ref ox, .int qn, .int qf, .ref op_, .int ql])), (ow, .inl (cI, 108000, .inl fx5)), (om, .inl (cI, 9, .inl fy5))] H := hP
              have hD : va_D A [(og, .inl (cI, 32, .inl fs)), (on_, .inl (cI, 32, .inl fn)), (ok_, .inl (cI, 166400, .inl fk)), (oK, .inl (cI, 64, .inl fK)), (oh, .inl (cI, 10000, .inl fh4)), (mo, .inr (8, [.int (iZ 0), .int (iZ (np : Int)), .ref ow, .ref om, .ref ok_, .ref oK, .ref og, .ref on_, .ref oh, .ref ox, .int qn, .int qf, .ref op_, .int ql])), (ow, .inl (cI, 108000, .inl fx5)), (om, .inl (cI, 9, .inl fy5))] := hD
              show W p l e R s m args below meth c H locs _ _ Q (F0 m 134 ls [.int (iZ rc), .int (iZ ((bl (tv a) : Int) - (bl (bv a) : Int) - (pb : Int)))])
              rw [z50, z51] at gq
              have t0 : (rc < 0 ↔ ((tv a * 2 ^ (bl (bv a) - bl (tv a)) : Nat) : Int) < ((bv a * 2 ^ (bl (tv a) - bl (bv a)) : Nat) : Int)) ∧ (-1 ≤ rc ∧ rc ≤ 1) := by rw [gq]; exact ⟨cmpZ_lt, cmpZ_r _ _⟩
              clear gq
              have xs : (rc < 0 ∧ xE (tv a) (bv a) = (bl (tv a) : Int) - (bl (bv a) : Int) - 1) ∨ (0 ≤ rc ∧ xE (tv a) (bv a) = (bl (tv a) : Int) - (bl (bv a) : Int)) := by unfold xE; by_cases z : tv a * 2 ^ (bl (bv a) - bl (tv a)) < bv a * 2 ^ (bl (tv a) - bl (bv a)); (left; rw [if_pos z]; omega); (right; rw [if_neg z]; omega)
              have trc := t0.2
              clear t0
              refine zz_if_lt (tgt := 141) hx hb d_Mo_round_134 (by decide) (by omega) (fun c134 => ?_) (fun c134 => ?_)
              · refine lv_iconst (v := iZ (0)) hx hb d_Mo_round_141 (by decide +kernel) ?_
                refine zz_iadd hx hb d_Mo_round_142 ?_
                refine lv_istore (lv' := [(4, .int (iZ ((bl (tv a) : Int) - (bl (bv a) : Int) - (pb : Int) + 0))), (5, .int (iZ ((bl (tv a) : Int) - (bl (bv a) : Int) - (pb : Int) + (pb : Int)))), (0, .ref mo), (1, .int (iZ (to : Int))), (2, .int (iZ (a : Int))), (3, .int (iZ (pb : Int)))]) hx hb d_Mo_round_143 hl (by decide) rfl (fun ls hl => ?_)
                refine lv_aload_n hx hb d_Mo_round_145 rfl (lv_at hl 2 rfl) ?_
                refine lv_iload_n hx hb d_Mo_round_146 rfl (lv_at hl 3 rfl) ?_
                refine lv_iload_n hx hb d_Mo_round_147 rfl (lv_at hl 4 rfl) ?_
                refine lv_iload hx hb d_Mo_round_148 (lv_at hl 0 rfl) ?_
                rw [show ((bl (tv a) : Int) - (bl (bv a) : Int) - (pb : Int) + 0 : Int) = (E : Int) by omega]
                refine cv (n := 3) (wr := []) (w1 := (fun (u : (Nat → Int32) × (Nat → Int32) × (Nat → Int32) × (Nat → Nat)) => [(mo, .inr (8, [.int (iZ 3), .int (iZ (np : Int)), .ref ow, .ref om, .ref ok_, .ref oK, .ref og, .ref on_, .ref oh, .ref ox, .int qn, .int qf, .ref op_, .int ql])), (ow, .inl (cI, 108000, .inl u.1)), (om, .inl (cI, 9, .inl u.2.1)), (oh, .inl (cI, 10000, .inl u.2.2.1)), (ok_, .inl (cI, 166400, .inl fk)), (oK, .inl (cI, 64, .inl fK)), (og, .inl (cI, 32, .inl fs)), (on_, .inl (cI, 32, .inl fn))])) (As := [.int (iZ (to : Int)), .int (iZ (a : Int)), .int (iZ (E : Int))]) (rest := []) K hP hD hK hS hA hl.1 (f_Mo_multipleUp l D mo (iZ 0) np ow om ok_ oK og on_ oh ox qn qf op_ ql fx5 fy5 cI fh4 fk fK fs fn v5 tv bv sg to a E H.size w5 hMR hnd hnp J hbv t1 t2 hE hfit) [5, 6, 7, 4, 2, 3, 0, 1] [] [0] rfl rfl rfl (by decide) (by decide) (by decide) 0 rfl rfl (big_in mw_1329 rfl) (big_in mw_10 rfl) (big_in mw_1326 rfl) (big_in mw_1328 rfl) (big_in sp_44 rfl) rfl rfl (by decide +kernel) ⟨by rw [hR]; exact Nat.le_of_ble_eq_true rfl, by rw [hR]; exact Nat.le_of_ble_eq_true rfl⟩ rfl (Nat.le_of_ble_eq_true rfl) d_Mo_round_150 ⟨by rw [hR]; exact Nat.le_of_ble_eq_true rfl, by rw [hR]; exact Nat.le_of_ble_eq_true rfl⟩ rfl (fun v u H locs hp10 hP hD hS _ => ?_)
                obtain ⟨fa, fb, fc, v9⟩ := u
                try dsimp only at hp10
                obtain ⟨rfl, w9⟩ := hp10
                have hP : va_P D cls0 [(mo, .inr (8, [.int (iZ 3), .int (iZ (np : Int)), .ref ow, .ref om, .ref ok_, .ref oK, .ref og, .ref on_, .ref oh, .ref ox, .int qn, .int qf, .ref op_, .int ql])), (ow, .inl (cI, 108000, .inl fa)), (om, .inl (cI, 9, .inl fb)), (oh, .inl (cI, 10000, .inl fc)), (ok_, .inl (cI, 166400, .inl fk)), (oK, .inl (cI, 64, .inl fK)), (og, .inl (cI, 32, .inl fs)), (on_, .inl (cI, 32, .inl fn))] H := hP
                have hD : va_D A [(mo, .inr (8, [.int (iZ 3), .int (iZ (np : Int)), .ref ow, .ref om, .ref ok_, .ref oK, .ref og, .ref on_, .ref oh, .ref ox, .int qn, .int qf, .ref op_, .int ql])), (ow, .inl (cI, 108000, .inl fa)), (om, .inl (cI, 9, .inl fb)), (oh, .inl (cI, 10000, .inl fc)), (ok_, .inl (cI, 166400, .inl fk)), (oK, .inl (cI, 64, .inl fK)), (og, .inl (cI, 32, .inl fs)), (on_, .inl (cI, 32, .inl fn))] := hD
                show W p l e R s m args below meth c H locs _ _ Q (F0 m 153 ls [.int (iZ 0)])
                have hP9 : va_P D cls0 [(mo, .inr (8, [.int (iZ 3), .int (iZ (np : Int)), .ref ow, .ref om, .ref ok_, .ref oK, .ref og, .ref on_, .ref oh, .ref ox, .int qn, .int qf, .ref op_, .int ql])), (ow, .inl (cI, 108000, .inl fa)), (om, .inl (cI, 9, .inl fb)), (oh, .inl (cI, 10000, .inl fc)), (ok_, .inl (cI, 166400, .inl fk)), (oK, .inl (cI, 64, .inl fK)), (og, .inl (cI, 32, .inl fs)), (on_, .inl (cI, 32, .inl fn))] H := hP.sub [0, 1, 2, 3, 4, 5, 6, 7] rfl
                have hD9 : va_D A [(mo, .inr (8, [.int (iZ 3), .int (iZ (np : Int)), .ref ow, .ref om, .ref ok_, .ref oK, .ref og, .ref on_, .ref oh, .ref ox, .int qn, .int qf, .ref op_, .int ql])), (ow, .inl (cI, 108000, .inl fa)), (om, .inl (cI, 9, .inl fb)), (oh, .inl (cI, 10000, .inl fc)), (ok_, .inl (cI, 166400, .inl fk)), (oK, .inl (cI, 64, .inl fK)), (og, .inl (cI, 32, .inl fs)), (on_, .inl (cI, 32, .inl fn))] := hD.sub [0, 1, 2, 3, 4, 5, 6, 7] (by decide) rfl
                rw [hQ, ← hAe]
                refine r_i (v := (iZ 0)) K (fa, fb, fc, v9) hS d_Mo_round_153 ?_ (fun t ht hv => ?_)
                · exact ⟨rfl, w9⟩
                · exact ⟨by rw [ht]; exact hP9, va_K.moved hv hK, by rw [← hAe]; exact hD9⟩
              · refine lv_iconst (v := iZ (1)) hx hb d_Mo_round_137 (by decide +kernel) ?_
                refine lv_goto (tgt := 142) hx hb d_Mo_round_138 (by decide) ?_
                refine zz_iadd hx hb d_Mo_round_142 ?_
                refine lv_istore (lv' := [(4, .int (iZ ((bl (tv a) : Int) - (bl (bv a) : Int) - (pb : Int) + 1))), (5, .int (iZ ((bl (tv a) : Int) - (bl (bv a) : Int) - (pb : Int) + (pb : Int)))), (0, .ref mo), (1, .int (iZ (to : Int))), (2, .int (iZ (a : Int))), (3, .int (iZ (pb : Int)))]) hx hb d_Mo_round_143 hl (by decide) rfl (fun ls hl => ?_)
                refine lv_aload_n hx hb d_Mo_round_145 rfl (lv_at hl 2 rfl) ?_
                refine lv_iload_n hx hb d_Mo_round_146 rfl (lv_at hl 3 rfl) ?_
                refine lv_iload_n hx hb d_Mo_round_147 rfl (lv_at hl 4 rfl) ?_
                refine lv_iload hx hb d_Mo_round_148 (lv_at hl 0 rfl) ?_
                rw [show ((bl (tv a) : Int) - (bl (bv a) : Int) - (pb : Int) + 1 : Int) = (E : Int) by omega]
                refine cv (n := 3) (wr := []) (w1 := (fun (u : (Nat → Int32) × (Nat → Int32) × (Nat → Int32) × (Nat → Nat)) => [(mo, .inr (8, [.int (iZ 3), .int (iZ (np : Int)), .ref ow, .ref om, .ref ok_, .ref oK, .ref og, .ref on_, .ref oh, .ref ox, .int qn, .int qf, .ref op_, .int ql])), (ow, .inl (cI, 108000, .inl u.1)), (om, .inl (cI, 9, .inl u.2.1)), (oh, .inl (cI, 10000, .inl u.2.2.1)), (ok_, .inl (cI, 166400, .inl fk)), (oK, .inl (cI, 64, .inl fK)), (og, .inl (cI, 32, .inl fs)), (on_, .inl (cI, 32, .inl fn))])) (As := [.int (iZ (to : Int)), .int (iZ (a : Int)), .int (iZ (E : Int))]) (rest := []) K hP hD hK hS hA hl.1 (f_Mo_multipleUp l D mo (iZ 0) np ow om ok_ oK og on_ oh ox qn qf op_ ql fx5 fy5 cI fh4 fk fK fs fn v5 tv bv sg to a E H.size w5 hMR hnd hnp J hbv t1 t2 hE hfit) [5, 6, 7, 4, 2, 3, 0, 1] [] [0] rfl rfl rfl (by decide) (by decide) (by decide) 0 rfl rfl (big_in mw_1329 rfl) (big_in mw_10 rfl) (big_in mw_1326 rfl) (big_in mw_1328 rfl) (big_in sp_44 rfl) rfl rfl (by decide +kernel) ⟨by rw [hR]; exact Nat.le_of_ble_eq_true rfl, by rw [hR]; exact Nat.le_of_ble_eq_true rfl⟩ rfl (Nat.le_of_ble_eq_true rfl) d_Mo_round_150 ⟨by rw [hR]; exact Nat.le_of_ble_eq_true rfl, by rw [hR]; exact Nat.le_of_ble_eq_true rfl⟩ rfl (fun v u H locs hp11 hP hD hS _ => ?_)
                obtain ⟨fa, fb, fc, v9⟩ := u
                try dsimp only at hp11
                obtain ⟨rfl, w9⟩ := hp11
                have hP : va_P D cls0 [(mo, .inr (8, [.int (iZ 3), .int (iZ (np : Int)), .ref ow, .ref om, .ref ok_, .ref oK, .ref og, .ref on_, .ref oh, .ref ox, .int qn, .int qf, .ref op_, .int ql])), (ow, .inl (cI, 108000, .inl fa)), (om, .inl (cI, 9, .inl fb)), (oh, .inl (cI, 10000, .inl fc)), (ok_, .inl (cI, 166400, .inl fk)), (oK, .inl (cI, 64, .inl fK)), (og, .inl (cI, 32, .inl fs)), (on_, .inl (cI, 32, .inl fn))] H := hP
                have hD : va_D A [(mo, .inr (8, [.int (iZ 3), .int (iZ (np : Int)), .ref ow, .ref om, .ref ok_, .ref oK, .ref og, .ref on_, .ref oh, .ref ox, .int qn, .int qf, .ref op_, .int ql])), (ow, .inl (cI, 108000, .inl fa)), (om, .inl (cI, 9, .inl fb)), (oh, .inl (cI, 10000, .inl fc)), (ok_, .inl (cI, 166400, .inl fk)), (oK, .inl (cI, 64, .inl fK)), (og, .inl (cI, 32, .inl fs)), (on_, .inl (cI, 32, .inl fn))] := hD
                show W p l e R s m args below meth c H locs _ _ Q (F0 m 153 ls [.int (iZ 0)])
                have hP9 : va_P D cls0 [(mo, .inr (8, [.int (iZ 3), .int (iZ (np : Int)), .ref ow, .ref om, .ref ok_, .ref oK, .ref og, .ref on_, .ref oh, .ref ox, .int qn, .int qf, .ref op_, .int ql])), (ow, .inl (cI, 108000, .inl fa)), (om, .inl (cI, 9, .inl fb)), (oh, .inl (cI, 10000, .inl fc)), (ok_, .inl (cI, 166400, .inl fk)), (oK, .inl (cI, 64, .inl fK)), (og, .inl (cI, 32, .inl fs)), (on_, .inl (cI, 32, .inl fn))] H := hP.sub [0, 1, 2, 3, 4, 5, 6, 7] rfl
                have hD9 : va_D A [(mo, .inr (8, [.int (iZ 3), .int (iZ (np : Int)), .ref ow, .ref om, .ref ok_, .ref oK, .ref og, .ref on_, .ref oh, .ref ox, .int qn, .int qf, .ref op_, .int ql])), (ow, .inl (cI, 108000, .inl fa)), (om, .inl (cI, 9, .inl fb)), (oh, .inl (cI, 10000, .inl fc)), (ok_, .inl (cI, 166400, .inl fk)), (oK, .inl (cI, 64, .inl fK)), (og, .inl (cI, 32, .inl fs)), (on_, .inl (cI, 32, .inl fn))] := hD.sub [0, 1, 2, 3, 4, 5, 6, 7] (by decide) rfl
                rw [hQ, ← hAe]
                refine r_i (v := (iZ 0)) K (fa, fb, fc, v9) hS d_Mo_round_153 ?_ (fun t ht hv => ?_)
                · exact ⟨rfl, w9⟩
                · exact ⟨by rw [ht]; exact hP9, va_K.moved hv hK, by rw [← hAe]; exact hD9⟩
            · refine lv_iload hx hb d_Mo_round_115 (lv_at hl 0 rfl) ?_
              refine zz_ineg hx hb d_Mo_round_117 ?_
              refine lv_goto (tgt := 123) hx hb d_Mo_round_118 (by decide) ?_
              rw [show (-((bl (tv a) : Int) - (bl (bv a) : Int) - (pb : Int) + (pb : Int)) : Int) = ((bl (tv a) - bl (bv a) : Nat) : Int) by omega]
              refine cv (n := 2) (wr := [(og, .inl (cI, 32, .inl fs)), (on_, .inl (cI, 32, .inl fn)), (ok_, .inl (cI, 166400, .inl fk)), (oK, .inl (cI, 64, .inl fK)), (oh, .inl (cI, 10000, .inl fh4))]) (w1 := (fun (u : (Nat → Int32) × (Nat → Int32)) => [(mo, .inr (8, [.int (iZ 0), .int (iZ (np : Int)), .ref ow, .ref om, .ref ok_, .ref oK, .ref og, .ref on_, .ref oh, .ref ox, .int qn, .int qf, .ref op_, .int ql])), (ow, .inl (cI, 108000, .inl u.1)), (om, .inl (cI, 9, .inl u.2))])) (As := [.int (iZ 1), .int (iZ ((bl (tv a) - bl (bv a) : Nat) : Int))]) (rest := []) K hP hD hK hS hA hl.1 (c_Mo_doubled l D mo (iZ 0) np ow om ok_ oK og on_ oh ox qn qf op_ ql fx4 fy4 cI v4 1 (bl (tv a) - bl (bv a)) H.size w4 (by decide) (by omega) (by rw [z41]; have z := nd_shl (bv a) (bl (tv a) - bl (bv a)); omega)) [4, 5, 6] [0, 1, 2, 3, 7] [0] rfl rfl rfl (by decide) (by decide) (by decide) 0 rfl rfl (big_in mw_1320 rfl) (big_in mw_10 rfl) (big_in mw_1317 rfl) (big_in mw_1319 rfl) (big_in sp_42 rfl) rfl rfl (by decide +kernel) ⟨by rw [hR]; exact Nat.le_of_ble_eq_true rfl, by rw [hR]; exact Nat.le_of_ble_eq_true rfl⟩ rfl (Nat.le_of_ble_eq_true rfl) d_Mo_round_123 ⟨by rw [hR]; exact Nat.le_of_ble_eq_true rfl, by rw [hR]; exact Nat.le_of_ble_eq_true rfl⟩ rfl (fun v u H locs hp12 hP hD hS _ => ?_)
              obtain ⟨fx5, fy5⟩ := u
              try dsimp only at hp12
              obtain ⟨rfl, w5⟩ := hp12
              have hP : va_P D cls0 [(og, .inl (cI, 32, .inl fs)), (on_, .inl (cI, 32, .inl fn)), (ok_, .inl (cI, 166400, .inl fk)), (oK, .inl (cI, 64, .inl fK)), (oh, .inl (cI, 10000, .inl fh4)), (mo, .inr (8, [.int (iZ 0), .int (iZ (np : Int)), .ref ow, .ref om, .ref ok_, .ref oK, .ref og, .ref on_, .ref oh, .ref ox, .int qn, .int qf, .ref op_, .int ql])), (ow, .inl (cI, 108000, .inl fx5)), (om, .inl (cI, 9, .inl fy5))] H := hP
              have hD : va_D A [(og, .inl (cI, 32, .inl fs)), (on_, .inl (cI, 32, .inl fn)), (ok_, .inl (cI, 166400, .inl fk)), (oK, .inl (cI, 64, .inl fK)), (oh, .inl (cI, 10000, .inl fh4)), (mo, .inr (8, [.int (iZ 0), .int (iZ (np : Int)), .ref ow, .ref om, .ref ok_, .ref oK, .ref og, .ref on_, .ref oh, .ref ox, .int qn, .int qf, .ref op_, .int ql])), (ow, .inl (cI, 108000, .inl fx5)), (om, .inl (cI, 9, .inl fy5))] := hD
              show W p l e R s m args below meth c H locs _ _ Q (F0 m 126 ls [])
              rw [z41] at w5
              obtain ⟨v5, hv5⟩ : ∃ z, z = up v4 1 (bv a * 2 ^ (bl (tv a) - bl (bv a))) := ⟨_, rfl⟩
              rw [← hv5] at w5
              have z50 : v5 0 = tv a * 2 ^ (bl (bv a) - bl (tv a)) := by rw [hv5, up_n (by decide), z40, show bl (bv a) - bl (tv a) = 0 by omega, Nat.pow_zero, Nat.mul_one]
              have z51 : v5 1 = bv a * 2 ^ (bl (tv a) - bl (bv a)) := by rw [hv5, up_s]
              refine lv_iload hx hb d_Mo_round_126 (lv_at hl 1 rfl) ?_
              refine lv_aload_n hx hb d_Mo_round_128 rfl (lv_at hl 2 rfl) ?_
              refine lv_iconst (v := iZ (0)) hx hb d_Mo_round_129 (by decide +kernel) ?_
              refine lv_iconst (v := iZ (1)) hx hb d_Mo_round_130 (by decide +kernel) ?_
              refine cv (n := 2) (wr := [(og, .inl (cI, 32, .inl fs)), (on_, .inl (cI, 32, .inl fn)), (ok_, .inl (cI, 166400, .inl fk)), (oK, .inl (cI, 64, .inl fK)), (oh, .inl (cI, 10000, .inl fh4))]) (w1 := (fun (u : Int) => [(mo, .inr (8, [.int (iZ 0), .int (iZ (np : Int)), .ref ow, .ref om, .ref ok_, .ref oK, .ref og, .ref on_, .ref oh, .ref ox, .int qn, .int qf, .ref op_, .int ql])), (ow, .inl (cI, 108000, .inl fx5)), (om, .inl (cI, 9, .inl fy5))])) (As := [.int (iZ 0), .int (iZ 1)]) (rest := [.int (iZ ((bl (tv a) : Int) - (bl (bv a) : Int) - (pb : Int)))]) K hP hD hK hS hA hl.1 (c_Mo_order l D mo (iZ 0) np ow om ok_ oK og on_ oh ox qn qf op_ ql fx5 fy5 cI v5 0 1 H.size w5 (by omega) (by omega)) [5, 6, 7] [0, 1, 2, 3, 4] [0] rfl rfl rfl (by decide) (by decide) (by decide) 0 rfl rfl (big_in mw_1270 rfl) (big_in mw_10 rfl) (big_in mw_1267 rfl) (big_in mw_1269 rfl) (big_in sp_37 rfl) rfl rfl (by decide +kernel) ⟨by rw [hR]; exact Nat.le_of_ble_eq_true rfl, by rw [hR]; exact Nat.le_of_ble_eq_true rfl⟩ rfl (Nat.le_of_ble_eq_true rfl) d_Mo_round_131 ⟨by rw [hR]; exact Nat.le_of_ble_eq_true rfl, by rw [hR]; exact Nat.le_of_ble_eq_true rfl⟩ rfl (fun v u H locs hp13 hP hD hS _ => ?_)
              obtain ⟨rc, rfl⟩ : ∃ z, z = u := ⟨_, rfl⟩
              obtain ⟨rfl, gq⟩ := hp13
              have hP : va_P D cls0 [(og, .inl (cI, 32, .inl fs)), (on_, .inl (cI, 32, .inl fn)), (ok_, .inl (cI, 166400, .inl fk)), (oK, .inl (cI, 64, .inl fK)), (oh, .inl (cI, 10000, .inl fh4)), (mo, .inr (8, [.int (iZ 0), .int (iZ (np : Int)), .ref ow, .ref om, .ref ok_, .ref oK, .ref og, .ref on_, .ref oh, .ref ox, .int qn, .int qf, .ref op_, .int ql])), (ow, .inl (cI, 108000, .inl fx5)), (om, .inl (cI, 9, .inl fy5))] H := hP
              have hD : va_D A [(og, .inl (cI, 32, .inl fs)), (on_, .inl (cI, 32, .inl fn)), (ok_, .inl (cI, 166400, .inl fk)), (oK, .inl (cI, 64, .inl fK)), (oh, .inl (cI, 10000, .inl fh4)), (mo, .inr (8, [.int (iZ 0), .int (iZ (np : Int)), .ref ow, .ref om, .ref ok_, .ref oK, .ref og, .ref on_, .ref oh, .ref ox, .int qn, .int qf, .ref op_, .int ql])), (ow, .inl (cI, 108000, .inl fx5)), (om, .inl (cI, 9, .inl fy5))] := hD
              show W p l e R s m args below meth c H locs _ _ Q (F0 m 134 ls [.int (iZ rc), .int (iZ ((bl (tv a) : Int) - (bl (bv a) : Int) - (pb : Int)))])
              rw [z50, z51] at gq
              have t0 : (rc < 0 ↔ ((tv a * 2 ^ (bl (bv a) - bl (tv a)) : Nat) : Int) < ((bv a * 2 ^ (bl (tv a) - bl (bv a)) : Nat) : Int)) ∧ (-1 ≤ rc ∧ rc ≤ 1) := by rw [gq]; exact ⟨cmpZ_lt, cmpZ_r _ _⟩
              clear gq
              have xs : (rc < 0 ∧ xE (tv a) (bv a) = (bl (tv a) : Int) - (bl (bv a) : Int) - 1) ∨ (0 ≤ rc ∧ xE (tv a) (bv a) = (bl (tv a) : Int) - (bl (bv a) : Int)) := by unfold xE; by_cases z : tv a * 2 ^ (bl (bv a) - bl (tv a)) < bv a * 2 ^ (bl (tv a) - bl (bv a)); (left; rw [if_pos z]; omega); (right; rw [if_neg z]; omega)
              have trc := t0.2
              clear t0
              refine zz_if_lt (tgt := 141) hx hb d_Mo_round_134 (by decide) (by omega) (fun c134 => ?_) (fun c134 => ?_)
              · refine lv_iconst (v := iZ (0)) hx hb d_Mo_round_141 (by decide +kernel) ?_
                refine zz_iadd hx hb d_Mo_round_142 ?_
                refine lv_istore (lv' := [(4, .int (iZ ((bl (tv a) : Int) - (bl (bv a) : Int) - (pb : Int) + 0))), (5, .int (iZ ((bl (tv a) : Int) - (bl (bv a) : Int) - (pb : Int) + (pb : Int)))), (0, .ref mo), (1, .int (iZ (to : Int))), (2, .int (iZ (a : Int))), (3, .int (iZ (pb : Int)))]) hx hb d_Mo_round_143 hl (by decide) rfl (fun ls hl => ?_)
                refine lv_aload_n hx hb d_Mo_round_145 rfl (lv_at hl 2 rfl) ?_
                refine lv_iload_n hx hb d_Mo_round_146 rfl (lv_at hl 3 rfl) ?_
                refine lv_iload_n hx hb d_Mo_round_147 rfl (lv_at hl 4 rfl) ?_
                refine lv_iload hx hb d_Mo_round_148 (lv_at hl 0 rfl) ?_
                rw [show ((bl (tv a) : Int) - (bl (bv a) : Int) - (pb : Int) + 0 : Int) = (E : Int) by omega]
                refine cv (n := 3) (wr := []) (w1 := (fun (u : (Nat → Int32) × (Nat → Int32) × (Nat → Int32) × (Nat → Nat)) => [(mo, .inr (8, [.int (iZ 3), .int (iZ (np : Int)), .ref ow, .ref om, .ref ok_, .ref oK, .ref og, .ref on_, .ref oh, .ref ox, .int qn, .int qf, .ref op_, .int ql])), (ow, .inl (cI, 108000, .inl u.1)), (om, .inl (cI, 9, .inl u.2.1)), (oh, .inl (cI, 10000, .inl u.2.2.1)), (ok_, .inl (cI, 166400, .inl fk)), (oK, .inl (cI, 64, .inl fK)), (og, .inl (cI, 32, .inl fs)), (on_, .inl (cI, 32, .inl fn))])) (As := [.int (iZ (to : Int)), .int (iZ (a : Int)), .int (iZ (E : Int))]) (rest := []) K hP hD hK hS hA hl.1 (f_Mo_multipleUp l D mo (iZ 0) np ow om ok_ oK og on_ oh ox qn qf op_ ql fx5 fy5 cI fh4 fk fK fs fn v5 tv bv sg to a E H.size w5 hMR hnd hnp J hbv t1 t2 hE hfit) [5, 6, 7, 4, 2, 3, 0, 1] [] [0] rfl rfl rfl (by decide) (by decide) (by decide) 0 rfl rfl (big_in mw_1329 rfl) (big_in mw_10 rfl) (big_in mw_1326 rfl) (big_in mw_1328 rfl) (big_in sp_44 rfl) rfl rfl (by decide +kernel) ⟨by rw [hR]; exact Nat.le_of_ble_eq_true rfl, by rw [hR]; exact Nat.le_of_ble_eq_true rfl⟩ rfl (Nat.le_of_ble_eq_true rfl) d_Mo_round_150 ⟨by rw [hR]; exact Nat.le_of_ble_eq_true rfl, by rw [hR]; exact Nat.le_of_ble_eq_true rfl⟩ rfl (fun v u H locs hp14 hP hD hS _ => ?_)
                obtain ⟨fa, fb, fc, v9⟩ := u
                try dsimp only at hp14
                obtain ⟨rfl, w9⟩ := hp14
                have hP : va_P D cls0 [(mo, .inr (8, [.int (iZ 3), .int (iZ (np : Int)), .ref ow, .ref om, .ref ok_, .ref oK, .ref og, .ref on_, .ref oh, .ref ox, .int qn, .int qf, .ref op_, .int ql])), (ow, .inl (cI, 108000, .inl fa)), (om, .inl (cI, 9, .inl fb)), (oh, .inl (cI, 10000, .inl fc)), (ok_, .inl (cI, 166400, .inl fk)), (oK, .inl (cI, 64, .inl fK)), (og, .inl (cI, 32, .inl fs)), (on_, .inl (cI, 32, .inl fn))] H := hP
                have hD : va_D A [(mo, .inr (8, [.int (iZ 3), .int (iZ (np : Int)), .ref ow, .ref om, .ref ok_, .ref oK, .ref og, .ref on_, .ref oh, .ref ox, .int qn, .int qf, .ref op_, .int ql])), (ow, .inl (cI, 108000, .inl fa)), (om, .inl (cI, 9, .inl fb)), (oh, .inl (cI, 10000, .inl fc)), (ok_, .inl (cI, 166400, .inl fk)), (oK, .inl (cI, 64, .inl fK)), (og, .inl (cI, 32, .inl fs)), (on_, .inl (cI, 32, .inl fn))] := hD
                show W p l e R s m args below meth c H locs _ _ Q (F0 m 153 ls [.int (iZ 0)])
                have hP9 : va_P D cls0 [(mo, .inr (8, [.int (iZ 3), .int (iZ (np : Int)), .ref ow, .ref om, .ref ok_, .ref oK, .ref og, .ref on_, .ref oh, .ref ox, .int qn, .int qf, .ref op_, .int ql])), (ow, .inl (cI, 108000, .inl fa)), (om, .inl (cI, 9, .inl fb)), (oh, .inl (cI, 10000, .inl fc)), (ok_, .inl (cI, 166400, .inl fk)), (oK, .inl (cI, 64, .inl fK)), (og, .inl (cI, 32, .inl fs)), (on_, .inl (cI, 32, .inl fn))] H := hP.sub [0, 1, 2, 3, 4, 5, 6, 7] rfl
                have hD9 : va_D A [(mo, .inr (8, [.int (iZ 3), .int (iZ (np : Int)), .ref ow, .ref om, .ref ok_, .ref oK, .ref og, .ref on_, .ref oh, .ref ox, .int qn, .int qf, .ref op_, .int ql])), (ow, .inl (cI, 108000, .inl fa)), (om, .inl (cI, 9, .inl fb)), (oh, .inl (cI, 10000, .inl fc)), (ok_, .inl (cI, 166400, .inl fk)), (oK, .inl (cI, 64, .inl fK)), (og, .inl (cI, 32, .inl fs)), (on_, .inl (cI, 32, .inl fn))] := hD.sub [0, 1, 2, 3, 4, 5, 6, 7] (by decide) rfl
                rw [hQ, ← hAe]
                refine r_i (v := (iZ 0)) K (fa, fb, fc, v9) hS d_Mo_round_153 ?_ (fun t ht hv => ?_)
                · exact ⟨rfl, w9⟩
                · exact ⟨by rw [ht]; exact hP9, va_K.moved hv hK, by rw [← hAe]; exact hD9⟩
              · refine lv_iconst (v := iZ (1)) hx hb d_Mo_round_137 (by decide +kernel) ?_
                refine lv_goto (tgt := 142) hx hb d_Mo_round_138 (by decide) ?_
                refine zz_iadd hx hb d_Mo_round_142 ?_
                refine lv_istore (lv' := [(4, .int (iZ ((bl (tv a) : Int) - (bl (bv a) : Int) - (pb : Int) + 1))), (5, .int (iZ ((bl (tv a) : Int) - (bl (bv a) : Int) - (pb : Int) + (pb : Int)))), (0, .ref mo), (1, .int (iZ (to : Int))), (2, .int (iZ (a : Int))), (3, .int (iZ (pb : Int)))]) hx hb d_Mo_round_143 hl (by decide) rfl (fun ls hl => ?_)
                refine lv_aload_n hx hb d_Mo_round_145 rfl (lv_at hl 2 rfl) ?_
                refine lv_iload_n hx hb d_Mo_round_146 rfl (lv_at hl 3 rfl) ?_
                refine lv_iload_n hx hb d_Mo_round_147 rfl (lv_at hl 4 rfl) ?_
                refine lv_iload hx hb d_Mo_round_148 (lv_at hl 0 rfl) ?_
                rw [show ((bl (tv a) : Int) - (bl (bv a) : Int) - (pb : Int) + 1 : Int) = (E : Int) by omega]
                refine cv (n := 3) (wr := []) (w1 := (fun (u : (Nat → Int32) × (Nat → Int32) × (Nat → Int32) × (Nat → Nat)) => [(mo, .inr (8, [.int (iZ 3), .int (iZ (np : Int)), .ref ow, .ref om, .ref ok_, .ref oK, .ref og, .ref on_, .ref oh, .ref ox, .int qn, .int qf, .ref op_, .int ql])), (ow, .inl (cI, 108000, .inl u.1)), (om, .inl (cI, 9, .inl u.2.1)), (oh, .inl (cI, 10000, .inl u.2.2.1)), (ok_, .inl (cI, 166400, .inl fk)), (oK, .inl (cI, 64, .inl fK)), (og, .inl (cI, 32, .inl fs)), (on_, .inl (cI, 32, .inl fn))])) (As := [.int (iZ (to : Int)), .int (iZ (a : Int)), .int (iZ (E : Int))]) (rest := []) K hP hD hK hS hA hl.1 (f_Mo_multipleUp l D mo (iZ 0) np ow om ok_ oK og on_ oh ox qn qf op_ ql fx5 fy5 cI fh4 fk fK fs fn v5 tv bv sg to a E H.size w5 hMR hnd hnp J hbv t1 t2 hE hfit) [5, 6, 7, 4, 2, 3, 0, 1] [] [0] rfl rfl rfl (by decide) (by decide) (by decide) 0 rfl rfl (big_in mw_1329 rfl) (big_in mw_10 rfl) (big_in mw_1326 rfl) (big_in mw_1328 rfl) (big_in sp_44 rfl) rfl rfl (by decide +kernel) ⟨by rw [hR]; exact Nat.le_of_ble_eq_true rfl, by rw [hR]; exact Nat.le_of_ble_eq_true rfl⟩ rfl (Nat.le_of_ble_eq_true rfl) d_Mo_round_150 ⟨by rw [hR]; exact Nat.le_of_ble_eq_true rfl, by rw [hR]; exact Nat.le_of_ble_eq_true rfl⟩ rfl (fun v u H locs hp15 hP hD hS _ => ?_)
                obtain ⟨fa, fb, fc, v9⟩ := u
                try dsimp only at hp15
                obtain ⟨rfl, w9⟩ := hp15
                have hP : va_P D cls0 [(mo, .inr (8, [.int (iZ 3), .int (iZ (np : Int)), .ref ow, .ref om, .ref ok_, .ref oK, .ref og, .ref on_, .ref oh, .ref ox, .int qn, .int qf, .ref op_, .int ql])), (ow, .inl (cI, 108000, .inl fa)), (om, .inl (cI, 9, .inl fb)), (oh, .inl (cI, 10000, .inl fc)), (ok_, .inl (cI, 166400, .inl fk)), (oK, .inl (cI, 64, .inl fK)), (og, .inl (cI, 32, .inl fs)), (on_, .inl (cI, 32, .inl fn))] H := hP
                have hD : va_D A [(mo, .inr (8, [.int (iZ 3), .int (iZ (np : Int)), .ref ow, .ref om, .ref ok_, .ref oK, .ref og, .ref on_, .ref oh, .ref ox, .int qn, .int qf, .ref op_, .int ql])), (ow, .inl (cI, 108000, .inl fa)), (om, .inl (cI, 9, .inl fb)), (oh, .inl (cI, 10000, .inl fc)), (ok_, .inl (cI, 166400, .inl fk)), (oK, .inl (cI, 64, .inl fK)), (og, .inl (cI, 32, .inl fs)), (on_, .inl (cI, 32, .inl fn))] := hD
                show W p l e R s m args below meth c H locs _ _ Q (F0 m 153 ls [.int (iZ 0)])
                have hP9 : va_P D cls0 [(mo, .inr (8, [.int (iZ 3), .int (iZ (np : Int)), .ref ow, .ref om, .ref ok_, .ref oK, .ref og, .ref on_, .ref oh, .ref ox, .int qn, .int qf, .ref op_, .int ql])), (ow, .inl (cI, 108000, .inl fa)), (om, .inl (cI, 9, .inl fb)), (oh, .inl (cI, 10000, .inl fc)), (ok_, .inl (cI, 166400, .inl fk)), (oK, .inl (cI, 64, .inl fK)), (og, .inl (cI, 32, .inl fs)), (on_, .inl (cI, 32, .inl fn))] H := hP.sub [0, 1, 2, 3, 4, 5, 6, 7] rfl
                have hD9 : va_D A [(mo, .inr (8, [.int (iZ 3), .int (iZ (np : Int)), .ref ow, .ref om, .ref ok_, .ref oK, .ref og, .ref on_, .ref oh, .ref ox, .int qn, .int qf, .ref op_, .int ql])), (ow, .inl (cI, 108000, .inl fa)), (om, .inl (cI, 9, .inl fb)), (oh, .inl (cI, 10000, .inl fc)), (ok_, .inl (cI, 166400, .inl fk)), (oK, .inl (cI, 64, .inl fK)), (og, .inl (cI, 32, .inl fs)), (on_, .inl (cI, 32, .inl fn))] := hD.sub [0, 1, 2, 3, 4, 5, 6, 7] (by decide) rfl
                rw [hQ, ← hAe]
                refine r_i (v := (iZ 0)) K (fa, fb, fc, v9) hS d_Mo_round_153 ?_ (fun t ht hv => ?_)
                · exact ⟨rfl, w9⟩
                · exact ⟨by rw [ht]; exact hP9, va_K.moved hv hK, by rw [← hAe]; exact hD9⟩
          · refine lv_iconst (v := iZ (0)) hx hb d_Mo_round_105 (by decide +kernel) ?_
            refine lv_goto (tgt := 110) hx hb d_Mo_round_106 (by decide) ?_
            refine lv_iload hx hb d_Mo_round_110 (lv_at hl 0 rfl) ?_
            refine zz_if_ge (tgt := 121) hx hb d_Mo_round_112 (by decide) (by omega) (fun c112 => ?_) (fun c112 => ?_)
            · refine lv_iload hx hb d_Mo_round_121 (lv_at hl 0 rfl) ?_
              rw [show ((bl (tv a) : Int) - (bl (bv a) : Int) - (pb : Int) + (pb : Int) : Int) = ((bl (bv a) - bl (tv a) : Nat) : Int) by omega]
              refine cv (n := 2) (wr := [(og, .inl (cI, 32, .inl fs)), (on_, .inl (cI, 32, .inl fn)), (ok_, .inl (cI, 166400, .inl fk)), (oK, .inl (cI, 64, .inl fK)), (oh, .inl (cI, 10000, .inl fh4))]) (w1 := (fun (u : (Nat → Int32) × (Nat → Int32)) => [(mo, .inr (8, [.int (iZ 0), .int (iZ (np : Int)), .ref ow, .ref om, .ref ok_, .ref oK, .ref og, .ref on_, .ref oh, .ref ox, .int qn, .int qf, .ref op_, .int ql])), (ow, .inl (cI, 108000, .inl u.1)), (om, .inl (cI, 9, .inl u.2))])) (As := [.int (iZ 0), .int (iZ ((bl (bv a) - bl (tv a) : Nat) : Int))]) (rest := []) K hP hD hK hS hA hl.1 (c_Mo_doubled l D mo (iZ 0) np ow om ok_ oK og on_ oh ox qn qf op_ ql fx4 fy4 cI v4 0 (bl (bv a) - bl (tv a)) H.size w4 (by decide) (by omega) (by rw [z40]; have z := nd_shl (tv a) (bl (bv a) - bl (tv a)); omega)) [4, 5, 6] [0, 1, 2, 3, 7] [0] rfl rfl rfl (by decide) (by decide) (by decide) 0 rfl rfl (big_in mw_1320 rfl) (big_in mw_10 rfl) (big_in mw_1317 rfl) (big_in mw_1319 rfl) (big_in sp_42 rfl) rfl rfl (by decide +kernel) ⟨by rw [hR]; exact Nat.le_of_ble_eq_true rfl, by rw [hR]; exact Nat.le_of_ble_eq_true rfl⟩ rfl (Nat.le_of_ble_eq_true rfl) d_Mo_round_123 ⟨by rw [hR]; exact Nat.le_of_ble_eq_true rfl, by rw [hR]; exact Nat.le_of_ble_eq_true rfl⟩ rfl (fun v u H locs hp16 hP hD hS _ => ?_)
              obtain ⟨fx5, fy5⟩ := u
              try dsimp only at hp16
              obtain ⟨rfl, w5⟩ := hp16
              have hP : va_P D cls0 [(og, .inl (cI, 32, .inl fs)), (on_, .inl (cI, 32, .inl fn)), (ok_, .inl (cI, 166400, .inl fk)), (oK, .inl (cI, 64, .inl fK)), (oh, .inl (cI, 10000, .inl fh4)), (mo, .inr (8, [.int (iZ 0), .int (iZ (np : Int)), .ref ow, .ref om, .ref ok_, .ref oK, .ref og, .ref on_, .ref oh, .ref ox, .int qn, .int qf, .ref op_, .int ql])), (ow, .inl (cI, 108000, .inl fx5)), (om, .inl (cI, 9, .inl fy5))] H := hP
              have hD : va_D A [(og, .inl (cI, 32, .inl fs)), (on_, .inl (cI, 32, .inl fn)), (ok_, .inl (cI, 166400, .inl fk)), (oK, .inl (cI, 64, .inl fK)), (oh, .inl (cI, 10000, .inl fh4)), (mo, .inr (8, [.int (iZ 0), .int (iZ (np : Int)), .ref ow, .ref om, .ref ok_, .ref oK, .ref og, .ref on_, .ref oh, .ref ox, .int qn, .int qf, .ref op_, .int ql])), (ow, .inl (cI, 108000, .inl fx5)), (om, .inl (cI, 9, .inl fy5))] := hD
              show W p l e R s m args below meth c H locs _ _ Q (F0 m 126 ls [])
              rw [z40] at w5
              obtain ⟨v5, hv5⟩ : ∃ z, z = up v4 0 (tv a * 2 ^ (bl (bv a) - bl (tv a))) := ⟨_, rfl⟩
              rw [← hv5] at w5
              have z50 : v5 0 = tv a * 2 ^ (bl (bv a) - bl (tv a)) := by rw [hv5, up_s]
              have z51 : v5 1 = bv a * 2 ^ (bl (tv a) - bl (bv a)) := by rw [hv5, up_n (by decide), z41, show bl (tv a) - bl (bv a) = 0 by omega, Nat.pow_zero, Nat.mul_one]
              refine lv_iload hx hb d_Mo_round_126 (lv_at hl 1 rfl) ?_
              refine lv_aload_n hx hb d_Mo_round_128 rfl (lv_at hl 2 rfl) ?_
              refine lv_iconst (v := iZ (0)) hx hb d_Mo_round_129 (by decide +kernel) ?_
              refine lv_iconst (v := iZ (1)) hx hb d_Mo_round_130 (by decide +kernel) ?_
              refine cv (n := 2) (wr := [(og, .inl (cI, 32, .inl fs)), (on_, .inl (cI, 32, .inl fn)), (ok_, .inl (cI, 166400, .inl fk)), (oK, .inl (cI, 64, .inl fK)), (oh, .inl (cI, 10000, .inl fh4))]) (w1 := (fun (u : Int) => [(mo, .inr (8, [.int (iZ 0), .int (iZ (np : Int)), .ref ow, .ref om, .ref ok_, .ref oK, .ref og, .ref on_, .ref oh, .ref ox, .int qn, .int qf, .ref op_, .int ql])), (ow, .inl (cI, 108000, .inl fx5)), (om, .inl (cI, 9, .inl fy5))])) (As := [.int (iZ 0), .int (iZ 1)]) (rest := [.int (iZ ((bl (tv a) : Int) - (bl (bv a) : Int) - (pb : Int)))]) K hP hD hK hS hA hl.1 (c_Mo_order l D mo (iZ 0) np ow om ok_ oK og on_ oh ox qn qf op_ ql fx5 fy5 cI v5 0 1 H.size w5 (by omega) (by omega)) [5, 6, 7] [0, 1, 2, 3, 4] [0] rfl rfl rfl (by decide) (by decide) (by decide) 0 rfl rfl (big_in mw_1270 rfl) (big_in mw_10 rfl) (big_in mw_1267 rfl) (big_in mw_1269 rfl) (big_in sp_37 rfl) rfl rfl (by decide +kernel) ⟨by rw [hR]; exact Nat.le_of_ble_eq_true rfl, by rw [hR]; exact Nat.le_of_ble_eq_true rfl⟩ rfl (Nat.le_of_ble_eq_true rfl) d_Mo_round_131 ⟨by rw [hR]; exact Nat.le_of_ble_eq_true rfl, by rw [hR]; exact Nat.le_of_ble_eq_true rfl⟩ rfl (fun v u H locs hp17 hP hD hS _ => ?_)
              obtain ⟨rc, rfl⟩ : ∃ z, z = u := ⟨_, rfl⟩
              obtain ⟨rfl, gq⟩ := hp17
              have hP : va_P D cls0 [(og, .inl (cI, 32, .inl fs)), (on_, .inl (cI, 32, .inl fn)), (ok_, .inl (cI, 166400, .inl fk)), (oK, .inl (cI, 64, .inl fK)), (oh, .inl (cI, 10000, .inl fh4)), (mo, .inr (8, [.int (iZ 0), .int (iZ (np : Int)), .ref ow, .ref om, .ref ok_, .ref oK, .ref og, .ref on_, .ref oh, .ref ox, .int qn, .int qf, .ref op_, .int ql])), (ow, .inl (cI, 108000, .inl fx5)), (om, .inl (cI, 9, .inl fy5))] H := hP
              have hD : va_D A [(og, .inl (cI, 32, .inl fs)), (on_, .inl (cI, 32, .inl fn)), (ok_, .inl (cI, 166400, .inl fk)), (oK, .inl (cI, 64, .inl fK)), (oh, .inl (cI, 10000, .inl fh4)), (mo, .inr (8, [.int (iZ 0), .int (iZ (np : Int)), .ref ow, .ref om, .ref ok_, .ref oK, .ref og, .ref on_, .ref oh, .ref ox, .int qn, .int qf, .ref op_, .int ql])), (ow, .inl (cI, 108000, .inl fx5)), (om, .inl (cI, 9, .inl fy5))] := hD
              show W p l e R s m args below meth c H locs _ _ Q (F0 m 134 ls [.int (iZ rc), .int (iZ ((bl (tv a) : Int) - (bl (bv a) : Int) - (pb : Int)))])
              rw [z50, z51] at gq
              have t0 : (rc < 0 ↔ ((tv a * 2 ^ (bl (bv a) - bl (tv a)) : Nat) : Int) < ((bv a * 2 ^ (bl (tv a) - bl (bv a)) : Nat) : Int)) ∧ (-1 ≤ rc ∧ rc ≤ 1) := by rw [gq]; exact ⟨cmpZ_lt, cmpZ_r _ _⟩
              clear gq
              have xs : (rc < 0 ∧ xE (tv a) (bv a) = (bl (tv a) : Int) - (bl (bv a) : Int) - 1) ∨ (0 ≤ rc ∧ xE (tv a) (bv a) = (bl (tv a) : Int) - (bl (bv a) : Int)) := by unfold xE; by_cases z : tv a * 2 ^ (bl (bv a) - bl (tv a)) < bv a * 2 ^ (bl (tv a) - bl (bv a)); (left; rw [if_pos z]; omega); (right; rw [if_neg z]; omega)
              have trc := t0.2
              clear t0
              refine zz_if_lt (tgt := 141) hx hb d_Mo_round_134 (by decide) (by omega) (fun c134 => ?_) (fun c134 => ?_)
              · refine lv_iconst (v := iZ (0)) hx hb d_Mo_round_141 (by decide +kernel) ?_
                refine zz_iadd hx hb d_Mo_round_142 ?_
                refine lv_istore (lv' := [(4, .int (iZ ((bl (tv a) : Int) - (bl (bv a) : Int) - (pb : Int) + 0))), (5, .int (iZ ((bl (tv a) : Int) - (bl (bv a) : Int) - (pb : Int) + (pb : Int)))), (0, .ref mo), (1, .int (iZ (to : Int))), (2, .int (iZ (a : Int))), (3, .int (iZ (pb : Int)))]) hx hb d_Mo_round_143 hl (by decide) rfl (fun ls hl => ?_)
                refine lv_aload_n hx hb d_Mo_round_145 rfl (lv_at hl 2 rfl) ?_
                refine lv_iload_n hx hb d_Mo_round_146 rfl (lv_at hl 3 rfl) ?_
                refine lv_iload_n hx hb d_Mo_round_147 rfl (lv_at hl 4 rfl) ?_
                refine lv_iload hx hb d_Mo_round_148 (lv_at hl 0 rfl) ?_
                rw [show ((bl (tv a) : Int) - (bl (bv a) : Int) - (pb : Int) + 0 : Int) = (E : Int) by omega]
                refine cv (n := 3) (wr := []) (w1 := (fun (u : (Nat → Int32) × (Nat → Int32) × (Nat → Int32) × (Nat → Nat)) => [(mo, .inr (8, [.int (iZ 3), .int (iZ (np : Int)), .ref ow, .ref om, .ref ok_, .ref oK, .ref og, .ref on_, .ref oh, .ref ox, .int qn, .int qf, .ref op_, .int ql])), (ow, .inl (cI, 108000, .inl u.1)), (om, .inl (cI, 9, .inl u.2.1)), (oh, .inl (cI, 10000, .inl u.2.2.1)), (ok_, .inl (cI, 166400, .inl fk)), (oK, .inl (cI, 64, .inl fK)), (og, .inl (cI, 32, .inl fs)), (on_, .inl (cI, 32, .inl fn))])) (As := [.int (iZ (to : Int)), .int (iZ (a : Int)), .int (iZ (E : Int))]) (rest := []) K hP hD hK hS hA hl.1 (f_Mo_multipleUp l D mo (iZ 0) np ow om ok_ oK og on_ oh ox qn qf op_ ql fx5 fy5 cI fh4 fk fK fs fn v5 tv bv sg to a E H.size w5 hMR hnd hnp J hbv t1 t2 hE hfit) [5, 6, 7, 4, 2, 3, 0, 1] [] [0] rfl rfl rfl (by decide) (by decide) (by decide) 0 rfl rfl (big_in mw_1329 rfl) (big_in mw_10 rfl) (big_in mw_1326 rfl) (big_in mw_1328 rfl) (big_in sp_44 rfl) rfl rfl (by decide +kernel) ⟨by rw [hR]; exact Nat.le_of_ble_eq_true rfl, by rw [hR]; exact Nat.le_of_ble_eq_true rfl⟩ rfl (Nat.le_of_ble_eq_true rfl) d_Mo_round_150 ⟨by rw [hR]; exact Nat.le_of_ble_eq_true rfl, by rw [hR]; exact Nat.le_of_ble_eq_true rfl⟩ rfl (fun v u H locs hp18 hP hD hS _ => ?_)
                obtain ⟨fa, fb, fc, v9⟩ := u
                try dsimp only at hp18
                obtain ⟨rfl, w9⟩ := hp18
                have hP : va_P D cls0 [(mo, .inr (8, [.int (iZ 3), .int (iZ (np : Int)), .ref ow, .ref om, .ref ok_, .ref oK, .ref og, .ref on_, .ref oh, .ref ox, .int qn, .int qf, .ref op_, .int ql])), (ow, .inl (cI, 108000, .inl fa)), (om, .inl (cI, 9, .inl fb)), (oh, .inl (cI, 10000, .inl fc)), (ok_, .inl (cI, 166400, .inl fk)), (oK, .inl (cI, 64, .inl fK)), (og, .inl (cI, 32, .inl fs)), (on_, .inl (cI, 32, .inl fn))] H := hP
                have hD : va_D A [(mo, .inr (8, [.int (iZ 3), .int (iZ (np : Int)), .ref ow, .ref om, .ref ok_, .ref oK, .ref og, .ref on_, .ref oh, .ref ox, .int qn, .int qf, .ref op_, .int ql])), (ow, .inl (cI, 108000, .inl fa)), (om, .inl (cI, 9, .inl fb)), (oh, .inl (cI, 10000, .inl fc)), (ok_, .inl (cI, 166400, .inl fk)), (oK, .inl (cI, 64, .inl fK)), (og, .inl (cI, 32, .inl fs)), (on_, .inl (cI, 32, .inl fn))] := hD
                show W p l e R s m args below meth c H locs _ _ Q (F0 m 153 ls [.int (iZ 0)])
                have hP9 : va_P D cls0 [(mo, .inr (8, [.int (iZ 3), .int (iZ (np : Int)), .ref ow, .ref om, .ref ok_, .ref oK, .ref og, .ref on_, .ref oh, .ref ox, .int qn, .int qf, .ref op_, .int ql])), (ow, .inl (cI, 108000, .inl fa)), (om, .inl (cI, 9, .inl fb)), (oh, .inl (cI, 10000, .inl fc)), (ok_, .inl (cI, 166400, .inl fk)), (oK, .inl (cI, 64, .inl fK)), (og, .inl (cI, 32, .inl fs)), (on_, .inl (cI, 32, .inl fn))] H := hP.sub [0, 1, 2, 3, 4, 5, 6, 7] rfl
                have hD9 : va_D A [(mo, .inr (8, [.int (iZ 3), .int (iZ (np : Int)), .ref ow, .ref om, .ref ok_, .ref oK, .ref og, .ref on_, .ref oh, .ref ox, .int qn, .int qf, .ref op_, .int ql])), (ow, .inl (cI, 108000, .inl fa)), (om, .inl (cI, 9, .inl fb)), (oh, .inl (cI, 10000, .inl fc)), (ok_, .inl (cI, 166400, .inl fk)), (oK, .inl (cI, 64, .inl fK)), (og, .inl (cI, 32, .inl fs)), (on_, .inl (cI, 32, .inl fn))] := hD.sub [0, 1, 2, 3, 4, 5, 6, 7] (by decide) rfl
                rw [hQ, ← hAe]
                refine r_i (v := (iZ 0)) K (fa, fb, fc, v9) hS d_Mo_round_153 ?_ (fun t ht hv => ?_)
                · exact ⟨rfl, w9⟩
                · exact ⟨by rw [ht]; exact hP9, va_K.moved hv hK, by rw [← hAe]; exact hD9⟩
              · refine lv_iconst (v := iZ (1)) hx hb d_Mo_round_137 (by decide +kernel) ?_
                refine lv_goto (tgt := 142) hx hb d_Mo_round_138 (by decide) ?_
                refine zz_iadd hx hb d_Mo_round_142 ?_
                refine lv_istore (lv' := [(4, .int (iZ ((bl (tv a) : Int) - (bl (bv a) : Int) - (pb : Int) + 1))), (5, .int (iZ ((bl (tv a) : Int) - (bl (bv a) : Int) - (pb : Int) + (pb : Int)))), (0, .ref mo), (1, .int (iZ (to : Int))), (2, .int (iZ (a : Int))), (3, .int (iZ (pb : Int)))]) hx hb d_Mo_round_143 hl (by decide) rfl (fun ls hl => ?_)
                refine lv_aload_n hx hb d_Mo_round_145 rfl (lv_at hl 2 rfl) ?_
                refine lv_iload_n hx hb d_Mo_round_146 rfl (lv_at hl 3 rfl) ?_
                refine lv_iload_n hx hb d_Mo_round_147 rfl (lv_at hl 4 rfl) ?_
                refine lv_iload hx hb d_Mo_round_148 (lv_at hl 0 rfl) ?_
                rw [show ((bl (tv a) : Int) - (bl (bv a) : Int) - (pb : Int) + 1 : Int) = (E : Int) by omega]
                refine cv (n := 3) (wr := []) (w1 := (fun (u : (Nat → Int32) × (Nat → Int32) × (Nat → Int32) × (Nat → Nat)) => [(mo, .inr (8, [.int (iZ 3), .int (iZ (np : Int)), .ref ow, .ref om, .ref ok_, .ref oK, .ref og, .ref on_, .ref oh, .ref ox, .int qn, .int qf, .ref op_, .int ql])), (ow, .inl (cI, 108000, .inl u.1)), (om, .inl (cI, 9, .inl u.2.1)), (oh, .inl (cI, 10000, .inl u.2.2.1)), (ok_, .inl (cI, 166400, .inl fk)), (oK, .inl (cI, 64, .inl fK)), (og, .inl (cI, 32, .inl fs)), (on_, .inl (cI, 32, .inl fn))])) (As := [.int (iZ (to : Int)), .int (iZ (a : Int)), .int (iZ (E : Int))]) (rest := []) K hP hD hK hS hA hl.1 (f_Mo_multipleUp l D mo (iZ 0) np ow om ok_ oK og on_ oh ox qn qf op_ ql fx5 fy5 cI fh4 fk fK fs fn v5 tv bv sg to a E H.size w5 hMR hnd hnp J hbv t1 t2 hE hfit) [5, 6, 7, 4, 2, 3, 0, 1] [] [0] rfl rfl rfl (by decide) (by decide) (by decide) 0 rfl rfl (big_in mw_1329 rfl) (big_in mw_10 rfl) (big_in mw_1326 rfl) (big_in mw_1328 rfl) (big_in sp_44 rfl) rfl rfl (by decide +kernel) ⟨by rw [hR]; exact Nat.le_of_ble_eq_true rfl, by rw [hR]; exact Nat.le_of_ble_eq_true rfl⟩ rfl (Nat.le_of_ble_eq_true rfl) d_Mo_round_150 ⟨by rw [hR]; exact Nat.le_of_ble_eq_true rfl, by rw [hR]; exact Nat.le_of_ble_eq_true rfl⟩ rfl (fun v u H locs hp19 hP hD hS _ => ?_)
                obtain ⟨fa, fb, fc, v9⟩ := u
                try dsimp only at hp19
                obtain ⟨rfl, w9⟩ := hp19
                have hP : va_P D cls0 [(mo, .inr (8, [.int (iZ 3), .int (iZ (np : Int)), .ref ow, .ref om, .ref ok_, .ref oK, .ref og, .ref on_, .ref oh, .ref ox, .int qn, .int qf, .ref op_, .int ql])), (ow, .inl (cI, 108000, .inl fa)), (om, .inl (cI, 9, .inl fb)), (oh, .inl (cI, 10000, .inl fc)), (ok_, .inl (cI, 166400, .inl fk)), (oK, .inl (cI, 64, .inl fK)), (og, .inl (cI, 32, .inl fs)), (on_, .inl (cI, 32, .inl fn))] H := hP
                have hD : va_D A [(mo, .inr (8, [.int (iZ 3), .int (iZ (np : Int)), .ref ow, .ref om, .ref ok_, .ref oK, .ref og, .ref on_, .ref oh, .ref ox, .int qn, .int qf, .ref op_, .int ql])), (ow, .inl (cI, 108000, .inl fa)), (om, .inl (cI, 9, .inl fb)), (oh, .inl (cI, 10000, .inl fc)), (ok_, .inl (cI, 166400, .inl fk)), (oK, .inl (cI, 64, .inl fK)), (og, .inl (cI, 32, .inl fs)), (on_, .inl (cI, 32, .inl fn))] := hD
                show W p l e R s m args below meth c H locs _ _ Q (F0 m 153 ls [.int (iZ 0)])
                have hP9 : va_P D cls0 [(mo, .inr (8, [.int (iZ 3), .int (iZ (np : Int)), .ref ow, .ref om, .ref ok_, .ref oK, .ref og, .ref on_, .ref oh, .ref ox, .int qn, .int qf, .ref op_, .int ql])), (ow, .inl (cI, 108000, .inl fa)), (om, .inl (cI, 9, .inl fb)), (oh, .inl (cI, 10000, .inl fc)), (ok_, .inl (cI, 166400, .inl fk)), (oK, .inl (cI, 64, .inl fK)), (og, .inl (cI, 32, .inl fs)), (on_, .inl (cI, 32, .inl fn))] H := hP.sub [0, 1, 2, 3, 4, 5, 6, 7] rfl
                have hD9 : va_D A [(mo, .inr (8, [.int (iZ 3), .int (iZ (np : Int)), .ref ow, .ref om, .ref ok_, .ref oK, .ref og, .ref on_, .ref oh, .ref ox, .int qn, .int qf, .ref op_, .int ql])), (ow, .inl (cI, 108000, .inl fa)), (om, .inl (cI, 9, .inl fb)), (oh, .inl (cI, 10000, .inl fc)), (ok_, .inl (cI, 166400, .inl fk)), (oK, .inl (cI, 64, .inl fK)), (og, .inl (cI, 32, .inl fs)), (on_, .inl (cI, 32, .inl fn))] := hD.sub [0, 1, 2, 3, 4, 5, 6, 7] (by decide) rfl
                rw [hQ, ← hAe]
                refine r_i (v := (iZ 0)) K (fa, fb, fc, v9) hS d_Mo_round_153 ?_ (fun t ht hv => ?_)
                · exact ⟨rfl, w9⟩
                · exact ⟨by rw [ht]; exact hP9, va_K.moved hv hK, by rw [← hAe]; exact hD9⟩
            · refine lv_iload hx hb d_Mo_round_115 (lv_at hl 0 rfl) ?_
              refine zz_ineg hx hb d_Mo_round_117 ?_
              refine lv_goto (tgt := 123) hx hb d_Mo_round_118 (by decide) ?_
              rw [show (-((bl (tv a) : Int) - (bl (bv a) : Int) - (pb : Int) + (pb : Int)) : Int) = ((bl (bv a) - bl (tv a) : Nat) : Int) by omega]
              refine cv (n := 2) (wr := [(og, .inl (cI, 32, .inl fs)), (on_, .inl (cI, 32, .inl fn)), (ok_, .inl (cI, 166400, .inl fk)), (oK, .inl (cI, 64, .inl fK)), (oh, .inl (cI, 10000, .inl fh4))]) (w1 := (fun (u : (Nat → Int32) × (Nat → Int32)) => [(mo, .inr (8, [.int (iZ 0), .int (iZ (np : Int)), .ref ow, .ref om, .ref ok_, .ref oK, .ref og, .ref on_, .ref oh, .ref ox, .int qn, .int qf, .ref op_, .int ql])), (ow, .inl (cI, 108000, .inl u.1)), (om, .inl (cI, 9, .inl u.2))])) (As := [.int (iZ 0), .int (iZ ((bl (bv a) - bl (tv a) : Nat) : Int))]) (rest := []) K hP hD hK hS hA hl.1 (c_Mo_doubled l D mo (iZ 0) np ow om ok_ oK og on_ oh ox qn qf op_ ql fx4 fy4 cI v4 0 (bl (bv a) - bl (tv a)) H.size w4 (by decide) (by omega) (by rw [z40]; have z := nd_shl (tv a) (bl (bv a) - bl (tv a)); omega)) [4, 5, 6] [0, 1, 2, 3, 7] [0] rfl rfl rfl (by decide) (by decide) (by decide) 0 rfl rfl (big_in mw_1320 rfl) (big_in mw_10 rfl) (big_in mw_1317 rfl) (big_in mw_1319 rfl) (big_in sp_42 rfl) rfl rfl (by decide +kernel) ⟨by rw [hR]; exact Nat.le_of_ble_eq_true rfl, by rw [hR]; exact Nat.le_of_ble_eq_true rfl⟩ rfl (Nat.le_of_ble_eq_true rfl) d_Mo_round_123 ⟨by rw [hR]; exact Nat.le_of_ble_eq_true rfl, by rw [hR]; exact Nat.le_of_ble_eq_true rfl⟩ rfl (fun v u H locs hp20 hP hD hS _ => ?_)
              obtain ⟨fx5, fy5⟩ := u
              try dsimp only at hp20
              obtain ⟨rfl, w5⟩ := hp20
              have hP : va_P D cls0 [(og, .inl (cI, 32, .inl fs)), (on_, .inl (cI, 32, .inl fn)), (ok_, .inl (cI, 166400, .inl fk)), (oK, .inl (cI, 64, .inl fK)), (oh, .inl (cI, 10000, .inl fh4)), (mo, .inr (8, [.int (iZ 0), .int (iZ (np : Int)), .ref ow, .ref om, .ref ok_, .ref oK, .ref og, .ref on_, .ref oh, .ref ox, .int qn, .int qf, .ref op_, .int ql])), (ow, .inl (cI, 108000, .inl fx5)), (om, .inl (cI, 9, .inl fy5))] H := hP
              have hD : va_D A [(og, .inl (cI, 32, .inl fs)), (on_, .inl (cI, 32, .inl fn)), (ok_, .inl (cI, 166400, .inl fk)), (oK, .inl (cI, 64, .inl fK)), (oh, .inl (cI, 10000, .inl fh4)), (mo, .inr (8, [.int (iZ 0), .int (iZ (np : Int)), .ref ow, .ref om, .ref ok_, .ref oK, .ref og, .ref on_, .ref oh, .ref ox, .int qn, .int qf, .ref op_, .int ql])), (ow, .inl (cI, 108000, .inl fx5)), (om, .inl (cI, 9, .inl fy5))] := hD
              show W p l e R s m args below meth c H locs _ _ Q (F0 m 126 ls [])
              rw [z40] at w5
              obtain ⟨v5, hv5⟩ : ∃ z, z = up v4 0 (tv a * 2 ^ (bl (bv a) - bl (tv a))) := ⟨_, rfl⟩
              rw [← hv5] at w5
              have z50 : v5 0 = tv a * 2 ^ (bl (bv a) - bl (tv a)) := by rw [hv5, up_s]
              have z51 : v5 1 = bv a * 2 ^ (bl (tv a) - bl (bv a)) := by rw [hv5, up_n (by decide), z41, show bl (tv a) - bl (bv a) = 0 by omega, Nat.pow_zero, Nat.mul_one]
              refine lv_iload hx hb d_Mo_round_126 (lv_at hl 1 rfl) ?_
              refine lv_aload_n hx hb d_Mo_round_128 rfl (lv_at hl 2 rfl) ?_
              refine lv_iconst (v := iZ (0)) hx hb d_Mo_round_129 (by decide +kernel) ?_
              refine lv_iconst (v := iZ (1)) hx hb d_Mo_round_130 (by decide +kernel) ?_
              refine cv (n := 2) (wr := [(og, .inl (cI, 32, .inl fs)), (on_, .inl (cI, 32, .inl fn)), (ok_, .inl (cI, 166400, .inl fk)), (oK, .inl (cI, 64, .inl fK)), (oh, .inl (cI, 10000, .inl fh4))]) (w1 := (fun (u : Int) => [(mo, .inr (8, [.int (iZ 0), .int (iZ (np : Int)), .ref ow, .ref om, .ref ok_, .ref oK, .ref og, .ref on_, .ref oh, .ref ox, .int qn, .int qf, .ref op_, .int ql])), (ow, .inl (cI, 108000, .inl fx5)), (om, .inl (cI, 9, .inl fy5))])) (As := [.int (iZ 0), .int (iZ 1)]) (rest := [.int (iZ ((bl (tv a) : Int) - (bl (bv a) : Int) - (pb : Int)))]) K hP hD hK hS hA hl.1 (c_Mo_order l D mo (iZ 0) np ow om ok_ oK og on_ oh ox qn qf op_ ql fx5 fy5 cI v5 0 1 H.size w5 (by omega) (by omega)) [5, 6, 7] [0, 1, 2, 3, 4] [0] rfl rfl rfl (by decide) (by decide) (by decide) 0 rfl rfl (big_in mw_1270 rfl) (big_in mw_10 rfl) (big_in mw_1267 rfl) (big_in mw_1269 rfl) (big_in sp_37 rfl) rfl rfl (by decide +kernel) ⟨by rw [hR]; exact Nat.le_of_ble_eq_true rfl, by rw [hR]; exact Nat.le_of_ble_eq_true rfl⟩ rfl (Nat.le_of_ble_eq_true rfl) d_Mo_round_131 ⟨by rw [hR]; exact Nat.le_of_ble_eq_true rfl, by rw [hR]; exact Nat.le_of_ble_eq_true rfl⟩ rfl (fun v u H locs hp21 hP hD hS _ => ?_)
              obtain ⟨rc, rfl⟩ : ∃ z, z = u := ⟨_, rfl⟩
              obtain ⟨rfl, gq⟩ := hp21
              have hP : va_P D cls0 [(og, .inl (cI, 32, .inl fs)), (on_, .inl (cI, 32, .inl fn)), (ok_, .inl (cI, 166400, .inl fk)), (oK, .inl (cI, 64, .inl fK)), (oh, .inl (cI, 10000, .inl fh4)), (mo, .inr (8, [.int (iZ 0), .int (iZ (np : Int)), .ref ow, .ref om, .ref ok_, .ref oK, .ref og, .ref on_, .ref oh, .ref ox, .int qn, .int qf, .ref op_, .int ql])), (ow, .inl (cI, 108000, .inl fx5)), (om, .inl (cI, 9, .inl fy5))] H := hP
              have hD : va_D A [(og, .inl (cI, 32, .inl fs)), (on_, .inl (cI, 32, .inl fn)), (ok_, .inl (cI, 166400, .inl fk)), (oK, .inl (cI, 64, .inl fK)), (oh, .inl (cI, 10000, .inl fh4)), (mo, .inr (8, [.int (iZ 0), .int (iZ (np : Int)), .ref ow, .ref om, .ref ok_, .ref oK, .ref og, .ref on_, .ref oh, .ref ox, .int qn, .int qf, .ref op_, .int ql])), (ow, .inl (cI, 108000, .inl fx5)), (om, .inl (cI, 9, .inl fy5))] := hD
              show W p l e R s m args below meth c H locs _ _ Q (F0 m 134 ls [.int (iZ rc), .int (iZ ((bl (tv a) : Int) - (bl (bv a) : Int) - (pb : Int)))])
              rw [z50, z51] at gq
              have t0 : (rc < 0 ↔ ((tv a * 2 ^ (bl (bv a) - bl (tv a)) : Nat) : Int) < ((bv a * 2 ^ (bl (tv a) - bl (bv a)) : Nat) : Int)) ∧ (-1 ≤ rc ∧ rc ≤ 1) := by rw [gq]; exact ⟨cmpZ_lt, cmpZ_r _ _⟩
              clear gq
              have xs : (rc < 0 ∧ xE (tv a) (bv a) = (bl (tv a) : Int) - (bl (bv a) : Int) - 1) ∨ (0 ≤ rc ∧ xE (tv a) (bv a) = (bl (tv a) : Int) - (bl (bv a) : Int)) := by unfold xE; by_cases z : tv a * 2 ^ (bl (bv a) - bl (tv a)) < bv a * 2 ^ (bl (tv a) - bl (bv a)); (left; rw [if_pos z]; omega); (right; rw [if_neg z]; omega)
              have trc := t0.2
              clear t0
              refine zz_if_lt (tgt := 141) hx hb d_Mo_round_134 (by decide) (by omega) (fun c134 => ?_) (fun c134 => ?_)
              · refine lv_iconst (v := iZ (0)) hx hb d_Mo_round_141 (by decide +kernel) ?_
                refine zz_iadd hx hb d_Mo_round_142 ?_
                refine lv_istore (lv' := [(4, .int (iZ ((bl (tv a) : Int) - (bl (bv a) : Int) - (pb : Int) + 0))), (5, .int (iZ ((bl (tv a) : Int) - (bl (bv a) : Int) - (pb : Int) + (pb : Int)))), (0, .ref mo), (1, .int (iZ (to : Int))), (2, .int (iZ (a : Int))), (3, .int (iZ (pb : Int)))]) hx hb d_Mo_round_143 hl (by decide) rfl (fun ls hl => ?_)
                refine lv_aload_n hx hb d_Mo_round_145 rfl (lv_at hl 2 rfl) ?_
                refine lv_iload_n hx hb d_Mo_round_146 rfl (lv_at hl 3 rfl) ?_
                refine lv_iload_n hx hb d_Mo_round_147 rfl (lv_at hl 4 rfl) ?_
                refine lv_iload hx hb d_Mo_round_148 (lv_at hl 0 rfl) ?_
                rw [show ((bl (tv a) : Int) - (bl (bv a) : Int) - (pb : Int) + 0 : Int) = (E : Int) by omega]
                refine cv (n := 3) (wr := []) (w1 := (fun (u : (Nat → Int32) × (Nat → Int32) × (Nat → Int32) × (Nat → Nat)) => [(mo, .inr (8, [.int (iZ 3), .int (iZ (np : Int)), .ref ow, .ref om, .ref ok_, .ref oK, .ref og, .ref on_, .ref oh, .ref ox, .int qn, .int qf, .ref op_, .int ql])), (ow, .inl (cI, 108000, .inl u.1)), (om, .inl (cI, 9, .inl u.2.1)), (oh, .inl (cI, 10000, .inl u.2.2.1)), (ok_, .inl (cI, 166400, .inl fk)), (oK, .inl (cI, 64, .inl fK)), (og, .inl (cI, 32, .inl fs)), (on_, .inl (cI, 32, .inl fn))])) (As := [.int (iZ (to : Int)), .int (iZ (a : Int)), .int (iZ (E : Int))]) (rest := []) K hP hD hK hS hA hl.1 (f_Mo_multipleUp l D mo (iZ 0) np ow om ok_ oK og on_ oh ox qn qf op_ ql fx5 fy5 cI fh4 fk fK fs fn v5 tv bv sg to a E H.size w5 hMR hnd hnp J hbv t1 t2 hE hfit) [5, 6, 7, 4, 2, 3, 0, 1] [] [0] rfl rfl rfl (by decide) (by decide) (by decide) 0 rfl rfl (big_in mw_1329 rfl) (big_in mw_10 rfl) (big_in mw_1326 rfl) (big_in mw_1328 rfl) (big_in sp_44 rfl) rfl rfl (by decide +kernel) ⟨by rw [hR]; exact Nat.le_of_ble_eq_true rfl, by rw [hR]; exact Nat.le_of_ble_eq_true rfl⟩ rfl (Nat.le_of_ble_eq_true rfl) d_Mo_round_150 ⟨by rw [hR]; exact Nat.le_of_ble_eq_true rfl, by rw [hR]; exact Nat.le_of_ble_eq_true rfl⟩ rfl (fun v u H locs hp22 hP hD hS _ => ?_)
                obtain ⟨fa, fb, fc, v9⟩ := u
                try dsimp only at hp22
                obtain ⟨rfl, w9⟩ := hp22
                have hP : va_P D cls0 [(mo, .inr (8, [.int (iZ 3), .int (iZ (np : Int)), .ref ow, .ref om, .ref ok_, .ref oK, .ref og, .ref on_, .ref oh, .ref ox, .int qn, .int qf, .ref op_, .int ql])), (ow, .inl (cI, 108000, .inl fa)), (om, .inl (cI, 9, .inl fb)), (oh, .inl (cI, 10000, .inl fc)), (ok_, .inl (cI, 166400, .inl fk)), (oK, .inl (cI, 64, .inl fK)), (og, .inl (cI, 32, .inl fs)), (on_, .inl (cI, 32, .inl fn))] H := hP
                have hD : va_D A [(mo, .inr (8, [.int (iZ 3), .int (iZ (np : Int)), .ref ow, .ref om, .ref ok_, .ref oK, .ref og, .ref on_, .ref oh, .ref ox, .int qn, .int qf, .ref op_, .int ql])), (ow, .inl (cI, 108000, .inl fa)), (om, .inl (cI, 9, .inl fb)), (oh, .inl (cI, 10000, .inl fc)), (ok_, .inl (cI, 166400, .inl fk)), (oK, .inl (cI, 64, .inl fK)), (og, .inl (cI, 32, .inl fs)), (on_, .inl (cI, 32, .inl fn))] := hD
                show W p l e R s m args below meth c H locs _ _ Q (F0 m 153 ls [.int (iZ 0)])
                have hP9 : va_P D cls0 [(mo, .inr (8, [.int (iZ 3), .int (iZ (np : Int)), .ref ow, .ref om, .ref ok_, .ref oK, .ref og, .ref on_, .ref oh, .ref ox, .int qn, .int qf, .ref op_, .int ql])), (ow, .inl (cI, 108000, .inl fa)), (om, .inl (cI, 9, .inl fb)), (oh, .inl (cI, 10000, .inl fc)), (ok_, .inl (cI, 166400, .inl fk)), (oK, .inl (cI, 64, .inl fK)), (og, .inl (cI, 32, .inl fs)), (on_, .inl (cI, 32, .inl fn))] H := hP.sub [0, 1, 2, 3, 4, 5, 6, 7] rfl
                have hD9 : va_D A [(mo, .inr (8, [.int (iZ 3), .int (iZ (np : Int)), .ref ow, .ref om, .ref ok_, .ref oK, .ref og, .ref on_, .ref oh, .ref ox, .int qn, .int qf, .ref op_, .int ql])), (ow, .inl (cI, 108000, .inl fa)), (om, .inl (cI, 9, .inl fb)), (oh, .inl (cI, 10000, .inl fc)), (ok_, .inl (cI, 166400, .inl fk)), (oK, .inl (cI, 64, .inl fK)), (og, .inl (cI, 32, .inl fs)), (on_, .inl (cI, 32, .inl fn))] := hD.sub [0, 1, 2, 3, 4, 5, 6, 7] (by decide) rfl
                rw [hQ, ← hAe]
                refine r_i (v := (iZ 0)) K (fa, fb, fc, v9) hS d_Mo_round_153 ?_ (fun t ht hv => ?_)
                · exact ⟨rfl, w9⟩
                · exact ⟨by rw [ht]; exact hP9, va_K.moved hv hK, by rw [← hAe]; exact hD9⟩
              · refine lv_iconst (v := iZ (1)) hx hb d_Mo_round_137 (by decide +kernel) ?_
                refine lv_goto (tgt := 142) hx hb d_Mo_round_138 (by decide) ?_
                refine zz_iadd hx hb d_Mo_round_142 ?_
                refine lv_istore (lv' := [(4, .int (iZ ((bl (tv a) : Int) - (bl (bv a) : Int) - (pb : Int) + 1))), (5, .int (iZ ((bl (tv a) : Int) - (bl (bv a) : Int) - (pb : Int) + (pb : Int)))), (0, .ref mo), (1, .int (iZ (to : Int))), (2, .int (iZ (a : Int))), (3, .int (iZ (pb : Int)))]) hx hb d_Mo_round_143 hl (by decide) rfl (fun ls hl => ?_)
                refine lv_aload_n hx hb d_Mo_round_145 rfl (lv_at hl 2 rfl) ?_
                refine lv_iload_n hx hb d_Mo_round_146 rfl (lv_at hl 3 rfl) ?_
                refine lv_iload_n hx hb d_Mo_round_147 rfl (lv_at hl 4 rfl) ?_
                refine lv_iload hx hb d_Mo_round_148 (lv_at hl 0 rfl) ?_
                rw [show ((bl (tv a) : Int) - (bl (bv a) : Int) - (pb : Int) + 1 : Int) = (E : Int) by omega]
                refine cv (n := 3) (wr := []) (w1 := (fun (u : (Nat → Int32) × (Nat → Int32) × (Nat → Int32) × (Nat → Nat)) => [(mo, .inr (8, [.int (iZ 3), .int (iZ (np : Int)), .ref ow, .ref om, .ref ok_, .ref oK, .ref og, .ref on_, .ref oh, .ref ox, .int qn, .int qf, .ref op_, .int ql])), (ow, .inl (cI, 108000, .inl u.1)), (om, .inl (cI, 9, .inl u.2.1)), (oh, .inl (cI, 10000, .inl u.2.2.1)), (ok_, .inl (cI, 166400, .inl fk)), (oK, .inl (cI, 64, .inl fK)), (og, .inl (cI, 32, .inl fs)), (on_, .inl (cI, 32, .inl fn))])) (As := [.int (iZ (to : Int)), .int (iZ (a : Int)), .int (iZ (E : Int))]) (rest := []) K hP hD hK hS hA hl.1 (f_Mo_multipleUp l D mo (iZ 0) np ow om ok_ oK og on_ oh ox qn qf op_ ql fx5 fy5 cI fh4 fk fK fs fn v5 tv bv sg to a E H.size w5 hMR hnd hnp J hbv t1 t2 hE hfit) [5, 6, 7, 4, 2, 3, 0, 1] [] [0] rfl rfl rfl (by decide) (by decide) (by decide) 0 rfl rfl (big_in mw_1329 rfl) (big_in mw_10 rfl) (big_in mw_1326 rfl) (big_in mw_1328 rfl) (big_in sp_44 rfl) rfl rfl (by decide +kernel) ⟨by rw [hR]; exact Nat.le_of_ble_eq_true rfl, by rw [hR]; exact Nat.le_of_ble_eq_true rfl⟩ rfl (Nat.le_of_ble_eq_true rfl) d_Mo_round_150 ⟨by rw [hR]; exact Nat.le_of_ble_eq_true rfl, by rw [hR]; exact Nat.le_of_ble_eq_true rfl⟩ rfl (fun v u H locs hp23 hP hD hS _ => ?_)
                obtain ⟨fa, fb, fc, v9⟩ := u
                try dsimp only at hp23
                obtain ⟨rfl, w9⟩ := hp23
                have hP : va_P D cls0 [(mo, .inr (8, [.int (iZ 3), .int (iZ (np : Int)), .ref ow, .ref om, .ref ok_, .ref oK, .ref og, .ref on_, .ref oh, .ref ox, .int qn, .int qf, .ref op_, .int ql])), (ow, .inl (cI, 108000, .inl fa)), (om, .inl (cI, 9, .inl fb)), (oh, .inl (cI, 10000, .inl fc)), (ok_, .inl (cI, 166400, .inl fk)), (oK, .inl (cI, 64, .inl fK)), (og, .inl (cI, 32, .inl fs)), (on_, .inl (cI, 32, .inl fn))] H := hP
                have hD : va_D A [(mo, .inr (8, [.int (iZ 3), .int (iZ (np : Int)), .ref ow, .ref om, .ref ok_, .ref oK, .ref og, .ref on_, .ref oh, .ref ox, .int qn, .int qf, .ref op_, .int ql])), (ow, .inl (cI, 108000, .inl fa)), (om, .inl (cI, 9, .inl fb)), (oh, .inl (cI, 10000, .inl fc)), (ok_, .inl (cI, 166400, .inl fk)), (oK, .inl (cI, 64, .inl fK)), (og, .inl (cI, 32, .inl fs)), (on_, .inl (cI, 32, .inl fn))] := hD
                show W p l e R s m args below meth c H locs _ _ Q (F0 m 153 ls [.int (iZ 0)])
                have hP9 : va_P D cls0 [(mo, .inr (8, [.int (iZ 3), .int (iZ (np : Int)), .ref ow, .ref om, .ref ok_, .ref oK, .ref og, .ref on_, .ref oh, .ref ox, .int qn, .int qf, .ref op_, .int ql])), (ow, .inl (cI, 108000, .inl fa)), (om, .inl (cI, 9, .inl fb)), (oh, .inl (cI, 10000, .inl fc)), (ok_, .inl (cI, 166400, .inl fk)), (oK, .inl (cI, 64, .inl fK)), (og, .inl (cI, 32, .inl fs)), (on_, .inl (cI, 32, .inl fn))] H := hP.sub [0, 1, 2, 3, 4, 5, 6, 7] rfl
                have hD9 : va_D A [(mo, .inr (8, [.int (iZ 3), .int (iZ (np : Int)), .ref ow, .ref om, .ref ok_, .ref oK, .ref og, .ref on_, .ref oh, .ref ox, .int qn, .int qf, .ref op_, .int ql])), (ow, .inl (cI, 108000, .inl fa)), (om, .inl (cI, 9, .inl fb)), (oh, .inl (cI, 10000, .inl fc)), (ok_, .inl (cI, 166400, .inl fk)), (oK, .inl (cI, 64, .inl fK)), (og, .inl (cI, 32, .inl fs)), (on_, .inl (cI, 32, .inl fn))] := hD.sub [0, 1, 2, 3, 4, 5, 6, 7] (by decide) rfl
                rw [hQ, ← hAe]
                refine r_i (v := (iZ 0)) K (fa, fb, fc, v9) hS d_Mo_round_153 ?_ (fun t ht hv => ?_)
                · exact ⟨rfl, w9⟩
                · exact ⟨by rw [ht]; exact hP9, va_K.moved hv hK, by rw [← hAe]; exact hD9⟩
        · refine lv_iconst (v := iZ (2)) hx hb d_Mo_round_31 (by decide +kernel) ?_
          refine lv_goto (tgt := 36) hx hb d_Mo_round_32 (by decide) ?_
          exfalso
          omega
    · refine lv_iconst (v := iZ (1)) hx hb d_Mo_round_15 (by decide +kernel) ?_
      refine lv_goto (tgt := 36) hx hb d_Mo_round_16 (by decide) ?_
      exfalso
      omega
set_option maxHeartbeats 4000000 in
set_option maxRecDepth 100000 in
/-- Mo_multiple -/
theorem c_Mo_multipleDn (l : Launch) (D : va_G) (mo : Nat) (qc : Int32) (np : Nat) (ow : Nat) (om : Nat) (ok_ : Nat) (oK : Nat) (og : Nat) (on_ : Nat) (oh : Nat) (ox : Nat) (qn : Int32) (qf : Int32) (op_ : Nat) (ql : Int32) (fw : Nat → Int32) (fm : Nat → Int32) (cI : ClassId) (fh : Nat → Int32) (fk : Nat → Int32) (fK : Nat → Int32) (fs : Nat → Int32) (fn : Nat → Int32) (val : Nat → Nat) (tv : Nat → Nat) (bv : Nat → Nat) (sg : Nat → Int) (to : Nat) (a : Nat) (E : Nat) (sz : Nat) (hW : WB fw fm val) (hMR : MoR fk fK fs fn tv bv sg) (hnd : ndS tv bv 32 ≤ np) (hnp : np ≤ 1024) (J : RgC tv bv sg) (hbv : ∀ r, r < 32 → 0 < bv r) (t1 : to < 32) (t2 : a < 32) (hE : E ≤ 34000) (hE0 : 0 < E) (hfit : ndS tv bv 32 + (lm (rdN (nmQ (tv a * 2 ^ E) (bv a)) (2 ^ E)) + lm (rdD (nmQ (tv a * 2 ^ E) (bv a)) (2 ^ E))) ≤ np + (lm (tv to) + lm (bv to))) : Met l y_Mo_multiple (wsB y_Mo_multiple b_Mo_multiple 4 (some .int)) ({ frames := 5, cells := 0, slots := 0, locals := 125 }) (va_Pc [.ref mo, .int (iZ (to : Int)), .int (iZ (a : Int)), .int (iZ (-(E : Int)))] (wPre D [(cI, .int)] [(mo, .inr (8, [.int qc, .int (iZ (np : Int)), .ref ow, .ref om, .ref ok_, .ref oK, .ref og, .ref on_, .ref oh, .ref ox, .int qn, .int qf, .ref op_, .int ql])), (ow, .inl (cI, 108000, .inl fw)), (om, .inl (cI, 9, .inl fm)), (oh, .inl (cI, 10000, .inl fh)), (ok_, .inl (cI, 166400, .inl fk)), (oK, .inl (cI, 64, .inl fK)), (og, .inl (cI, 32, .inl fs)), (on_, .inl (cI, 32, .inl fn))] sz)) (va_QV (fun (v_9 : Option Value) (u_9 : (Nat → Int32) × (Nat → Int32) × (Nat → Int32) × (Nat → Int32) × (Nat → Int32) × (Nat → Int32) × (Nat → Int32) × (Nat → Nat)) => v_9 = some (.int (iZ ((lm (rdN (nmQ (tv a * 2 ^ E) (bv a)) (2 ^ E)) : Int) + (lm (rdD (nmQ (tv a * 2 ^ E) (bv a)) (2 ^ E)) : Int)))) ∧ (WB u_9.1 u_9.2.1 u_9.2.2.2.2.2.2.2) ∧ (MoR u_9.2.2.2.1 u_9.2.2.2.2.1 u_9.2.2.2.2.2.1 u_9.2.2.2.2.2.2.1 (up tv to (rdN (nmQ (tv a * 2 ^ E) (bv a)) (2 ^ E))) (up bv to (rdD (nmQ (tv a * 2 ^ E) (bv a)) (2 ^ E))) (up sg to (if rdN (nmQ (tv a * 2 ^ E) (bv a)) (2 ^ E) = 0 then 0 else sg a)))) (fun u_9 => wPost D [(cI, .int)] [(mo, .inr (8, [.int qc, .int (iZ (np : Int)), .ref ow, .ref om, .ref ok_, .ref oK, .ref og, .ref on_, .ref oh, .ref ox, .int qn, .int qf, .ref op_, .int ql])), (ow, .inl (cI, 108000, .inl fw)), (om, .inl (cI, 9, .inl fm)), (oh, .inl (cI, 10000, .inl fh)), (ok_, .inl (cI, 166400, .inl fk)), (oK, .inl (cI, 64, .inl fK)), (og, .inl (cI, 32, .inl fs)), (on_, .inl (cI, 32, .inl fn))] [(mo, .inr (8, [.int (iZ 0), .int (iZ (np : Int)), .ref ow, .ref om, .ref ok_, .ref oK, .ref og, .ref on_, .ref oh, .ref ox, .int qn, .int qf, .ref op_, .int ql])), (ow, .inl (cI, 108000, .inl u_9.1)), (om, .inl (cI, 9, .inl u_9.2.1)), (oh, .inl (cI, 10000, .inl u_9.2.2.1)), (ok_, .inl (cI, 166400, .inl u_9.2.2.2.1)), (oK, .inl (cI, 64, .inl u_9.2.2.2.2.1)), (og, .inl (cI, 32, .inl u_9.2.2.2.2.2.1)), (on_, .inl (cI, 32, .inl u_9.2.2.2.2.2.2.1))] sz) (va_A [(mo, .inr (8, [.int qc, .int (iZ (np : Int)), .ref ow, .ref om, .ref ok_, .ref oK, .ref og, .ref on_, .ref oh, .ref ox, .int qn, .int qf, .ref op_, .int ql])), (ow, .inl (cI, 108000, .inl fw)), (om, .inl (cI, 9, .inl fm)), (oh, .inl (cI, 10000, .inl fh)), (ok_, .inl (cI, 166400, .inl fk)), (oK, .inl (cI, 64, .inl fK)), (og, .inl (cI, 32, .inl fs)), (on_, .inl (cI, 32, .inl fn))] sz)) 0 0 (va_A [(mo, .inr (8, [.int qc, .int (iZ (np : Int)), .ref ow, .ref om, .ref ok_, .ref oK, .ref og, .ref on_, .ref oh, .ref ox, .int qn, .int qf, .ref op_, .int ql])), (ow, .inl (cI, 108000, .inl fw)), (om, .inl (cI, 9, .inl fm)), (oh, .inl (cI, 10000, .inl fh)), (ok_, .inl (cI, 166400, .inl fk)), (oK, .inl (cI, 64, .inl fK)), (og, .inl (cI, 32, .inl fs)), (on_, .inl (cI, 32, .inl fn))] sz) := by
  refine met_enter (by decide +kernel) (Nat.le_of_ble_eq_true rfl) ?_
  intro p e s m args below meth c ls A R Q H locs K hin hAe hA hR hQ hP hK hD hS hl
  obtain ⟨hx, hb, hml, hrt, hlk, hts, hown, hno⟩ := id K
  have hl : lv_has ls 4 [(0, .ref mo), (1, .int (iZ (to : Int))), (2, .int (iZ (a : Int))), (3, .int (iZ (-(E : Int))))] := hl
  have hlr : ∀ q, q < 32 → lm (tv q) + lm (bv q) ≤ 1024 := fun q hq => by have z := ndS_le (tv := tv) (bv := bv) hq; omega
  have hnt : ∀ q, q < 32 → nd (tv q) ≤ 2600 := fun q hq => by have z := nd_lm (v := tv q) (L := 1024) (by have y := hlr q hq; omega); omega
  have hnb : ∀ q, q < 32 → nd (bv q) ≤ 2600 := fun q hq => by have z := nd_lm (v := bv q) (L := 1024) (by have y := hlr q hq; omega); omega
  obtain ⟨ja1, ja2, ja3⟩ := J a (by omega)
  have pa := hbv a (by omega)
  have la := hlr a (by omega)
  have n1 := hnt a (by omega)
  have n2 := hnb a (by omega)
  refine lv_aload_n hx hb d_Mo_multiple_0 rfl (lv_at hl 0 rfl) ?_
  refine lv_iconst (v := iZ (0)) hx hb d_Mo_multiple_1 (by decide +kernel) ?_
  refine lv_iconst (v := iZ (2)) hx hb d_Mo_multiple_2 (by decide +kernel) ?_
  refine lv_iload_n hx hb d_Mo_multiple_3 rfl (lv_at hl 2 rfl) ?_
  refine zz_imul hx hb d_Mo_multiple_4 ?_
  rw [show (2 * (a : Int) : Int) = ((2 * a : Nat) : Int) by omega]
  refine cv (n := 2) (wr := [(oh, .inl (cI, 10000, .inl fh)), (og, .inl (cI, 32, .inl fs)), (on_, .inl (cI, 32, .inl fn))]) (w1 := (fun (u : (Nat → Int32) × (Nat → Int32)) => [(mo, .inr (8, [.int qc, .int (iZ (np : Int)), .ref ow, .ref om, .ref ok_, .ref oK, .ref og, .ref on_, .ref oh, .ref ox, .int qn, .int qf, .ref op_, .int ql])), (ow, .inl (cI, 108000, .inl u.1)), (om, .inl (cI, 9, .inl u.2)), (ok_, .inl (cI, 166400, .inl fk)), (oK, .inl (cI, 64, .inl fK))])) (As := [.int (iZ 0), .int (iZ ((2 * a : Nat) : Int))]) (rest := []) K hP hD hK hS hA hl.1 (c_Mo_load l D mo qc np ow om ok_ oK og on_ oh ox qn qf op_ ql fw fm cI fk fK val (kvf tv bv) 0 (2 * a) H.size hW hMR.1 (by decide) (by omega)) [0, 1, 2, 4, 5] [3, 6, 7] [0] rfl rfl rfl (by decide) (by decide) (by decide) 0 rfl rfl (big_in mw_1238 rfl) (big_in mw_10 rfl) (big_in mw_1235 rfl) (big_in mw_1237 rfl) (big_in sp_31 rfl) rfl rfl (by decide +kernel) ⟨by rw [hR]; exact Nat.le_of_ble_eq_true rfl, by rw [hR]; exact Nat.le_of_ble_eq_true rfl⟩ rfl (Nat.le_of_ble_eq_true rfl) d_Mo_multiple_5 ⟨by rw [hR]; exact Nat.le_of_ble_eq_true rfl, by rw [hR]; exact Nat.le_of_ble_eq_true rfl⟩ rfl (fun v u H locs hp1 hP hD hS _ => ?_)
  obtain ⟨fx1, fy1⟩ := u
  try dsimp only at hp1
  obtain ⟨rfl, w1⟩ := hp1
  have hP : va_P D cls0 [(oh, .inl (cI, 10000, .inl fh)), (og, .inl (cI, 32, .inl fs)), (on_, .inl (cI, 32, .inl fn)), (mo, .inr (8, [.int qc, .int (iZ (np : Int)), .ref ow, .ref om, .ref ok_, .ref oK, .ref og, .ref on_, .ref oh, .ref ox, .int qn, .int qf, .ref op_, .int ql])), (ow, .inl (cI, 108000, .inl fx1)), (om, .inl (cI, 9, .inl fy1)), (ok_, .inl (cI, 166400, .inl fk)), (oK, .inl (cI, 64, .inl fK))] H := hP
  have hD : va_D A [(oh, .inl (cI, 10000, .inl fh)), (og, .inl (cI, 32, .inl fs)), (on_, .inl (cI, 32, .inl fn)), (mo, .inr (8, [.int qc, .int (iZ (np : Int)), .ref ow, .ref om, .ref ok_, .ref oK, .ref og, .ref on_, .ref oh, .ref ox, .int qn, .int qf, .ref op_, .int ql])), (ow, .inl (cI, 108000, .inl fx1)), (om, .inl (cI, 9, .inl fy1)), (ok_, .inl (cI, 166400, .inl fk)), (oK, .inl (cI, 64, .inl fK))] := hD
  show W p l e R s m args below meth c H locs _ _ Q (F0 m 8 ls [])
  rw [kvf_0] at w1
  obtain ⟨v1, hv1⟩ : ∃ z, z = up val 0 (tv a) := ⟨_, rfl⟩
  rw [← hv1] at w1
  refine lv_aload_n hx hb d_Mo_multiple_8 rfl (lv_at hl 0 rfl) ?_
  refine lv_iconst (v := iZ (1)) hx hb d_Mo_multiple_9 (by decide +kernel) ?_
  refine lv_iconst (v := iZ (2)) hx hb d_Mo_multiple_10 (by decide +kernel) ?_
  refine lv_iload_n hx hb d_Mo_multiple_11 rfl (lv_at hl 2 rfl) ?_
  refine zz_imul hx hb d_Mo_multiple_12 ?_
  refine lv_iconst (v := iZ (1)) hx hb d_Mo_multiple_13 (by decide +kernel) ?_
  refine zz_iadd hx hb d_Mo_multiple_14 ?_
  rw [show (2 * (a : Int) + 1 : Int) = ((2 * a + 1 : Nat) : Int) by omega]
  refine cv (n := 2) (wr := [(oh, .inl (cI, 10000, .inl fh)), (og, .inl (cI, 32, .inl fs)), (on_, .inl (cI, 32, .inl fn))]) (w1 := (fun (u : (Nat → Int32) × (Nat → Int32)) => [(mo, .inr (8, [.int qc, .int (iZ (np : Int)), .ref ow, .ref om, .ref ok_, .ref oK, .ref og, .ref on_, .ref oh, .ref ox, .int qn, .int qf, .ref op_, .int ql])), (ow, .inl (cI, 108000, .inl u.1)), (om, .inl (cI, 9, .inl u.2)), (ok_, .inl (cI, 166400, .inl fk)), (oK, .inl (cI, 64, .inl fK))])) (As := [.int (iZ 1), .int (iZ ((2 * a + 1 : Nat) : Int))]) (rest := []) K hP hD hK hS hA hl.1 (c_Mo_load l D mo qc np ow om ok_ oK og on_ oh ox qn qf op_ ql fx1 fy1 cI fk fK v1 (kvf tv bv) 1 (2 * a + 1) H.size w1 hMR.1 (by decide) (by omega)) [3, 4, 5, 6, 7] [0, 1, 2] [0] rfl rfl rfl (by decide) (by decide) (by decide) 0 rfl rfl (big_in mw_1238 rfl) (big_in mw_10 rfl) (big_in mw_1235 rfl) (big_in mw_1237 rfl) (big_in sp_31 rfl) rfl rfl (by decide +kernel) ⟨by rw [hR]; exact Nat.le_of_ble_eq_true rfl, by rw [hR]; exact Nat.le_of_ble_eq_true rfl⟩ rfl (Nat.le_of_ble_eq_true rfl) d_Mo_multiple_15 ⟨by rw [hR]; exact Nat.le_of_ble_eq_true rfl, by rw [hR]; exact Nat.le_of_ble_eq_true rfl⟩ rfl (fun v u H locs hp2 hP hD hS _ => ?_)
  obtain ⟨fx2, fy2⟩ := u
  try dsimp only at hp2
  obtain ⟨rfl, w2⟩ := hp2
  have hP : va_P D cls0 [(oh, .inl (cI, 10000, .inl fh)), (og, .inl (cI, 32, .inl fs)), (on_, .inl (cI, 32, .inl fn)), (mo, .inr (8, [.int qc, .int (iZ (np : Int)), .ref ow, .ref om, .ref ok_, .ref oK, .ref og, .ref on_, .ref oh, .ref ox, .int qn, .int qf, .ref op_, .int ql])), (ow, .inl (cI, 108000, .inl fx2)), (om, .inl (cI, 9, .inl fy2)), (ok_, .inl (cI, 166400, .inl fk)), (oK, .inl (cI, 64, .inl fK))] H := hP
  have hD : va_D A [(oh, .inl (cI, 10000, .inl fh)), (og, .inl (cI, 32, .inl fs)), (on_, .inl (cI, 32, .inl fn)), (mo, .inr (8, [.int qc, .int (iZ (np : Int)), .ref ow, .ref om, .ref ok_, .ref oK, .ref og, .ref on_, .ref oh, .ref ox, .int qn, .int qf, .ref op_, .int ql])), (ow, .inl (cI, 108000, .inl fx2)), (om, .inl (cI, 9, .inl fy2)), (ok_, .inl (cI, 166400, .inl fk)), (oK, .inl (cI, 64, .inl fK))] := hD
  show W p l e R s m args below meth c H locs _ _ Q (F0 m 18 ls [])
  rw [kvf_1] at w2
  obtain ⟨v2, hv2⟩ : ∃ z, z = up v1 1 (bv a) := ⟨_, rfl⟩
  rw [← hv2] at w2
  have e0 : v2 0 = tv a := by rw [hv2, up_n (by decide), hv1, up_s]
  have e1 : v2 1 = bv a := by rw [hv2, up_s]
  have ba := hlr a (by omega)
  refine lv_aload_n hx hb d_Mo_multiple_18 rfl (lv_at hl 0 rfl) ?_
  refine lv_iload_n hx hb d_Mo_multiple_19 rfl (lv_at hl 3 rfl) ?_
  refine zz_if_ge (tgt := 27) hx hb d_Mo_multiple_20 (by decide) (by omega) (fun c20 => False.elim (by omega)) (fun c20 => ?_)
  refine lv_iconst (v := iZ (0)) hx hb d_Mo_multiple_23 (by decide +kernel) ?_
  refine lv_goto (tgt := 28) hx hb d_Mo_multiple_24 (by decide) ?_
  refine lv_iload_n hx hb d_Mo_multiple_28 rfl (lv_at hl 3 rfl) ?_
  refine zz_if_ge (tgt := 37) hx hb d_Mo_multiple_29 (by decide) (by omega) (fun c29 => False.elim (by omega)) (fun c29 => ?_)
  refine lv_iload_n hx hb d_Mo_multiple_32 rfl (lv_at hl 3 rfl) ?_
  refine zz_ineg hx hb d_Mo_multiple_33 ?_
  refine lv_goto (tgt := 38) hx hb d_Mo_multiple_34 (by decide) ?_
  rw [show (-(-(E : Int)) : Int) = (E : Int) by omega]
  refine cv (n := 2) (wr := [(oh, .inl (cI, 10000, .inl fh)), (og, .inl (cI, 32, .inl fs)), (on_, .inl (cI, 32, .inl fn)), (ok_, .inl (cI, 166400, .inl fk)), (oK, .inl (cI, 64, .inl fK))]) (w1 := (fun (u : (Nat → Int32) × (Nat → Int32)) => [(mo, .inr (8, [.int qc, .int (iZ (np : Int)), .ref ow, .ref om, .ref ok_, .ref oK, .ref og, .ref on_, .ref oh, .ref ox, .int qn, .int qf, .ref op_, .int ql])), (ow, .inl (cI, 108000, .inl u.1)), (om, .inl (cI, 9, .inl u.2))])) (As := [.int (iZ 0), .int (iZ (E : Int))]) (rest := []) K hP hD hK hS hA hl.1 (c_Mo_doubled l D mo qc np ow om ok_ oK og on_ oh ox qn qf op_ ql fx2 fy2 cI v2 0 E H.size w2 (by decide) (by omega) (by rw [e0]; have z := nd_shl (tv a) E; omega)) [3, 4, 5] [0, 1, 2, 6, 7] [0] rfl rfl rfl (by decide) (by decide) (by decide) 0 rfl rfl (big_in mw_1320 rfl) (big_in mw_10 rfl) (big_in mw_1317 rfl) (big_in mw_1319 rfl) (big_in sp_42 rfl) rfl rfl (by decide +kernel) ⟨by rw [hR]; exact Nat.le_of_ble_eq_true rfl, by rw [hR]; exact Nat.le_of_ble_eq_true rfl⟩ rfl (Nat.le_of_ble_eq_true rfl) d_Mo_multiple_38 ⟨by rw [hR]; exact Nat.le_of_ble_eq_true rfl, by rw [hR]; exact Nat.le_of_ble_eq_true rfl⟩ rfl (fun v u H locs hp3 hP hD hS _ => ?_)
  obtain ⟨fx3, fy3⟩ := u
  try dsimp only at hp3
  obtain ⟨rfl, w3⟩ := hp3
  have hP : va_P D cls0 [(oh, .inl (cI, 10000, .inl fh)), (og, .inl (cI, 32, .inl fs)), (on_, .inl (cI, 32, .inl fn)), (ok_, .inl (cI, 166400, .inl fk)), (oK, .inl (cI, 64, .inl fK)), (mo, .inr (8, [.int qc, .int (iZ (np : Int)), .ref ow, .ref om, .ref ok_, .ref oK, .ref og, .ref on_, .ref oh, .ref ox, .int qn, .int qf, .ref op_, .int ql])), (ow, .inl (cI, 108000, .inl fx3)), (om, .inl (cI, 9, .inl fy3))] H := hP
  have hD : va_D A [(oh, .inl (cI, 10000, .inl fh)), (og, .inl (cI, 32, .inl fs)), (on_, .inl (cI, 32, .inl fn)), (ok_, .inl (cI, 166400, .inl fk)), (oK, .inl (cI, 64, .inl fK)), (mo, .inr (8, [.int qc, .int (iZ (np : Int)), .ref ow, .ref om, .ref ok_, .ref oK, .ref og, .ref on_, .ref oh, .ref ox, .int qn, .int qf, .ref op_, .int ql])), (ow, .inl (cI, 108000, .inl fx3)), (om, .inl (cI, 9, .inl fy3))] := hD
  show W p l e R s m args below meth c H locs _ _ Q (F0 m 41 ls [])
  rw [e0] at w3
  obtain ⟨v3, hv3⟩ : ∃ z, z = up v2 0 (tv a * 2 ^ E) := ⟨_, rfl⟩
  rw [← hv3] at w3
  have y30 : v3 0 = tv a * 2 ^ E := by rw [hv3, up_s]
  have y31 : v3 1 = bv a := by rw [hv3, up_n (by decide)]; exact e1
  have ns := nd_shl (tv a) E
  refine lv_aload_n hx hb d_Mo_multiple_41 rfl (lv_at hl 0 rfl) ?_
  refine cv (n := 0) (wr := [(oh, .inl (cI, 10000, .inl fh)), (og, .inl (cI, 32, .inl fs)), (on_, .inl (cI, 32, .inl fn)), (ok_, .inl (cI, 166400, .inl fk)), (oK, .inl (cI, 64, .inl fK))]) (w1 := (fun (u : (Nat → Int32) × (Nat → Int32) × (Nat → Nat)) => [(mo, .inr (8, [.int qc, .int (iZ (np : Int)), .ref ow, .ref om, .ref ok_, .ref oK, .ref og, .ref on_, .ref oh, .ref ox, .int qn, .int qf, .ref op_, .int ql])), (ow, .inl (cI, 108000, .inl u.1)), (om, .inl (cI, 9, .inl u.2.1))])) (As := []) (rest := []) K hP hD hK hS hA hl.1 (c_Mo_nearest l D mo qc np ow om ok_ oK og on_ oh ox qn qf op_ ql fx3 fy3 cI v3 H.size w3 (by rw [y31]; exact pa) (by rw [y30]; omega) (by rw [y31]; omega)) [5, 6, 7] [0, 1, 2, 3, 4] [0] rfl rfl rfl (by decide) (by decide) (by decide) 0 rfl rfl (big_in mw_1333 rfl) (big_in mw_10 rfl) (big_in mw_1330 rfl) (big_in mw_1332 rfl) (big_in sp_45 rfl) rfl rfl (by decide +kernel) ⟨by rw [hR]; exact Nat.le_of_ble_eq_true rfl, by rw [hR]; exact Nat.le_of_ble_eq_true rfl⟩ rfl (Nat.le_of_ble_eq_true rfl) d_Mo_multiple_42 ⟨by rw [hR]; exact Nat.le_of_ble_eq_true rfl, by rw [hR]; exact Nat.le_of_ble_eq_true rfl⟩ rfl (fun v u H locs hp4 hP hD hS _ => ?_)
  obtain ⟨fx4, fy4, v4⟩ := u
  try dsimp only at hp4
  obtain ⟨rfl, w4, y42⟩ := hp4
  have hP : va_P D cls0 [(oh, .inl (cI, 10000, .inl fh)), (og, .inl (cI, 32, .inl fs)), (on_, .inl (cI, 32, .inl fn)), (ok_, .inl (cI, 166400, .inl fk)), (oK, .inl (cI, 64, .inl fK)), (mo, .inr (8, [.int qc, .int (iZ (np : Int)), .ref ow, .ref om, .ref ok_, .ref oK, .ref og, .ref on_, .ref oh, .ref ox, .int qn, .int qf, .ref op_, .int ql])), (ow, .inl (cI, 108000, .inl fx4)), (om, .inl (cI, 9, .inl fy4))] H := hP
  have hD : va_D A [(oh, .inl (cI, 10000, .inl fh)), (og, .inl (cI, 32, .inl fs)), (on_, .inl (cI, 32, .inl fn)), (ok_, .inl (cI, 166400, .inl fk)), (oK, .inl (cI, 64, .inl fK)), (mo, .inr (8, [.int qc, .int (iZ (np : Int)), .ref ow, .ref om, .ref ok_, .ref oK, .ref og, .ref on_, .ref oh, .ref ox, .int qn, .int qf, .ref op_, .int ql])), (ow, .inl (cI, 108000, .inl fx4)), (om, .inl (cI, 9, .inl fy4))] := hD
  show W p l e R s m args below meth c H locs _ _ Q (F0 m 45 ls [])
  rw [y30, y31] at y42
  have nq := nd_mono (nmQ_le (tv a * 2 ^ E) (bv a))
  have nq2 := nd_add (tv a * 2 ^ E) 1
  have nd1 : nd 1 = 1 := by decide
  refine lv_aload_n hx hb d_Mo_multiple_45 rfl (lv_at hl 0 rfl) ?_
  refine lv_iconst (v := iZ (0)) hx hb d_Mo_multiple_46 (by decide +kernel) ?_
  refine lv_iconst (v := iZ (2)) hx hb d_Mo_multiple_47 (by decide +kernel) ?_
  refine cv (n := 2) (wr := [(oh, .inl (cI, 10000, .inl fh)), (og, .inl (cI, 32, .inl fs)), (on_, .inl (cI, 32, .inl fn)), (ok_, .inl (cI, 166400, .inl fk)), (oK, .inl (cI, 64, .inl fK))]) (w1 := (fun (u : (Nat → Int32) × (Nat → Int32)) => [(mo, .inr (8, [.int qc, .int (iZ (np : Int)), .ref ow, .ref om, .ref ok_, .ref oK, .ref og, .ref on_, .ref oh, .ref ox, .int qn, .int qf, .ref op_, .int ql])), (ow, .inl (cI, 108000, .inl u.1)), (om, .inl (cI, 9, .inl u.2))])) (As := [.int (iZ 0), .int (iZ 2)]) (rest := []) K hP hD hK hS hA hl.1 (c_Mo_copyTo l D mo qc np ow om ok_ oK og on_ oh ox qn qf op_ ql fx4 fy4 cI v4 0 2 H.size w4 (by omega) (by omega) (by omega)) [5, 6, 7] [0, 1, 2, 3, 4] [0] rfl rfl rfl (by decide) (by decide) (by decide) 0 rfl rfl (big_in mw_1193 rfl) (big_in mw_10 rfl) (big_in mw_1190 rfl) (big_in mw_1192 rfl) (big_in sp_22 rfl) rfl rfl (by decide +kernel) ⟨by rw [hR]; exact Nat.le_of_ble_eq_true rfl, by rw [hR]; exact Nat.le_of_ble_eq_true rfl⟩ rfl (Nat.le_of_ble_eq_true rfl) d_Mo_multiple_48 ⟨by rw [hR]; exact Nat.le_of_ble_eq_true rfl, by rw [hR]; exact Nat.le_of_ble_eq_true rfl⟩ rfl (fun v u H locs hp5 hP hD hS _ => ?_)
  obtain ⟨fx5, fy5⟩ := u
  try dsimp only at hp5
  obtain ⟨rfl, w5⟩ := hp5
  have hP : va_P D cls0 [(oh, .inl (cI, 10000, .inl fh)), (og, .inl (cI, 32, .inl fs)), (on_, .inl (cI, 32, .inl fn)), (ok_, .inl (cI, 166400, .inl fk)), (oK, .inl (cI, 64, .inl fK)), (mo, .inr (8, [.int qc, .int (iZ (np : Int)), .ref ow, .ref om, .ref ok_, .ref oK, .ref og, .ref on_, .ref oh, .ref ox, .int qn, .int qf, .ref op_, .int ql])), (ow, .inl (cI, 108000, .inl fx5)), (om, .inl (cI, 9, .inl fy5))] H := hP
  have hD : va_D A [(oh, .inl (cI, 10000, .inl fh)), (og, .inl (cI, 32, .inl fs)), (on_, .inl (cI, 32, .inl fn)), (ok_, .inl (cI, 166400, .inl fk)), (oK, .inl (cI, 64, .inl fK)), (mo, .inr (8, [.int qc, .int (iZ (np : Int)), .ref ow, .ref om, .ref ok_, .ref oK, .ref og, .ref on_, .ref oh, .ref ox, .int qn, .int qf, .ref op_, .int ql])), (ow, .inl (cI, 108000, .inl fx5)), (om, .inl (cI, 9, .inl fy5))] := hD
  show W p l e R s m args below meth c H locs _ _ Q (F0 m 51 ls [])
  rw [y42] at w5
  obtain ⟨v5, hv5⟩ : ∃ z, z = up v4 0 (nmQ (tv a * 2 ^ E) (bv a)) := ⟨_, rfl⟩
  rw [← hv5] at w5
  refine lv_aload_n hx hb d_Mo_multiple_51 rfl (lv_at hl 0 rfl) ?_
  refine lv_iconst (v := iZ (1)) hx hb d_Mo_multiple_52 (by decide +kernel) ?_
  refine lv_lconst (v := lZ (1)) hx hb d_Mo_multiple_53 (by decide +kernel) ?_
  refine cv (n := 2) (wr := [(oh, .inl (cI, 10000, .inl fh)), (og, .inl (cI, 32, .inl fs)), (on_, .inl (cI, 32, .inl fn)), (ok_, .inl (cI, 166400, .inl fk)), (oK, .inl (cI, 64, .inl fK))]) (w1 := (fun (u : (Nat → Int32) × (Nat → Int32)) => [(mo, .inr (8, [.int qc, .int (iZ (np : Int)), .ref ow, .ref om, .ref ok_, .ref oK, .ref og, .ref on_, .ref oh, .ref ox, .int qn, .int qf, .ref op_, .int ql])), (ow, .inl (cI, 108000, .inl u.1)), (om, .inl (cI, 9, .inl u.2))])) (As := [.int (iZ 1), .long (lZ 1)]) (rest := []) K hP hD hK hS hA hl.1 (c_Mo_setLong l D mo qc np ow om ok_ oK og on_ oh ox qn qf op_ ql fx5 fy5 cI v5 1 1 H.size w5 (by omega) (by omega)) [5, 6, 7] [0, 1, 2, 3, 4] [0] rfl rfl rfl (by decide) (by decide) (by decide) 0 rfl rfl (big_in mw_1180 rfl) (big_in mw_10 rfl) (big_in mw_1177 rfl) (big_in mw_1179 rfl) (big_in sp_19 rfl) rfl rfl (by decide +kernel) ⟨by rw [hR]; exact Nat.le_of_ble_eq_true rfl, by rw [hR]; exact Nat.le_of_ble_eq_true rfl⟩ rfl (Nat.le_of_ble_eq_true rfl) d_Mo_multiple_54 ⟨by rw [hR]; exact Nat.le_of_ble_eq_true rfl, by rw [hR]; exact Nat.le_of_ble_eq_true rfl⟩ rfl (fun v u H locs hp6 hP hD hS _ => ?_)
  obtain ⟨fx6, fy6⟩ := u
  try dsimp only at hp6
  obtain ⟨rfl, w6⟩ := hp6
  have hP : va_P D cls0 [(oh, .inl (cI, 10000, .inl fh)), (og, .inl (cI, 32, .inl fs)), (on_, .inl (cI, 32, .inl fn)), (ok_, .inl (cI, 166400, .inl fk)), (oK, .inl (cI, 64, .inl fK)), (mo, .inr (8, [.int qc, .int (iZ (np : Int)), .ref ow, .ref om, .ref ok_, .ref oK, .ref og, .ref on_, .ref oh, .ref ox, .int qn, .int qf, .ref op_, .int ql])), (ow, .inl (cI, 108000, .inl fx6)), (om, .inl (cI, 9, .inl fy6))] H := hP
  have hD : va_D A [(oh, .inl (cI, 10000, .inl fh)), (og, .inl (cI, 32, .inl fs)), (on_, .inl (cI, 32, .inl fn)), (ok_, .inl (cI, 166400, .inl fk)), (oK, .inl (cI, 64, .inl fK)), (mo, .inr (8, [.int qc, .int (iZ (np : Int)), .ref ow, .ref om, .ref ok_, .ref oK, .ref og, .ref on_, .ref oh, .ref ox, .int qn, .int qf, .ref op_, .int ql])), (ow, .inl (cI, 108000, .inl fx6)), (om, .inl (cI, 9, .inl fy6))] := hD
  show W p l e R s m args below meth c H locs _ _ Q (F0 m 57 ls [])
  obtain ⟨v6, hv6⟩ : ∃ x, x = up v5 1 1 := ⟨_, rfl⟩
  have w6 : WB fx6 fy6 v6 := by rw [hv6]; exact w6
  have y60 : v6 0 = nmQ (tv a * 2 ^ E) (bv a) := by rw [hv6, up_n (by decide), hv5, up_s]
  have y61 : v6 1 = 1 := by rw [hv6, up_s]
  refine lv_aload_n hx hb d_Mo_multiple_57 rfl (lv_at hl 0 rfl) ?_
  refine lv_iload_n hx hb d_Mo_multiple_58 rfl (lv_at hl 3 rfl) ?_
  refine zz_if_ge (tgt := 66) hx hb d_Mo_multiple_59 (by decide) (by omega) (fun c59 => False.elim (by omega)) (fun c59 => ?_)
  refine lv_iconst (v := iZ (1)) hx hb d_Mo_multiple_62 (by decide +kernel) ?_
  refine lv_goto (tgt := 67) hx hb d_Mo_multiple_63 (by decide) ?_
  refine lv_iload_n hx hb d_Mo_multiple_67 rfl (lv_at hl 3 rfl) ?_
  refine zz_if_ge (tgt := 76) hx hb d_Mo_multiple_68 (by decide) (by omega) (fun c68 => False.elim (by omega)) (fun c68 => ?_)
  refine lv_iload_n hx hb d_Mo_multiple_71 rfl (lv_at hl 3 rfl) ?_
  refine zz_ineg hx hb d_Mo_multiple_72 ?_
  refine lv_goto (tgt := 77) hx hb d_Mo_multiple_73 (by decide) ?_
  rw [show (-(-(E : Int)) : Int) = (E : Int) by omega]
  refine cv (n := 2) (wr := [(oh, .inl (cI, 10000, .inl fh)), (og, .inl (cI, 32, .inl fs)), (on_, .inl (cI, 32, .inl fn)), (ok_, .inl (cI, 166400, .inl fk)), (oK, .inl (cI, 64, .inl fK))]) (w1 := (fun (u : (Nat → Int32) × (Nat → Int32)) => [(mo, .inr (8, [.int qc, .int (iZ (np : Int)), .ref ow, .ref om, .ref ok_, .ref oK, .ref og, .ref on_, .ref oh, .ref ox, .int qn, .int qf, .ref op_, .int ql])), (ow, .inl (cI, 108000, .inl u.1)), (om, .inl (cI, 9, .inl u.2))])) (As := [.int (iZ 1), .int (iZ (E : Int))]) (rest := []) K hP hD hK hS hA hl.1 (c_Mo_doubled l D mo qc np ow om ok_ oK og on_ oh ox qn qf op_ ql fx6 fy6 cI v6 1 E H.size w6 (by decide) (by omega) (by rw [y61]; have z := nd_shl 1 E; omega)) [5, 6, 7] [0, 1, 2, 3, 4] [0] rfl rfl rfl (by decide) (by decide) (by decide) 0 rfl rfl (big_in mw_1320 rfl) (big_in mw_10 rfl) (big_in mw_1317 rfl) (big_in mw_1319 rfl) (big_in sp_42 rfl) rfl rfl (by decide +kernel) ⟨by rw [hR]; exact Nat.le_of_ble_eq_true rfl, by rw [hR]; exact Nat.le_of_ble_eq_true rfl⟩ rfl (Nat.le_of_ble_eq_true rfl) d_Mo_multiple_77 ⟨by rw [hR]; exact Nat.le_of_ble_eq_true rfl, by rw [hR]; exact Nat.le_of_ble_eq_true rfl⟩ rfl (fun v u H locs hp7 hP hD hS _ => ?_)
  obtain ⟨fx7, fy7⟩ := u
  try dsimp only at hp7
  obtain ⟨rfl, w7⟩ := hp7
  have hP : va_P D cls0 [(oh, .inl (cI, 10000, .inl fh)), (og, .inl (cI, 32, .inl fs)), (on_, .inl (cI, 32, .inl fn)), (ok_, .inl (cI, 166400, .inl fk)), (oK, .inl (cI, 64, .inl fK)), (mo, .inr (8, [.int qc, .int (iZ (np : Int)), .ref ow, .ref om, .ref ok_, .ref oK, .ref og, .ref on_, .ref oh, .ref ox, .int qn, .int qf, .ref op_, .int ql])), (ow, .inl (cI, 108000, .inl fx7)), (om, .inl (cI, 9, .inl fy7))] H := hP
  have hD : va_D A [(oh, .inl (cI, 10000, .inl fh)), (og, .inl (cI, 32, .inl fs)), (on_, .inl (cI, 32, .inl fn)), (ok_, .inl (cI, 166400, .inl fk)), (oK, .inl (cI, 64, .inl fK)), (mo, .inr (8, [.int qc, .int (iZ (np : Int)), .ref ow, .ref om, .ref ok_, .ref oK, .ref og, .ref on_, .ref oh, .ref ox, .int qn, .int qf, .ref op_, .int ql])), (ow, .inl (cI, 108000, .inl fx7)), (om, .inl (cI, 9, .inl fy7))] := hD
  show W p l e R s m args below meth c H locs _ _ Q (F0 m 80 ls [])
  rw [y61, Nat.one_mul] at w7
  obtain ⟨v7, hv7⟩ : ∃ z, z = up v6 1 (2 ^ E) := ⟨_, rfl⟩
  rw [← hv7] at w7
  have y70 : v7 0 = nmQ (tv a * 2 ^ E) (bv a) := by rw [hv7, up_n (by decide)]; exact y60
  have y71 : v7 1 = 2 ^ E := by rw [hv7, up_s]
  have l3 := nmD_lm (tv a) (bv a) E
  have l4 := p2_lm E
  refine lv_aload_n hx hb d_Mo_multiple_80 rfl (lv_at hl 0 rfl) ?_
  refine lv_iload_n hx hb d_Mo_multiple_81 rfl (lv_at hl 1 rfl) ?_
  refine lv_aload_n hx hb d_Mo_multiple_82 rfl (lv_at hl 0 rfl) ?_
  refine va_get (D := D) (ci := 8) (v := .ref og) (C := R_Mo) (T := F_Mo) (N := 14) hx hb hts i_Mo hown hK hP 5 rfl rfl 6 (by decide) (hts _ (big_in mw_1121 rfl)) (fun _ h9 => h9) rfl d_Mo_multiple_83 ?_
  refine lv_iload_n hx hb d_Mo_multiple_86 rfl (lv_at hl 2 rfl) ?_
  refine zz_iald hx hb hK hP 1 0 rfl rfl (a) (by omega) (by omega) (by omega) d_Mo_multiple_87 ?_
  rw [hMR.2.1 a (by omega)]
  refine lv_iconst (v := iZ (3)) hx hb d_Mo_multiple_88 (by decide +kernel) ?_
  refine cv (n := 3) (wr := []) (w1 := (fun (u : (Nat → Int32) × (Nat → Int32) × (Nat → Int32) × (Nat → Int32) × (Nat → Int32) × (Nat → Int32) × (Nat → Int32) × (Nat → Nat)) => [(mo, .inr (8, [.int (iZ 0), .int (iZ (np : Int)), .ref ow, .ref om, .ref ok_, .ref oK, .ref og, .ref on_, .ref oh, .ref ox, .int qn, .int qf, .ref op_, .int ql])), (ow, .inl (cI, 108000, .inl u.1)), (om, .inl (cI, 9, .inl u.2.1)), (oh, .inl (cI, 10000, .inl u.2.2.1)), (ok_, .inl (cI, 166400, .inl u.2.2.2.1)), (oK, .inl (cI, 64, .inl u.2.2.2.2.1)), (og, .inl (cI, 32, .inl u.2.2.2.2.2.1)), (on_, .inl (cI, 32, .inl u.2.2.2.2.2.2.1))])) (As := [.int (iZ (to : Int)), .int (iZ (sg a)), .int (iZ 3)]) (rest := []) K hP hD hK hS hA hl.1 (c_Mo_put l D mo qc np ow om ok_ oK og on_ oh ox qn qf op_ ql fx7 fy7 cI fh fk fK fs fn v7 tv bv sg to (sg a) 3 H.size w7 hMR (by omega) hnd hnp (by omega) (by decide) (by rw [y71]; exact Nat.two_pow_pos _) (by rw [y70]; omega) (by rw [y71]; omega) (by rw [y70, y71]; exact hfit)) [5, 6, 7, 0, 3, 4, 1, 2] [] [0] rfl rfl rfl (by decide) (by decide) (by decide) 0 rfl rfl (big_in mw_1185 rfl) (big_in mw_10 rfl) (big_in mw_1182 rfl) (big_in mw_1184 rfl) (big_in sp_20 rfl) rfl rfl (by decide +kernel) ⟨by rw [hR]; exact Nat.le_of_ble_eq_true rfl, by rw [hR]; exact Nat.le_of_ble_eq_true rfl⟩ rfl (Nat.le_of_ble_eq_true rfl) d_Mo_multiple_89 ⟨by rw [hR]; exact Nat.le_of_ble_eq_true rfl, by rw [hR]; exact Nat.le_of_ble_eq_true rfl⟩ rfl (fun v u H locs hp8 hP hD hS _ => ?_)
  obtain ⟨fa, fb, fc, fd, fe, ff, fg, v9⟩ := u
  try dsimp only at hp8
  obtain ⟨rfl, w9, q9⟩ := hp8
  have hP : va_P D cls0 [(mo, .inr (8, [.int (iZ 0), .int (iZ (np : Int)), .ref ow, .ref om, .ref ok_, .ref oK, .ref og, .ref on_, .ref oh, .ref ox, .int qn, .int qf, .ref op_, .int ql])), (ow, .inl (cI, 108000, .inl fa)), (om, .inl (cI, 9, .inl fb)), (oh, .inl (cI, 10000, .inl fc)), (ok_, .inl (cI, 166400, .inl fd)), (oK, .inl (cI, 64, .inl fe)), (og, .inl (cI, 32, .inl ff)), (on_, .inl (cI, 32, .inl fg))] H := hP
  have hD : va_D A [(mo, .inr (8, [.int (iZ 0), .int (iZ (np : Int)), .ref ow, .ref om, .ref ok_, .ref oK, .ref og, .ref on_, .ref oh, .ref ox, .int qn, .int qf, .ref op_, .int ql])), (ow, .inl (cI, 108000, .inl fa)), (om, .inl (cI, 9, .inl fb)), (oh, .inl (cI, 10000, .inl fc)), (ok_, .inl (cI, 166400, .inl fd)), (oK, .inl (cI, 64, .inl fe)), (og, .inl (cI, 32, .inl ff)), (on_, .inl (cI, 32, .inl fg))] := hD
  show W p l e R s m args below meth c H locs _ _ Q (F0 m 92 ls [.int (iZ ((lm (rdN (v7 0) (v7 1)) : Int) + (lm (rdD (v7 0) (v7 1)) : Int)))])
  rw [y70, y71]
  rw [y70, y71] at q9
  have hP9 : va_P D cls0 [(mo, .inr (8, [.int (iZ 0), .int (iZ (np : Int)), .ref ow, .ref om, .ref ok_, .ref oK, .ref og, .ref on_, .ref oh, .ref ox, .int qn, .int qf, .ref op_, .int ql])), (ow, .inl (cI, 108000, .inl fa)), (om, .inl (cI, 9, .inl fb)), (oh, .inl (cI, 10000, .inl fc)), (ok_, .inl (cI, 166400, .inl fd)), (oK, .inl (cI, 64, .inl fe)), (og, .inl (cI, 32, .inl ff)), (on_, .inl (cI, 32, .inl fg))] H := hP.sub [0, 1, 2, 3, 4, 5, 6, 7] rfl
  have hD9 : va_D A [(mo, .inr (8, [.int (iZ 0), .int (iZ (np : Int)), .ref ow, .ref om, .ref ok_, .ref oK, .ref og, .ref on_, .ref oh, .ref ox, .int qn, .int qf, .ref op_, .int ql])), (ow, .inl (cI, 108000, .inl fa)), (om, .inl (cI, 9, .inl fb)), (oh, .inl (cI, 10000, .inl fc)), (ok_, .inl (cI, 166400, .inl fd)), (oK, .inl (cI, 64, .inl fe)), (og, .inl (cI, 32, .inl ff)), (on_, .inl (cI, 32, .inl fg))] := hD.sub [0, 1, 2, 3, 4, 5, 6, 7] (by decide) rfl
  rw [hQ, ← hAe]
  refine r_i (v := (iZ ((lm (rdN ((nmQ (tv a * 2 ^ E) (bv a))) ((2 ^ E))) : Int) + (lm (rdD ((nmQ (tv a * 2 ^ E) (bv a))) ((2 ^ E))) : Int)))) K (fa, fb, fc, fd, fe, ff, fg, v9) hS d_Mo_multiple_92 ?_ (fun t ht hv => ?_)
  · try dsimp only
    refine ⟨rfl, w9, ?_⟩
    exact q9
  · exact ⟨by rw [ht]; exact hP9, va_K.moved hv hK, by rw [← hAe]; exact hD9⟩
set_option maxHeartbeats 4000000 in
set_option maxRecDepth 100000 in
/-- Mo_multiple -/
theorem f_Mo_multipleDn (l : Launch) (D : va_G) (mo : Nat) (qc : Int32) (np : Nat) (ow : Nat) (om : Nat) (ok_ : Nat) (oK : Nat) (og : Nat) (on_ : Nat) (oh : Nat) (ox : Nat) (qn : Int32) (qf : Int32) (op_ : Nat) (ql : Int32) (fw : Nat → Int32) (fm : Nat → Int32) (cI : ClassId) (fh : Nat → Int32) (fk : Nat → Int32) (fK : Nat → Int32) (fs : Nat → Int32) (fn : Nat → Int32) (val : Nat → Nat) (tv : Nat → Nat) (bv : Nat → Nat) (sg : Nat → Int) (to : Nat) (a : Nat) (E : Nat) (sz : Nat) (hW : WB fw fm val) (hMR : MoR fk fK fs fn tv bv sg) (hnd : ndS tv bv 32 ≤ np) (hnp : np ≤ 1024) (J : RgC tv bv sg) (hbv : ∀ r, r < 32 → 0 < bv r) (t1 : to < 32) (t2 : a < 32) (hE : E ≤ 34000) (hE0 : 0 < E) (hfit : np + (lm (tv to) + lm (bv to)) < ndS tv bv 32 + (lm (rdN (nmQ (tv a * 2 ^ E) (bv a)) (2 ^ E)) + lm (rdD (nmQ (tv a * 2 ^ E) (bv a)) (2 ^ E)))) : Met l y_Mo_multiple (wsB y_Mo_multiple b_Mo_multiple 4 (some .int)) ({ frames := 5, cells := 0, slots := 0, locals := 125 }) (va_Pc [.ref mo, .int (iZ (to : Int)), .int (iZ (a : Int)), .int (iZ (-(E : Int)))] (wPre D [(cI, .int)] [(mo, .inr (8, [.int qc, .int (iZ (np : Int)), .ref ow, .ref om, .ref ok_, .ref oK, .ref og, .ref on_, .ref oh, .ref ox, .int qn, .int qf, .ref op_, .int ql])), (ow, .inl (cI, 108000, .inl fw)), (om, .inl (cI, 9, .inl fm)), (oh, .inl (cI, 10000, .inl fh)), (ok_, .inl (cI, 166400, .inl fk)), (oK, .inl (cI, 64, .inl fK)), (og, .inl (cI, 32, .inl fs)), (on_, .inl (cI, 32, .inl fn))] sz)) (va_QV (fun (v_9 : Option Value) (u_9 : (Nat → Int32) × (Nat → Int32) × (Nat → Int32) × (Nat → Nat)) => v_9 = some (.int (iZ 0)) ∧ (WB u_9.1 u_9.2.1 u_9.2.2.2)) (fun u_9 => wPost D [(cI, .int)] [(mo, .inr (8, [.int qc, .int (iZ (np : Int)), .ref ow, .ref om, .ref ok_, .ref oK, .ref og, .ref on_, .ref oh, .ref ox, .int qn, .int qf, .ref op_, .int ql])), (ow, .inl (cI, 108000, .inl fw)), (om, .inl (cI, 9, .inl fm)), (oh, .inl (cI, 10000, .inl fh)), (ok_, .inl (cI, 166400, .inl fk)), (oK, .inl (cI, 64, .inl fK)), (og, .inl (cI, 32, .inl fs)), (on_, .inl (cI, 32, .inl fn))] [(mo, .inr (8, [.int (iZ 3), .int (iZ (np : Int)), .ref ow, .ref om, .ref ok_, .ref oK, .ref og, .ref on_, .ref oh, .ref ox, .int qn, .int qf, .ref op_, .int ql])), (ow, .inl (cI, 108000, .inl u_9.1)), (om, .inl (cI, 9, .inl u_9.2.1)), (oh, .inl (cI, 10000, .inl u_9.2.2.1)), (ok_, .inl (cI, 166400, .inl fk)), (oK, .inl (cI, 64, .inl fK)), (og, .inl (cI, 32, .inl fs)), (on_, .inl (cI, 32, .inl fn))] sz) (va_A [(mo, .inr (8, [.int qc, .int (iZ (np : Int)), .ref ow, .ref om, .ref ok_, .ref oK, .ref og, .ref on_, .ref oh, .ref ox, .int qn, .int qf, .ref op_, .int ql])), (ow, .inl (cI, 108000, .inl fw)), (om, .inl (cI, 9, .inl fm)), (oh, .inl (cI, 10000, .inl fh)), (ok_, .inl (cI, 166400, .inl fk)), (oK, .inl (cI, 64, .inl fK)), (og, .inl (cI, 32, .inl fs)), (on_, .inl (cI, 32, .inl fn))] sz)) 0 0 (va_A [(mo, .inr (8, [.int qc, .int (iZ (np : Int)), .ref ow, .ref om, .ref ok_, .ref oK, .ref og, .ref on_, .ref oh, .ref ox, .int qn, .int qf, .ref op_, .int ql])), (ow, .inl (cI, 108000, .inl fw)), (om, .inl (cI, 9, .inl fm)), (oh, .inl (cI, 10000, .inl fh)), (ok_, .inl (cI, 166400, .inl fk)), (oK, .inl (cI, 64, .inl fK)), (og, .inl (cI, 32, .inl fs)), (on_, .inl (cI, 32, .inl fn))] sz) := by
  refine met_enter (by decide +kernel) (Nat.le_of_ble_eq_true rfl) ?_
  intro p e s m args below meth c ls A R Q H locs K hin hAe hA hR hQ hP hK hD hS hl
  obtain ⟨hx, hb, hml, hrt, hlk, hts, hown, hno⟩ := id K
  have hl : lv_has ls 4 [(0, .ref mo), (1, .int (iZ (to : Int))), (2, .int (iZ (a : Int))), (3, .int (iZ (-(E : Int))))] := hl
  have hlr : ∀ q, q < 32 → lm (tv q) + lm (bv q) ≤ 1024 := fun q hq => by have z := ndS_le (tv := tv) (bv := bv) hq; omega
  have hnt : ∀ q, q < 32 → nd (tv q) ≤ 2600 := fun q hq => by have z := nd_lm (v := tv q) (L := 1024) (by have y := hlr q hq; omega); omega
  have hnb : ∀ q, q < 32 → nd (bv q) ≤ 2600 := fun q hq => by have z := nd_lm (v := bv q) (L := 1024) (by have y := hlr q hq; omega); omega
  obtain ⟨ja1, ja2, ja3⟩ := J a (by omega)
  have pa := hbv a (by omega)
  have la := hlr a (by omega)
  have n1 := hnt a (by omega)
  have n2 := hnb a (by omega)
  refine lv_aload_n hx hb d_Mo_multiple_0 rfl (lv_at hl 0 rfl) ?_
  refine lv_iconst (v := iZ (0)) hx hb d_Mo_multiple_1 (by decide +kernel) ?_
  refine lv_iconst (v := iZ (2)) hx hb d_Mo_multiple_2 (by decide +kernel) ?_
  refine lv_iload_n hx hb d_Mo_multiple_3 rfl (lv_at hl 2 rfl) ?_
  refine zz_imul hx hb d_Mo_multiple_4 ?_
  rw [show (2 * (a : Int) : Int) = ((2 * a : Nat) : Int) by omega]
  refine cv (n := 2) (wr := [(oh, .inl (cI, 10000, .inl fh)), (og, .inl (cI, 32, .inl fs)), (on_, .inl (cI, 32, .inl fn))]) (w1 := (fun (u : (Nat → Int32) × (Nat → Int32)) => [(mo, .inr (8, [.int qc, .int (iZ (np : Int)), .ref ow, .ref om, .ref ok_, .ref oK, .ref og, .ref on_, .ref oh, .ref ox, .int qn, .int qf, .ref op_, .int ql])), (ow, .inl (cI, 108000, .inl u.1)), (om, .inl (cI, 9, .inl u.2)), (ok_, .inl (cI, 166400, .inl fk)), (oK, .inl (cI, 64, .inl fK))])) (As := [.int (iZ 0), .int (iZ ((2 * a : Nat) : Int))]) (rest := []) K hP hD hK hS hA hl.1 (c_Mo_load l D mo qc np ow om ok_ oK og on_ oh ox qn qf op_ ql fw fm cI fk fK val (kvf tv bv) 0 (2 * a) H.size hW hMR.1 (by decide) (by omega)) [0, 1, 2, 4, 5] [3, 6, 7] [0] rfl rfl rfl (by decide) (by decide) (by decide) 0 rfl rfl (big_in mw_1238 rfl) (big_in mw_10 rfl) (big_in mw_1235 rfl) (big_in mw_1237 rfl) (big_in sp_31 rfl) rfl rfl (by decide +kernel) ⟨by rw [hR]; exact Nat.le_of_ble_eq_true rfl, by rw [hR]; exact Nat.le_of_ble_eq_true rfl⟩ rfl (Nat.le_of_ble_eq_true rfl) d_Mo_multiple_5 ⟨by rw [hR]; exact Nat.le_of_ble_eq_true rfl, by rw [hR]; exact Nat.le_of_ble_eq_true rfl⟩ rfl (fun v u H locs hp1 hP hD hS _ => ?_)
  obtain ⟨fx1, fy1⟩ := u
  try dsimp only at hp1
  obtain ⟨rfl, w1⟩ := hp1
  have hP : va_P D cls0 [(oh, .inl (cI, 10000, .inl fh)), (og, .inl (cI, 32, .inl fs)), (on_, .inl (cI, 32, .inl fn)), (mo, .inr (8, [.int qc, .int (iZ (np : Int)), .ref ow, .ref om, .ref ok_, .ref oK, .ref og, .ref on_, .ref oh, .ref ox, .int qn, .int qf, .ref op_, .int ql])), (ow, .inl (cI, 108000, .inl fx1)), (om, .inl (cI, 9, .inl fy1)), (ok_, .inl (cI, 166400, .inl fk)), (oK, .inl (cI, 64, .inl fK))] H := hP
  have hD : va_D A [(oh, .inl (cI, 10000, .inl fh)), (og, .inl (cI, 32, .inl fs)), (on_, .inl (cI, 32, .inl fn)), (mo, .inr (8, [.int qc, .int (iZ (np : Int)), .ref ow, .ref om, .ref ok_, .ref oK, .ref og, .ref on_, .ref oh, .ref ox, .int qn, .int qf, .ref op_, .int ql])), (ow, .inl (cI, 108000, .inl fx1)), (om, .inl (cI, 9, .inl fy1)), (ok_, .inl (cI, 166400, .inl fk)), (oK, .inl (cI, 64, .inl fK))] := hD
  show W p l e R s m args below meth c H locs _ _ Q (F0 m 8 ls [])
  rw [kvf_0] at w1
  obtain ⟨v1, hv1⟩ : ∃ z, z = up val 0 (tv a) := ⟨_, rfl⟩
  rw [← hv1] at w1
  refine lv_aload_n hx hb d_Mo_multiple_8 rfl (lv_at hl 0 rfl) ?_
  refine lv_iconst (v := iZ (1)) hx hb d_Mo_multiple_9 (by decide +kernel) ?_
  refine lv_iconst (v := iZ (2)) hx hb d_Mo_multiple_10 (by decide +kernel) ?_
  refine lv_iload_n hx hb d_Mo_multiple_11 rfl (lv_at hl 2 rfl) ?_
  refine zz_imul hx hb d_Mo_multiple_12 ?_
  refine lv_iconst (v := iZ (1)) hx hb d_Mo_multiple_13 (by decide +kernel) ?_
  refine zz_iadd hx hb d_Mo_multiple_14 ?_
  rw [show (2 * (a : Int) + 1 : Int) = ((2 * a + 1 : Nat) : Int) by omega]
  refine cv (n := 2) (wr := [(oh, .inl (cI, 10000, .inl fh)), (og, .inl (cI, 32, .inl fs)), (on_, .inl (cI, 32, .inl fn))]) (w1 := (fun (u : (Nat → Int32) × (Nat → Int32)) => [(mo, .inr (8, [.int qc, .int (iZ (np : Int)), .ref ow, .ref om, .ref ok_, .ref oK, .ref og, .ref on_, .ref oh, .ref ox, .int qn, .int qf, .ref op_, .int ql])), (ow, .inl (cI, 108000, .inl u.1)), (om, .inl (cI, 9, .inl u.2)), (ok_, .inl (cI, 166400, .inl fk)), (oK, .inl (cI, 64, .inl fK))])) (As := [.int (iZ 1), .int (iZ ((2 * a + 1 : Nat) : Int))]) (rest := []) K hP hD hK hS hA hl.1 (c_Mo_load l D mo qc np ow om ok_ oK og on_ oh ox qn qf op_ ql fx1 fy1 cI fk fK v1 (kvf tv bv) 1 (2 * a + 1) H.size w1 hMR.1 (by decide) (by omega)) [3, 4, 5, 6, 7] [0, 1, 2] [0] rfl rfl rfl (by decide) (by decide) (by decide) 0 rfl rfl (big_in mw_1238 rfl) (big_in mw_10 rfl) (big_in mw_1235 rfl) (big_in mw_1237 rfl) (big_in sp_31 rfl) rfl rfl (by decide +kernel) ⟨by rw [hR]; exact Nat.le_of_ble_eq_true rfl, by rw [hR]; exact Nat.le_of_ble_eq_true rfl⟩ rfl (Nat.le_of_ble_eq_true rfl) d_Mo_multiple_15 ⟨by rw [hR]; exact Nat.le_of_ble_eq_true rfl, by rw [hR]; exact Nat.le_of_ble_eq_true rfl⟩ rfl (fun v u H locs hp2 hP hD hS _ => ?_)
  obtain ⟨fx2, fy2⟩ := u
  try dsimp only at hp2
  obtain ⟨rfl, w2⟩ := hp2
  have hP : va_P D cls0 [(oh, .inl (cI, 10000, .inl fh)), (og, .inl (cI, 32, .inl fs)), (on_, .inl (cI, 32, .inl fn)), (mo, .inr (8, [.int qc, .int (iZ (np : Int)), .ref ow, .ref om, .ref ok_, .ref oK, .ref og, .ref on_, .ref oh, .ref ox, .int qn, .int qf, .ref op_, .int ql])), (ow, .inl (cI, 108000, .inl fx2)), (om, .inl (cI, 9, .inl fy2)), (ok_, .inl (cI, 166400, .inl fk)), (oK, .inl (cI, 64, .inl fK))] H := hP
  have hD : va_D A [(oh, .inl (cI, 10000, .inl fh)), (og, .inl (cI, 32, .inl fs)), (on_, .inl (cI, 32, .inl fn)), (mo, .inr (8, [.int qc, .int (iZ (np : Int)), .ref ow, .ref om, .ref ok_, .ref oK, .ref og, .ref on_, .ref oh, .ref ox, .int qn, .int qf, .ref op_, .int ql])), (ow, .inl (cI, 108000, .inl fx2)), (om, .inl (cI, 9, .inl fy2)), (ok_, .inl (cI, 166400, .inl fk)), (oK, .inl (cI, 64, .inl fK))] := hD
  show W p l e R s m args below meth c H locs _ _ Q (F0 m 18 ls [])
  rw [kvf_1] at w2
  obtain ⟨v2, hv2⟩ : ∃ z, z = up v1 1 (bv a) := ⟨_, rfl⟩
  rw [← hv2] at w2
  have e0 : v2 0 = tv a := by rw [hv2, up_n (by decide), hv1, up_s]
  have e1 : v2 1 = bv a := by rw [hv2, up_s]
  have ba := hlr a (by omega)
  refine lv_aload_n hx hb d_Mo_multiple_18 rfl (lv_at hl 0 rfl) ?_
  refine lv_iload_n hx hb d_Mo_multiple_19 rfl (lv_at hl 3 rfl) ?_
  refine zz_if_ge (tgt := 27) hx hb d_Mo_multiple_20 (by decide) (by omega) (fun c20 => False.elim (by omega)) (fun c20 => ?_)
  refine lv_iconst (v := iZ (0)) hx hb d_Mo_multiple_23 (by decide +kernel) ?_
  refine lv_goto (tgt := 28) hx hb d_Mo_multiple_24 (by decide) ?_
  refine lv_iload_n hx hb d_Mo_multiple_28 rfl (lv_at hl 3 rfl) ?_
  refine zz_if_ge (tgt := 37) hx hb d_Mo_multiple_29 (by decide) (by omega) (fun c29 => False.elim (by omega)) (fun c29 => ?_)
  refine lv_iload_n hx hb d_Mo_multiple_32 rfl (lv_at hl 3 rfl) ?_
  refine zz_ineg hx hb d_Mo_multiple_33 ?_
  refine lv_goto (tgt := 38) hx hb d_Mo_multiple_34 (by decide) ?_
  rw [show (-(-(E : Int)) : Int) = (E : Int) by omega]
  refine cv (n := 2) (wr := [(oh, .inl (cI, 10000, .inl fh)), (og, .inl (cI, 32, .inl fs)), (on_, .inl (cI, 32, .inl fn)), (ok_, .inl (cI, 166400, .inl fk)), (oK, .inl (cI, 64, .inl fK))]) (w1 := (fun (u : (Nat → Int32) × (Nat → Int32)) => [(mo, .inr (8, [.int qc, .int (iZ (np : Int)), .ref ow, .ref om, .ref ok_, .ref oK, .ref og, .ref on_, .ref oh, .ref ox, .int qn, .int qf, .ref op_, .int ql])), (ow, .inl (cI, 108000, .inl u.1)), (om, .inl (cI, 9, .inl u.2))])) (As := [.int (iZ 0), .int (iZ (E : Int))]) (rest := []) K hP hD hK hS hA hl.1 (c_Mo_doubled l D mo qc np ow om ok_ oK og on_ oh ox qn qf op_ ql fx2 fy2 cI v2 0 E H.size w2 (by decide) (by omega) (by rw [e0]; have z := nd_shl (tv a) E; omega)) [3, 4, 5] [0, 1, 2, 6, 7] [0] rfl rfl rfl (by decide) (by decide) (by decide) 0 rfl rfl (big_in mw_1320 rfl) (big_in mw_10 rfl) (big_in mw_1317 rfl) (big_in mw_1319 rfl) (big_in sp_42 rfl) rfl rfl (by decide +kernel) ⟨by rw [hR]; exact Nat.le_of_ble_eq_true rfl, by rw [hR]; exact Nat.le_of_ble_eq_true rfl⟩ rfl (Nat.le_of_ble_eq_true rfl) d_Mo_multiple_38 ⟨by rw [hR]; exact Nat.le_of_ble_eq_true rfl, by rw [hR]; exact Nat.le_of_ble_eq_true rfl⟩ rfl (fun v u H locs hp3 hP hD hS _ => ?_)
  obtain ⟨fx3, fy3⟩ := u
  try dsimp only at hp3
  obtain ⟨rfl, w3⟩ := hp3
  have hP : va_P D cls0 [(oh, .inl (cI, 10000, .inl fh)), (og, .inl (cI, 32, .inl fs)), (on_, .inl (cI, 32, .inl fn)), (ok_, .inl (cI, 166400, .inl fk)), (oK, .inl (cI, 64, .inl fK)), (mo, .inr (8, [.int qc, .int (iZ (np : Int)), .ref ow, .ref om, .ref ok_, .ref oK, .ref og, .ref on_, .ref oh, .ref ox, .int qn, .int qf, .ref op_, .int ql])), (ow, .inl (cI, 108000, .inl fx3)), (om, .inl (cI, 9, .inl fy3))] H := hP
  have hD : va_D A [(oh, .inl (cI, 10000, .inl fh)), (og, .inl (cI, 32, .inl fs)), (on_, .inl (cI, 32, .inl fn)), (ok_, .inl (cI, 166400, .inl fk)), (oK, .inl (cI, 64, .inl fK)), (mo, .inr (8, [.int qc, .int (iZ (np : Int)), .ref ow, .ref om, .ref ok_, .ref oK, .ref og, .ref on_, .ref oh, .ref ox, .int qn, .int qf, .ref op_, .int ql])), (ow, .inl (cI, 108000, .inl fx3)), (om, .inl (cI, 9, .inl fy3))] := hD
  show W p l e R s m args below meth c H locs _ _ Q (F0 m 41 ls [])
  rw [e0] at w3
  obtain ⟨v3, hv3⟩ : ∃ z, z = up v2 0 (tv a * 2 ^ E) := ⟨_, rfl⟩
  rw [← hv3] at w3
  have y30 : v3 0 = tv a * 2 ^ E := by rw [hv3, up_s]
  have y31 : v3 1 = bv a := by rw [hv3, up_n (by decide)]; exact e1
  have ns := nd_shl (tv a) E
  refine lv_aload_n hx hb d_Mo_multiple_41 rfl (lv_at hl 0 rfl) ?_
  refine cv (n := 0) (wr := [(oh, .inl (cI, 10000, .inl fh)), (og, .inl (cI, 32, .inl fs)), (on_, .inl (cI, 32, .inl fn)), (ok_, .inl (cI, 166400, .inl fk)), (oK, .inl (cI, 64, .inl fK))]) (w1 := (fun (u : (Nat → Int32) × (Nat → Int32) × (Nat → Nat)) => [(mo, .inr (8, [.int qc, .int (iZ (np : Int)), .ref ow, .ref om, .ref ok_, .ref oK, .ref og, .ref on_, .ref oh, .ref ox, .int qn, .int qf, .ref op_, .int ql])), (ow, .inl (cI, 108000, .inl u.1)), (om, .inl (cI, 9, .inl u.2.1))])) (As := []) (rest := []) K hP hD hK hS hA hl.1 (c_Mo_nearest l D mo qc np ow om ok_ oK og on_ oh ox qn qf op_ ql fx3 fy3 cI v3 H.size w3 (by rw [y31]; exact pa) (by rw [y30]; omega) (by rw [y31]; omega)) [5, 6, 7] [0, 1, 2, 3, 4] [0] rfl rfl rfl (by decide) (by decide) (by decide) 0 rfl rfl (big_in mw_1333 rfl) (big_in mw_10 rfl) (big_in mw_1330 rfl) (big_in mw_1332 rfl) (big_in sp_45 rfl) rfl rfl (by decide +kernel) ⟨by rw [hR]; exact Nat.le_of_ble_eq_true rfl, by rw [hR]; exact Nat.le_of_ble_eq_true rfl⟩ rfl (Nat.le_of_ble_eq_true rfl) d_Mo_multiple_42 ⟨by rw [hR]; exact Nat.le_of_ble_eq_true rfl, by rw [hR]; exact Nat.le_of_ble_eq_true rfl⟩ rfl (fun v u H locs hp4 hP hD hS _ => ?_)
  obtain ⟨fx4, fy4, v4⟩ := u
  try dsimp only at hp4
  obtain ⟨rfl, w4, y42⟩ := hp4
  have hP : va_P D cls0 [(oh, .inl (cI, 10000, .inl fh)), (og, .inl (cI, 32, .inl fs)), (on_, .inl (cI, 32, .inl fn)), (ok_, .inl (cI, 166400, .inl fk)), (oK, .inl (cI, 64, .inl fK)), (mo, .inr (8, [.int qc, .int (iZ (np : Int)), .ref ow, .ref om, .ref ok_, .ref oK, .ref og, .ref on_, .ref oh, .ref ox, .int qn, .int qf, .ref op_, .int ql])), (ow, .inl (cI, 108000, .inl fx4)), (om, .inl (cI, 9, .inl fy4))] H := hP
  have hD : va_D A [(oh, .inl (cI, 10000, .inl fh)), (og, .inl (cI, 32, .inl fs)), (on_, .inl (cI, 32, .inl fn)), (ok_, .inl (cI, 166400, .inl fk)), (oK, .inl (cI, 64, .inl fK)), (mo, .inr (8, [.int qc, .int (iZ (np : Int)), .ref ow, .ref om, .ref ok_, .ref oK, .ref og, .ref on_, .ref oh, .ref ox, .int qn, .int qf, .ref op_, .int ql])), (ow, .inl (cI, 108000, .inl fx4)), (om, .inl (cI, 9, .inl fy4))] := hD
  show W p l e R s m args below meth c H locs _ _ Q (F0 m 45 ls [])
  rw [y30, y31] at y42
  have nq := nd_mono (nmQ_le (tv a * 2 ^ E) (bv a))
  have nq2 := nd_add (tv a * 2 ^ E) 1
  have nd1 : nd 1 = 1 := by decide
  refine lv_aload_n hx hb d_Mo_multiple_45 rfl (lv_at hl 0 rfl) ?_
  refine lv_iconst (v := iZ (0)) hx hb d_Mo_multiple_46 (by decide +kernel) ?_
  refine lv_iconst (v := iZ (2)) hx hb d_Mo_multiple_47 (by decide +kernel) ?_
  refine cv (n := 2) (wr := [(oh, .inl (cI, 10000, .inl fh)), (og, .inl (cI, 32, .inl fs)), (on_, .inl (cI, 32, .inl fn)), (ok_, .inl (cI, 166400, .inl fk)), (oK, .inl (cI, 64, .inl fK))]) (w1 := (fun (u : (Nat → Int32) × (Nat → Int32)) => [(mo, .inr (8, [.int qc, .int (iZ (np : Int)), .ref ow, .ref om, .ref ok_, .ref oK, .ref og, .ref on_, .ref oh, .ref ox, .int qn, .int qf, .ref op_, .int ql])), (ow, .inl (cI, 108000, .inl u.1)), (om, .inl (cI, 9, .inl u.2))])) (As := [.int (iZ 0), .int (iZ 2)]) (rest := []) K hP hD hK hS hA hl.1 (c_Mo_copyTo l D mo qc np ow om ok_ oK og on_ oh ox qn qf op_ ql fx4 fy4 cI v4 0 2 H.size w4 (by omega) (by omega) (by omega)) [5, 6, 7] [0, 1, 2, 3, 4] [0] rfl rfl rfl (by decide) (by decide) (by decide) 0 rfl rfl (big_in mw_1193 rfl) (big_in mw_10 rfl) (big_in mw_1190 rfl) (big_in mw_1192 rfl) (big_in sp_22 rfl) rfl rfl (by decide +kernel) ⟨by rw [hR]; exact Nat.le_of_ble_eq_true rfl, by rw [hR]; exact Nat.le_of_ble_eq_true rfl⟩ rfl (Nat.le_of_ble_eq_true rfl) d_Mo_multiple_48 ⟨by rw [hR]; exact Nat.le_of_ble_eq_true rfl, by rw [hR]; exact Nat.le_of_ble_eq_true rfl⟩ rfl (fun v u H locs hp5 hP hD hS _ => ?_)
  obtain ⟨fx5, fy5⟩ := u
  try dsimp only at hp5
  obtain ⟨rfl, w5⟩ := hp5
  have hP : va_P D cls0 [(oh, .inl (cI, 10000, .inl fh)), (og, .inl (cI, 32, .inl fs)), (on_, .inl (cI, 32, .inl fn)), (ok_, .inl (cI, 166400, .inl fk)), (oK, .inl (cI, 64, .inl fK)), (mo, .inr (8, [.int qc, .int (iZ (np : Int)), .ref ow, .ref om, .ref ok_, .ref oK, .ref og, .ref on_, .ref oh, .ref ox, .int qn, .int qf, .ref op_, .int ql])), (ow, .inl (cI, 108000, .inl fx5)), (om, .inl (cI, 9, .inl fy5))] H := hP
  have hD : va_D A [(oh, .inl (cI, 10000, .inl fh)), (og, .inl (cI, 32, .inl fs)), (on_, .inl (cI, 32, .inl fn)), (ok_, .inl (cI, 166400, .inl fk)), (oK, .inl (cI, 64, .inl fK)), (mo, .inr (8, [.int qc, .int (iZ (np : Int)), .ref ow, .ref om, .ref ok_, .ref oK, .ref og, .ref on_, .ref oh, .ref ox, .int qn, .int qf, .ref op_, .int ql])), (ow, .inl (cI, 108000, .inl fx5)), (om, .inl (cI, 9, .inl fy5))] := hD
  show W p l e R s m args below meth c H locs _ _ Q (F0 m 51 ls [])
  rw [y42] at w5
  obtain ⟨v5, hv5⟩ : ∃ z, z = up v4 0 (nmQ (tv a * 2 ^ E) (bv a)) := ⟨_, rfl⟩
  rw [← hv5] at w5
  refine lv_aload_n hx hb d_Mo_multiple_51 rfl (lv_at hl 0 rfl) ?_
  refine lv_iconst (v := iZ (1)) hx hb d_Mo_multiple_52 (by decide +kernel) ?_
  refine lv_lconst (v := lZ (1)) hx hb d_Mo_multiple_53 (by decide +kernel) ?_
  refine cv (n := 2) (wr := [(oh, .inl (cI, 10000, .inl fh)), (og, .inl (cI, 32, .inl fs)), (on_, .inl (cI, 32, .inl fn)), (ok_, .inl (cI, 166400, .inl fk)), (oK, .inl (cI, 64, .inl fK))]) (w1 := (fun (u : (Nat → Int32) × (Nat → Int32)) => [(mo, .inr (8, [.int qc, .int (iZ (np : Int)), .ref ow, .ref om, .ref ok_, .ref oK, .ref og, .ref on_, .ref oh, .ref ox, .int qn, .int qf, .ref op_, .int ql])), (ow, .inl (cI, 108000, .inl u.1)), (om, .inl (cI, 9, .inl u.2))])) (As := [.int (iZ 1), .long (lZ 1)]) (rest := []) K hP hD hK hS hA hl.1 (c_Mo_setLong l D mo qc np ow om ok_ oK og on_ oh ox qn qf op_ ql fx5 fy5 cI v5 1 1 H.size w5 (by omega) (by omega)) [5, 6, 7] [0, 1, 2, 3, 4] [0] rfl rfl rfl (by decide) (by decide) (by decide) 0 rfl rfl (big_in mw_1180 rfl) (big_in mw_10 rfl) (big_in mw_1177 rfl) (big_in mw_1179 rfl) (big_in sp_19 rfl) rfl rfl (by decide +kernel) ⟨by rw [hR]; exact Nat.le_of_ble_eq_true rfl, by rw [hR]; exact Nat.le_of_ble_eq_true rfl⟩ rfl (Nat.le_of_ble_eq_true rfl) d_Mo_multiple_54 ⟨by rw [hR]; exact Nat.le_of_ble_eq_true rfl, by rw [hR]; exact Nat.le_of_ble_eq_true rfl⟩ rfl (fun v u H locs hp6 hP hD hS _ => ?_)
  obtain ⟨fx6, fy6⟩ := u
  try dsimp only at hp6
  obtain ⟨rfl, w6⟩ := hp6
  have hP : va_P D cls0 [(oh, .inl (cI, 10000, .inl fh)), (og, .inl (cI, 32, .inl fs)), (on_, .inl (cI, 32, .inl fn)), (ok_, .inl (cI, 166400, .inl fk)), (oK, .inl (cI, 64, .inl fK)), (mo, .inr (8, [.int qc, .int (iZ (np : Int)), .ref ow, .ref om, .ref ok_, .ref oK, .ref og, .ref on_, .ref oh, .ref ox, .int qn, .int qf, .ref op_, .int ql])), (ow, .inl (cI, 108000, .inl fx6)), (om, .inl (cI, 9, .inl fy6))] H := hP
  have hD : va_D A [(oh, .inl (cI, 10000, .inl fh)), (og, .inl (cI, 32, .inl fs)), (on_, .inl (cI, 32, .inl fn)), (ok_, .inl (cI, 166400, .inl fk)), (oK, .inl (cI, 64, .inl fK)), (mo, .inr (8, [.int qc, .int (iZ (np : Int)), .ref ow, .ref om, .ref ok_, .ref oK, .ref og, .ref on_, .ref oh, .ref ox, .int qn, .int qf, .ref op_, .int ql])), (ow, .inl (cI, 108000, .inl fx6)), (om, .inl (cI, 9, .inl fy6))] := hD
  show W p l e R s m args below meth c H locs _ _ Q (F0 m 57 ls [])
  obtain ⟨v6, hv6⟩ : ∃ x, x = up v5 1 1 := ⟨_, rfl⟩
  have w6 : WB fx6 fy6 v6 := by rw [hv6]; exact w6
  have y60 : v6 0 = nmQ (tv a * 2 ^ E) (bv a) := by rw [hv6, up_n (by decide), hv5, up_s]
  have y61 : v6 1 = 1 := by rw [hv6, up_s]
  refine lv_aload_n hx hb d_Mo_multiple_57 rfl (lv_at hl 0 rfl) ?_
  refine lv_iload_n hx hb d_Mo_multiple_58 rfl (lv_at hl 3 rfl) ?_
  refine zz_if_ge (tgt := 66) hx hb d_Mo_multiple_59 (by decide) (by omega) (fun c59 => False.elim (by omega)) (fun c59 => ?_)
  refine lv_iconst (v := iZ (1)) hx hb d_Mo_multiple_62 (by decide +kernel) ?_
  refine lv_goto (tgt := 67) hx hb d_Mo_multiple_63 (by decide) ?_
  refine lv_iload_n hx hb d_Mo_multiple_67 rfl (lv_at hl 3 rfl) ?_
  refine zz_if_ge (tgt := 76) hx hb d_Mo_multiple_68 (by decide) (by omega) (fun c68 => False.elim (by omega)) (fun c68 => ?_)
  refine lv_iload_n hx hb d_Mo_multiple_71 rfl (lv_at hl 3 rfl) ?_
  refine zz_ineg hx hb d_Mo_multiple_72 ?_
  refine lv_goto (tgt := 77) hx hb d_Mo_multiple_73 (by decide) ?_
  rw [show (-(-(E : Int)) : Int) = (E : Int) by omega]
  refine cv (n := 2) (wr := [(oh, .inl (cI, 10000, .inl fh)), (og, .inl (cI, 32, .inl fs)), (on_, .inl (cI, 32, .inl fn)), (ok_, .inl (cI, 166400, .inl fk)), (oK, .inl (cI, 64, .inl fK))]) (w1 := (fun (u : (Nat → Int32) × (Nat → Int32)) => [(mo, .inr (8, [.int qc, .int (iZ (np : Int)), .ref ow, .ref om, .ref ok_, .ref oK, .ref og, .ref on_, .ref oh, .ref ox, .int qn, .int qf, .ref op_, .int ql])), (ow, .inl (cI, 108000, .inl u.1)), (om, .inl (cI, 9, .inl u.2))])) (As := [.int (iZ 1), .int (iZ (E : Int))]) (rest := []) K hP hD hK hS hA hl.1 (c_Mo_doubled l D mo qc np ow om ok_ oK og on_ oh ox qn qf op_ ql fx6 fy6 cI v6 1 E H.size w6 (by decide) (by omega) (by rw [y61]; have z := nd_shl 1 E; omega)) [5, 6, 7] [0, 1, 2, 3, 4] [0] rfl rfl rfl (by decide) (by decide) (by decide) 0 rfl rfl (big_in mw_1320 rfl) (big_in mw_10 rfl) (big_in mw_1317 rfl) (big_in mw_1319 rfl) (big_in sp_42 rfl) rfl rfl (by decide +kernel) ⟨by rw [hR]; exact Nat.le_of_ble_eq_true rfl, by rw [hR]; exact Nat.le_of_ble_eq_true rfl⟩ rfl (Nat.le_of_ble_eq_true rfl) d_Mo_multiple_77 ⟨by rw [hR]; exact Nat.le_of_ble_eq_true rfl, by rw [hR]; exact Nat.le_of_ble_eq_true rfl⟩ rfl (fun v u H locs hp7 hP hD hS _ => ?_)
  obtain ⟨fx7, fy7⟩ := u
  try dsimp only at hp7
  obtain ⟨rfl, w7⟩ := hp7
  have hP : va_P D cls0 [(oh, .inl (cI, 10000, .inl fh)), (og, .inl (cI, 32, .inl fs)), (on_, .inl (cI, 32, .inl fn)), (ok_, .inl (cI, 166400, .inl fk)), (oK, .inl (cI, 64, .inl fK)), (mo, .inr (8, [.int qc, .int (iZ (np : Int)), .ref ow, .ref om, .ref ok_, .ref oK, .ref og, .ref on_, .ref oh, .ref ox, .int qn, .int qf, .ref op_, .int ql])), (ow, .inl (cI, 108000, .inl fx7)), (om, .inl (cI, 9, .inl fy7))] H := hP
  have hD : va_D A [(oh, .inl (cI, 10000, .inl fh)), (og, .inl (cI, 32, .inl fs)), (on_, .inl (cI, 32, .inl fn)), (ok_, .inl (cI, 166400, .inl fk)), (oK, .inl (cI, 64, .inl fK)), (mo, .inr (8, [.int qc, .int (iZ (np : Int)), .ref ow, .ref om, .ref ok_, .ref oK, .ref og, .ref on_, .ref oh, .ref ox, .int qn, .int qf, .ref op_, .int ql])), (ow, .inl (cI, 108000, .inl fx7)), (om, .inl (cI, 9, .inl fy7))] := hD
  show W p l e R s m args below meth c H locs _ _ Q (F0 m 80 ls [])
  rw [y61, Nat.one_mul] at w7
  obtain ⟨v7, hv7⟩ : ∃ z, z = up v6 1 (2 ^ E) := ⟨_, rfl⟩
  rw [← hv7] at w7
  have y70 : v7 0 = nmQ (tv a * 2 ^ E) (bv a) := by rw [hv7, up_n (by decide)]; exact y60
  have y71 : v7 1 = 2 ^ E := by rw [hv7, up_s]
  have l3 := nmD_lm (tv a) (bv a) E
  have l4 := p2_lm E
  refine lv_aload_n hx hb d_Mo_multiple_80 rfl (lv_at hl 0 rfl) ?_
  refine lv_iload_n hx hb d_Mo_multiple_81 rfl (lv_at hl 1 rfl) ?_
  refine lv_aload_n hx hb d_Mo_multiple_82 rfl (lv_at hl 0 rfl) ?_
  refine va_get (D := D) (ci := 8) (v := .ref og) (C := R_Mo) (T := F_Mo) (N := 14) hx hb hts i_Mo hown hK hP 5 rfl rfl 6 (by decide) (hts _ (big_in mw_1121 rfl)) (fun _ h9 => h9) rfl d_Mo_multiple_83 ?_
  refine lv_iload_n hx hb d_Mo_multiple_86 rfl (lv_at hl 2 rfl) ?_
  refine zz_iald hx hb hK hP 1 0 rfl rfl (a) (by omega) (by omega) (by omega) d_Mo_multiple_87 ?_
  rw [hMR.2.1 a (by omega)]
  refine lv_iconst (v := iZ (3)) hx hb d_Mo_multiple_88 (by decide +kernel) ?_
  refine cv (n := 3) (wr := []) (w1 := (fun (u : (Nat → Int32) × (Nat → Int32) × (Nat → Int32) × (Nat → Nat)) => [(mo, .inr (8, [.int (iZ 3), .int (iZ (np : Int)), .ref ow, .ref om, .ref ok_, .ref oK, .ref og, .ref on_, .ref oh, .ref ox, .int qn, .int qf, .ref op_, .int ql])), (ow, .inl (cI, 108000, .inl u.1)), (om, .inl (cI, 9, .inl u.2.1)), (oh, .inl (cI, 10000, .inl u.2.2.1)), (ok_, .inl (cI, 166400, .inl fk)), (oK, .inl (cI, 64, .inl fK)), (og, .inl (cI, 32, .inl fs)), (on_, .inl (cI, 32, .inl fn))])) (As := [.int (iZ (to : Int)), .int (iZ (sg a)), .int (iZ 3)]) (rest := []) K hP hD hK hS hA hl.1 (c_Mo_putX l D mo qc np ow om ok_ oK og on_ oh ox qn qf op_ ql fx7 fy7 cI fh fk fK fs fn v7 tv bv sg to (sg a) 3 H.size w7 hMR (by omega) hnd hnp (by omega) (by decide) (by rw [y71]; exact Nat.two_pow_pos _) (by rw [y70]; omega) (by rw [y71]; omega) (by rw [y70, y71]; exact hfit)) [5, 6, 7, 0, 3, 4, 1, 2] [] [0] rfl rfl rfl (by decide) (by decide) (by decide) 0 rfl rfl (big_in mw_1185 rfl) (big_in mw_10 rfl) (big_in mw_1182 rfl) (big_in mw_1184 rfl) (big_in sp_20 rfl) rfl rfl (by decide +kernel) ⟨by rw [hR]; exact Nat.le_of_ble_eq_true rfl, by rw [hR]; exact Nat.le_of_ble_eq_true rfl⟩ rfl (Nat.le_of_ble_eq_true rfl) d_Mo_multiple_89 ⟨by rw [hR]; exact Nat.le_of_ble_eq_true rfl, by rw [hR]; exact Nat.le_of_ble_eq_true rfl⟩ rfl (fun v u H locs hp8 hP hD hS _ => ?_)
  obtain ⟨fa, fb, fc, v9⟩ := u
  try dsimp only at hp8
  obtain ⟨rfl, w9⟩ := hp8
  have hP : va_P D cls0 [(mo, .inr (8, [.int (iZ 3), .int (iZ (np : Int)), .ref ow, .ref om, .ref ok_, .ref oK, .ref og, .ref on_, .ref oh, .ref ox, .int qn, .int qf, .ref op_, .int ql])), (ow, .inl (cI, 108000, .inl fa)), (om, .inl (cI, 9, .inl fb)), (oh, .inl (cI, 10000, .inl fc)), (ok_, .inl (cI, 166400, .inl fk)), (oK, .inl (cI, 64, .inl fK)), (og, .inl (cI, 32, .inl fs)), (on_, .inl (cI, 32, .inl fn))] H := hP
  have hD : va_D A [(mo, .inr (8, [.int (iZ 3), .int (iZ (np : Int)), .ref ow, .ref om, .ref ok_, .ref oK, .ref og, .ref on_, .ref oh, .ref ox, .int qn, .int qf, .ref op_, .int ql])), (ow, .inl (cI, 108000, .inl fa)), (om, .inl (cI, 9, .inl fb)), (oh, .inl (cI, 10000, .inl fc)), (ok_, .inl (cI, 166400, .inl fk)), (oK, .inl (cI, 64, .inl fK)), (og, .inl (cI, 32, .inl fs)), (on_, .inl (cI, 32, .inl fn))] := hD
  show W p l e R s m args below meth c H locs _ _ Q (F0 m 92 ls [.int (iZ 0)])
  have hP9 : va_P D cls0 [(mo, .inr (8, [.int (iZ 3), .int (iZ (np : Int)), .ref ow, .ref om, .ref ok_, .ref oK, .ref og, .ref on_, .ref oh, .ref ox, .int qn, .int qf, .ref op_, .int ql])), (ow, .inl (cI, 108000, .inl fa)), (om, .inl (cI, 9, .inl fb)), (oh, .inl (cI, 10000, .inl fc)), (ok_, .inl (cI, 166400, .inl fk)), (oK, .inl (cI, 64, .inl fK)), (og, .inl (cI, 32, .inl fs)), (on_, .inl (cI, 32, .inl fn))] H := hP.sub [0, 1, 2, 3, 4, 5, 6, 7] rfl
  have hD9 : va_D A [(mo, .inr (8, [.int (iZ 3), .int (iZ (np : Int)), .ref ow, .ref om, .ref ok_, .ref oK, .ref og, .ref on_, .ref oh, .ref ox, .int qn, .int qf, .ref op_, .int ql])), (ow, .inl (cI, 108000, .inl fa)), (om, .inl (cI, 9, .inl fb)), (oh, .inl (cI, 10000, .inl fc)), (ok_, .inl (cI, 166400, .inl fk)), (oK, .inl (cI, 64, .inl fK)), (og, .inl (cI, 32, .inl fs)), (on_, .inl (cI, 32, .inl fn))] := hD.sub [0, 1, 2, 3, 4, 5, 6, 7] (by decide) rfl
  rw [hQ, ← hAe]
  refine r_i (v := (iZ 0)) K (fa, fb, fc, v9) hS d_Mo_multiple_92 ?_ (fun t ht hv => ?_)
  · exact ⟨rfl, w9⟩
  · exact ⟨by rw [ht]; exact hP9, va_K.moved hv hK, by rw [← hAe]; exact hD9⟩
set_option maxHeartbeats 4000000 in
set_option maxRecDepth 100000 in
theorem c_Mo_alignDn (l : Launch) (D : va_G) (mo : Nat) (qc : Int32) (np : Nat) (ow : Nat) (om : Nat) (ok_ : Nat) (oK : Nat) (og : Nat) (on_ : Nat) (oh : Nat) (ox : Nat) (qn : Int32) (qf : Int32) (op_ : Nat) (ql : Int32) (fw : Nat → Int32) (fm : Nat → Int32) (cI : ClassId) (fh : Nat → Int32) (fk : Nat → Int32) (fK : Nat → Int32) (fs : Nat → Int32) (fn : Nat → Int32) (val : Nat → Nat) (tv : Nat → Nat) (bv : Nat → Nat) (sg : Nat → Int) (to : Nat) (a : Nat) (E : Nat) (sz : Nat) (hW : WB fw fm val) (hMR : MoR fk fK fs fn tv bv sg) (hnd : ndS tv bv 32 ≤ np) (hnp : np ≤ 1024) (J : RgC tv bv sg) (hbv : ∀ r, r < 32 → 0 < bv r) (t1 : to < 32) (t2 : a < 32) (hE4 : E ≤ 4000) (hE0 : 0 < E) (hfit : ndS tv bv 32 + (lm (rdN (nmQ (tv a * 2 ^ E) (bv a)) (2 ^ E)) + lm (rdD (nmQ (tv a * 2 ^ E) (bv a)) (2 ^ E))) ≤ np + (lm (tv to) + lm (bv to))) : Met l y_Mo_align (wsB y_Mo_align b_Mo_align 4 (some .int)) ({ frames := 6, cells := 0, slots := 0, locals := 148 }) (va_Pc [.ref mo, .int (iZ (to : Int)), .int (iZ (a : Int)), .int (iZ (-(E : Int)))] (wPre D [(cI, .int)] [(mo, .inr (8, [.int qc, .int (iZ (np : Int)), .ref ow, .ref om, .ref ok_, .ref oK, .ref og, .ref on_, .ref oh, .ref ox, .int qn, .int qf, .ref op_, .int ql])), (ow, .inl (cI, 108000, .inl fw)), (om, .inl (cI, 9, .inl fm)), (oh, .inl (cI, 10000, .inl fh)), (ok_, .inl (cI, 166400, .inl fk)), (oK, .inl (cI, 64, .inl fK)), (og, .inl (cI, 32, .inl fs)), (on_, .inl (cI, 32, .inl fn))] sz)) (va_QV (fun (v_9 : Option Value) (u_9 : (Nat → Int32) × (Nat → Int32) × (Nat → Int32) × (Nat → Int32) × (Nat → Int32) × (Nat → Int32) × (Nat → Int32) × (Nat → Nat)) => v_9 = some (.int (iZ ((lm (rdN (nmQ (tv a * 2 ^ E) (bv a)) (2 ^ E)) : Int) + (lm (rdD (nmQ (tv a * 2 ^ E) (bv a)) (2 ^ E)) : Int)))) ∧ (WB u_9.1 u_9.2.1 u_9.2.2.2.2.2.2.2) ∧ (MoR u_9.2.2.2.1 u_9.2.2.2.2.1 u_9.2.2.2.2.2.1 u_9.2.2.2.2.2.2.1 (up tv to (rdN (nmQ (tv a * 2 ^ E) (bv a)) (2 ^ E))) (up bv to (rdD (nmQ (tv a * 2 ^ E) (bv a)) (2 ^ E))) (up sg to (if rdN (nmQ (tv a * 2 ^ E) (bv a)) (2 ^ E) = 0 then 0 else sg a)))) (fun u_9 => wPost D [(cI, .int)] [(mo, .inr (8, [.int qc, .int (iZ (np : Int)), .ref ow, .ref om, .ref ok_, .ref oK, .ref og, .ref on_, .ref oh, .ref ox, .int qn, .int qf, .ref op_, .int ql])), (ow, .inl (cI, 108000, .inl fw)), (om, .inl (cI, 9, .inl fm)), (oh, .inl (cI, 10000, .inl fh)), (ok_, .inl (cI, 166400, .inl fk)), (oK, .inl (cI, 64, .inl fK)), (og, .inl (cI, 32, .inl fs)), (on_, .inl (cI, 32, .inl fn))] [(mo, .inr (8, [.int (iZ 0), .int (iZ (np : Int)), .ref ow, .ref om, .ref ok_, .ref oK, .ref og, .ref on_, .ref oh, .ref ox, .int qn, .int qf, .ref op_, .int ql])), (ow, .inl (cI, 108000, .inl u_9.1)), (om, .inl (cI, 9, .inl u_9.2.1)), (oh, .inl (cI, 10000, .inl u_9.2.2.1)), (ok_, .inl (cI, 166400, .inl u_9.2.2.2.1)), (oK, .inl (cI, 64, .inl u_9.2.2.2.2.1)), (og, .inl (cI, 32, .inl u_9.2.2.2.2.2.1)), (on_, .inl (cI, 32, .inl u_9.2.2.2.2.2.2.1))] sz) (va_A [(mo, .inr (8, [.int qc, .int (iZ (np : Int)), .ref ow, .ref om, .ref ok_, .ref oK, .ref og, .ref on_, .ref oh, .ref ox, .int qn, .int qf, .ref op_, .int ql])), (ow, .inl (cI, 108000, .inl fw)), (om, .inl (cI, 9, .inl fm)), (oh, .inl (cI, 10000, .inl fh)), (ok_, .inl (cI, 166400, .inl fk)), (oK, .inl (cI, 64, .inl fK)), (og, .inl (cI, 32, .inl fs)), (on_, .inl (cI, 32, .inl fn))] sz)) 0 0 (va_A [(mo, .inr (8, [.int qc, .int (iZ (np : Int)), .ref ow, .ref om, .ref ok_, .ref oK, .ref og, .ref on_, .ref oh, .ref ox, .int qn, .int qf, .ref op_, .int ql])), (ow, .inl (cI, 108000, .inl fw)), (om, .inl (cI, 9, .inl fm)), (oh, .inl (cI, 10000, .inl fh)), (ok_, .inl (cI, 166400, .inl fk)), (oK, .inl (cI, 64, .inl fK)), (og, .inl (cI, 32, .inl fs)), (on_, .inl (cI, 32, .inl fn))] sz) := by
  refine met_enter (by decide +kernel) (Nat.le_of_ble_eq_true rfl) ?_
  intro p e s m args below meth c ls A R Q H locs K hin hAe hA hR hQ hP hK hD hS hl
  obtain ⟨hx, hb, hml, hrt, hlk, hts, hown, hno⟩ := id K
  have hl : lv_has ls 4 [(0, .ref mo), (1, .int (iZ (to : Int))), (2, .int (iZ (a : Int))), (3, .int (iZ (-(E : Int))))] := hl
  have hE : E ≤ 34000 := by omega
  refine lv_aload_n hx hb d_Mo_align_0 rfl (lv_at hl 0 rfl) ?_
  refine lv_iload_n hx hb d_Mo_align_1 rfl (lv_at hl 1 rfl) ?_
  refine cs (n := 1) (wr := [(mo, .inr (8, [.int qc, .int (iZ (np : Int)), .ref ow, .ref om, .ref ok_, .ref oK, .ref og, .ref on_, .ref oh, .ref ox, .int qn, .int qf, .ref op_, .int ql])), (ow, .inl (cI, 108000, .inl fw)), (om, .inl (cI, 9, .inl fm)), (oh, .inl (cI, 10000, .inl fh)), (ok_, .inl (cI, 166400, .inl fk)), (oK, .inl (cI, 64, .inl fK)), (og, .inl (cI, 32, .inl fs)), (on_, .inl (cI, 32, .inl fn))]) (w1 := (fun (u : Int) => [])) (As := [.int (iZ (to : Int))]) (rest := [.ref mo]) K hP hD hK hS hA hl.1 (c_Mo_isRegister l D (to : Int) H.size (by omega)) [] [0, 1, 2, 3, 4, 5, 6, 7] [] rfl rfl rfl (by decide) (by decide) (by decide) (big_in mw_1172 rfl) (big_in mw_10 rfl) (big_in mw_1170 rfl) (big_in mw_1171 rfl) rfl rfl (by decide +kernel) ⟨by rw [hR]; exact Nat.le_of_ble_eq_true rfl, by rw [hR]; exact Nat.le_of_ble_eq_true rfl⟩ rfl (Nat.le_of_ble_eq_true rfl) d_Mo_align_2 ⟨by rw [hR]; exact Nat.le_of_ble_eq_true rfl, by rw [hR]; exact Nat.le_of_ble_eq_true rfl⟩ rfl (fun v u H locs hp1 hP hD hS _ => ?_)
  obtain ⟨r2, rfl⟩ : ∃ z, z = u := ⟨_, rfl⟩
  obtain ⟨rfl, p2⟩ := hp1
  have hP : va_P D cls0 [(mo, .inr (8, [.int qc, .int (iZ (np : Int)), .ref ow, .ref om, .ref ok_, .ref oK, .ref og, .ref on_, .ref oh, .ref ox, .int qn, .int qf, .ref op_, .int ql])), (ow, .inl (cI, 108000, .inl fw)), (om, .inl (cI, 9, .inl fm)), (oh, .inl (cI, 10000, .inl fh)), (ok_, .inl (cI, 166400, .inl fk)), (oK, .inl (cI, 64, .inl fK)), (og, .inl (cI, 32, .inl fs)), (on_, .inl (cI, 32, .inl fn))] H := hP
  have hD : va_D A [(mo, .inr (8, [.int qc, .int (iZ (np : Int)), .ref ow, .ref om, .ref ok_, .ref oK, .ref og, .ref on_, .ref oh, .ref ox, .int qn, .int qf, .ref op_, .int ql])), (ow, .inl (cI, 108000, .inl fw)), (om, .inl (cI, 9, .inl fm)), (oh, .inl (cI, 10000, .inl fh)), (ok_, .inl (cI, 166400, .inl fk)), (oK, .inl (cI, 64, .inl fK)), (og, .inl (cI, 32, .inl fs)), (on_, .inl (cI, 32, .inl fn))] := hD
  show W p l e R s m args below meth c H locs _ _ Q (F0 m 5 ls [.int (iZ r2), .ref mo])
  have b2 : 0 ≤ r2 ∧ r2 ≤ 1 := by omega
  refine zz_if_eq (tgt := 15) hx hb d_Mo_align_5 (by decide) (by omega) (fun c5 => ?_) (fun c5 => ?_)
  · refine lv_iconst (v := iZ (1)) hx hb d_Mo_align_15 (by decide +kernel) ?_
    refine lv_goto (tgt := 38) hx hb d_Mo_align_16 (by decide) ?_
    exfalso
    omega
  · refine lv_iload_n hx hb d_Mo_align_8 rfl (lv_at hl 2 rfl) ?_
    refine cs (n := 1) (wr := [(mo, .inr (8, [.int qc, .int (iZ (np : Int)), .ref ow, .ref om, .ref ok_, .ref oK, .ref og, .ref on_, .ref oh, .ref ox, .int qn, .int qf, .ref op_, .int ql])), (ow, .inl (cI, 108000, .inl fw)), (om, .inl (cI, 9, .inl fm)), (oh, .inl (cI, 10000, .inl fh)), (ok_, .inl (cI, 166400, .inl fk)), (oK, .inl (cI, 64, .inl fK)), (og, .inl (cI, 32, .inl fs)), (on_, .inl (cI, 32, .inl fn))]) (w1 := (fun (u : Int) => [])) (As := [.int (iZ (a : Int))]) (rest := [.ref mo]) K hP hD hK hS hA hl.1 (c_Mo_isRegister l D (a : Int) H.size (by omega)) [] [0, 1, 2, 3, 4, 5, 6, 7] [] rfl rfl rfl (by decide) (by decide) (by decide) (big_in mw_1172 rfl) (big_in mw_10 rfl) (big_in mw_1170 rfl) (big_in mw_1171 rfl) rfl rfl (by decide +kernel) ⟨by rw [hR]; exact Nat.le_of_ble_eq_true rfl, by rw [hR]; exact Nat.le_of_ble_eq_true rfl⟩ rfl (Nat.le_of_ble_eq_true rfl) d_Mo_align_9 ⟨by rw [hR]; exact Nat.le_of_ble_eq_true rfl, by rw [hR]; exact Nat.le_of_ble_eq_true rfl⟩ rfl (fun v u H locs hp2 hP hD hS _ => ?_)
    obtain ⟨r9, rfl⟩ : ∃ z, z = u := ⟨_, rfl⟩
    obtain ⟨rfl, p9⟩ := hp2
    have hP : va_P D cls0 [(mo, .inr (8, [.int qc, .int (iZ (np : Int)), .ref ow, .ref om, .ref ok_, .ref oK, .ref og, .ref on_, .ref oh, .ref ox, .int qn, .int qf, .ref op_, .int ql])), (ow, .inl (cI, 108000, .inl fw)), (om, .inl (cI, 9, .inl fm)), (oh, .inl (cI, 10000, .inl fh)), (ok_, .inl (cI, 166400, .inl fk)), (oK, .inl (cI, 64, .inl fK)), (og, .inl (cI, 32, .inl fs)), (on_, .inl (cI, 32, .inl fn))] H := hP
    have hD : va_D A [(mo, .inr (8, [.int qc, .int (iZ (np : Int)), .ref ow, .ref om, .ref ok_, .ref oK, .ref og, .ref on_, .ref oh, .ref ox, .int qn, .int qf, .ref op_, .int ql])), (ow, .inl (cI, 108000, .inl fw)), (om, .inl (cI, 9, .inl fm)), (oh, .inl (cI, 10000, .inl fh)), (ok_, .inl (cI, 166400, .inl fk)), (oK, .inl (cI, 64, .inl fK)), (og, .inl (cI, 32, .inl fs)), (on_, .inl (cI, 32, .inl fn))] := hD
    show W p l e R s m args below meth c H locs _ _ Q (F0 m 12 ls [.int (iZ r9), .ref mo])
    have b9 : 0 ≤ r9 ∧ r9 ≤ 1 := by omega
    refine zz_if_ne (tgt := 19) hx hb d_Mo_align_12 (by decide) (by omega) (fun c12 => ?_) (fun c12 => ?_)
    · refine lv_iload_n hx hb d_Mo_align_19 rfl (lv_at hl 3 rfl) ?_
      refine lv_sipush (v := iZ (-4000)) hx hb d_Mo_align_20 (by decide +kernel) ?_
      refine zz_icmp_lt (tgt := 33) hx hb d_Mo_align_23 (by decide) (by omega) (by omega) (fun c23 => ?_) (fun c23 => ?_)
      · refine lv_iconst (v := iZ (2)) hx hb d_Mo_align_33 (by decide +kernel) ?_
        refine lv_goto (tgt := 38) hx hb d_Mo_align_34 (by decide) ?_
        exfalso
        omega
      · refine lv_iload_n hx hb d_Mo_align_26 rfl (lv_at hl 3 rfl) ?_
        refine lv_sipush (v := iZ (4000)) hx hb d_Mo_align_27 (by decide +kernel) ?_
        refine zz_icmp_le (tgt := 37) hx hb d_Mo_align_30 (by decide) (by omega) (by omega) (fun c30 => ?_) (fun c30 => ?_)
        · refine lv_iconst (v := iZ (0)) hx hb d_Mo_align_37 (by decide +kernel) ?_
          refine cv (n := 1) (wr := [(ow, .inl (cI, 108000, .inl fw)), (om, .inl (cI, 9, .inl fm)), (oh, .inl (cI, 10000, .inl fh)), (ok_, .inl (cI, 166400, .inl fk)), (oK, .inl (cI, 64, .inl fK)), (og, .inl (cI, 32, .inl fs)), (on_, .inl (cI, 32, .inl fn))]) (w1 := (fun (u : Int) => [(mo, .inr (8, [.int (iZ 0), .int (iZ (np : Int)), .ref ow, .ref om, .ref ok_, .ref oK, .ref og, .ref on_, .ref oh, .ref ox, .int qn, .int qf, .ref op_, .int ql]))])) (As := [.int (iZ 0)]) (rest := []) K hP hD hK hS hA hl.1 (c_Mo_refuses l D mo qc np ow om ok_ oK og on_ oh ox qn qf op_ ql 0 H.size (by omega)) [0] [1, 2, 3, 4, 5, 6, 7] [] rfl rfl rfl (by decide) (by decide) (by decide) 0 rfl rfl (big_in mw_1176 rfl) (big_in mw_10 rfl) (big_in mw_1173 rfl) (big_in mw_1175 rfl) (big_in sp_18 rfl) rfl rfl (by decide +kernel) ⟨by rw [hR]; exact Nat.le_of_ble_eq_true rfl, by rw [hR]; exact Nat.le_of_ble_eq_true rfl⟩ rfl (Nat.le_of_ble_eq_true rfl) d_Mo_align_38 ⟨by rw [hR]; exact Nat.le_of_ble_eq_true rfl, by rw [hR]; exact Nat.le_of_ble_eq_true rfl⟩ rfl (fun v u H locs hp3 hP hD hS _ => ?_)
          obtain ⟨rf, rfl⟩ : ∃ z, z = u := ⟨_, rfl⟩
          obtain ⟨rfl, prf⟩ := hp3
          have hP : va_P D cls0 [(ow, .inl (cI, 108000, .inl fw)), (om, .inl (cI, 9, .inl fm)), (oh, .inl (cI, 10000, .inl fh)), (ok_, .inl (cI, 166400, .inl fk)), (oK, .inl (cI, 64, .inl fK)), (og, .inl (cI, 32, .inl fs)), (on_, .inl (cI, 32, .inl fn)), (mo, .inr (8, [.int (iZ 0), .int (iZ (np : Int)), .ref ow, .ref om, .ref ok_, .ref oK, .ref og, .ref on_, .ref oh, .ref ox, .int qn, .int qf, .ref op_, .int ql]))] H := hP
          have hD : va_D A [(ow, .inl (cI, 108000, .inl fw)), (om, .inl (cI, 9, .inl fm)), (oh, .inl (cI, 10000, .inl fh)), (ok_, .inl (cI, 166400, .inl fk)), (oK, .inl (cI, 64, .inl fK)), (og, .inl (cI, 32, .inl fs)), (on_, .inl (cI, 32, .inl fn)), (mo, .inr (8, [.int (iZ 0), .int (iZ (np : Int)), .ref ow, .ref om, .ref ok_, .ref oK, .ref og, .ref on_, .ref oh, .ref ox, .int qn, .int qf, .ref op_, .int ql]))] := hD
          show W p l e R s m args below meth c H locs _ _ Q (F0 m 41 ls [.int (iZ rf)])
          refine zz_if_eq (tgt := 48) hx hb d_Mo_align_41 (by decide) (by omega) (fun c41 => ?_) (fun c41 => False.elim (by omega))
          refine lv_aload_n hx hb d_Mo_align_48 rfl (lv_at hl 0 rfl) ?_
          refine lv_iload_n hx hb d_Mo_align_49 rfl (lv_at hl 1 rfl) ?_
          refine lv_iload_n hx hb d_Mo_align_50 rfl (lv_at hl 2 rfl) ?_
          refine lv_iload_n hx hb d_Mo_align_51 rfl (lv_at hl 3 rfl) ?_
          refine cv (n := 3) (wr := []) (w1 := (fun (u : (Nat → Int32) × (Nat → Int32) × (Nat → Int32) × (Nat → Int32) × (Nat → Int32) × (Nat → Int32) × (Nat → Int32) × (Nat → Nat)) => [(mo, .inr (8, [.int (iZ 0), .int (iZ (np : Int)), .ref ow, .ref om, .ref ok_, .ref oK, .ref og, .ref on_, .ref oh, .ref ox, .int qn, .int qf, .ref op_, .int ql])), (ow, .inl (cI, 108000, .inl u.1)), (om, .inl (cI, 9, .inl u.2.1)), (oh, .inl (cI, 10000, .inl u.2.2.1)), (ok_, .inl (cI, 166400, .inl u.2.2.2.1)), (oK, .inl (cI, 64, .inl u.2.2.2.2.1)), (og, .inl (cI, 32, .inl u.2.2.2.2.2.1)), (on_, .inl (cI, 32, .inl u.2.2.2.2.2.2.1))])) (As := [.int (iZ (to : Int)), .int (iZ (a : Int)), .int (iZ (-(E : Int)))]) (rest := []) K hP hD hK hS hA hl.1 (c_Mo_multipleDn l D mo (iZ 0) np ow om ok_ oK og on_ oh ox qn qf op_ ql fw fm cI fh fk fK fs fn val tv bv sg to a E H.size hW hMR hnd hnp J hbv t1 t2 hE hE0 hfit) [7, 0, 1, 2, 3, 4, 5, 6] [] [0] rfl rfl rfl (by decide) (by decide) (by decide) 0 rfl rfl (big_in mw_1329 rfl) (big_in mw_10 rfl) (big_in mw_1326 rfl) (big_in mw_1328 rfl) (big_in sp_44 rfl) rfl rfl (by decide +kernel) ⟨by rw [hR]; exact Nat.le_of_ble_eq_true rfl, by rw [hR]; exact Nat.le_of_ble_eq_true rfl⟩ rfl (Nat.le_of_ble_eq_true rfl) d_Mo_align_52 ⟨by rw [hR]; exact Nat.le_of_ble_eq_true rfl, by rw [hR]; exact Nat.le_of_ble_eq_true rfl⟩ rfl (fun v u H locs hp4 hP hD hS _ => ?_)
          obtain ⟨fa, fb, fc, fd, fe, ff, fg, v9⟩ := u
          try dsimp only at hp4
          obtain ⟨rfl, w9, q9⟩ := hp4
          have hP : va_P D cls0 [(mo, .inr (8, [.int (iZ 0), .int (iZ (np : Int)), .ref ow, .ref om, .ref ok_, .ref oK, .ref og, .ref on_, .ref oh, .ref ox, .int qn, .int qf, .ref op_, .int ql])), (ow, .inl (cI, 108000, .inl fa)), (om, .inl (cI, 9, .inl fb)), (oh, .inl (cI, 10000, .inl fc)), (ok_, .inl (cI, 166400, .inl fd)), (oK, .inl (cI, 64, .inl fe)), (og, .inl (cI, 32, .inl ff)), (on_, .inl (cI, 32, .inl fg))] H := hP
          have hD : va_D A [(mo, .inr (8, [.int (iZ 0), .int (iZ (np : Int)), .ref ow, .ref om, .ref ok_, .ref oK, .ref og, .ref on_, .ref oh, .ref ox, .int qn, .int qf, .ref op_, .int ql])), (ow, .inl (cI, 108000, .inl fa)), (om, .inl (cI, 9, .inl fb)), (oh, .inl (cI, 10000, .inl fc)), (ok_, .inl (cI, 166400, .inl fd)), (oK, .inl (cI, 64, .inl fe)), (og, .inl (cI, 32, .inl ff)), (on_, .inl (cI, 32, .inl fg))] := hD
          show W p l e R s m args below meth c H locs _ _ Q (F0 m 55 ls [.int (iZ ((lm (rdN (nmQ (tv a * 2 ^ E) (bv a)) (2 ^ E)) : Int) + (lm (rdD (nmQ (tv a * 2 ^ E) (bv a)) (2 ^ E)) : Int)))])
          have hP9 : va_P D cls0 [(mo, .inr (8, [.int (iZ 0), .int (iZ (np : Int)), .ref ow, .ref om, .ref ok_, .ref oK, .ref og, .ref on_, .ref oh, .ref ox, .int qn, .int qf, .ref op_, .int ql])), (ow, .inl (cI, 108000, .inl fa)), (om, .inl (cI, 9, .inl fb)), (oh, .inl (cI, 10000, .inl fc)), (ok_, .inl (cI, 166400, .inl fd)), (oK, .inl (cI, 64, .inl fe)), (og, .inl (cI, 32, .inl ff)), (on_, .inl (cI, 32, .inl fg))] H := hP.sub [0, 1, 2, 3, 4, 5, 6, 7] rfl
          have hD9 : va_D A [(mo, .inr (8, [.int (iZ 0), .int (iZ (np : Int)), .ref ow, .ref om, .ref ok_, .ref oK, .ref og, .ref on_, .ref oh, .ref ox, .int qn, .int qf, .ref op_, .int ql])), (ow, .inl (cI, 108000, .inl fa)), (om, .inl (cI, 9, .inl fb)), (oh, .inl (cI, 10000, .inl fc)), (ok_, .inl (cI, 166400, .inl fd)), (oK, .inl (cI, 64, .inl fe)), (og, .inl (cI, 32, .inl ff)), (on_, .inl (cI, 32, .inl fg))] := hD.sub [0, 1, 2, 3, 4, 5, 6, 7] (by decide) rfl
          rw [hQ, ← hAe]
          refine r_i (v := (iZ ((lm (rdN (nmQ (tv a * 2 ^ E) (bv a)) (2 ^ E)) : Int) + (lm (rdD (nmQ (tv a * 2 ^ E) (bv a)) (2 ^ E)) : Int)))) K (fa, fb, fc, fd, fe, ff, fg, v9) hS d_Mo_align_55 ?_ (fun t ht hv => ?_)
          · exact ⟨rfl, w9, q9⟩
          · exact ⟨by rw [ht]; exact hP9, va_K.moved hv hK, by rw [← hAe]; exact hD9⟩
        · refine lv_iconst (v := iZ (2)) hx hb d_Mo_align_33 (by decide +kernel) ?_
          refine lv_goto (tgt := 38) hx hb d_Mo_align_34 (by decide) ?_
          exfalso
          omega
    · refine lv_iconst (v := iZ (1)) hx hb d_Mo_align_15 (by decide +kernel) ?_
      refine lv_goto (tgt := 38) hx hb d_Mo_align_16 (by decide) ?_
      exfalso
      omega
set_option maxHeartbeats 4000000 in
set_option maxRecDepth 100000 in
theorem f_Mo_alignDn (l : Launch) (D : va_G) (mo : Nat) (qc : Int32) (np : Nat) (ow : Nat) (om : Nat) (ok_ : Nat) (oK : Nat) (og : Nat) (on_ : Nat) (oh : Nat) (ox : Nat) (qn : Int32) (qf : Int32) (op_ : Nat) (ql : Int32) (fw : Nat → Int32) (fm : Nat → Int32) (cI : ClassId) (fh : Nat → Int32) (fk : Nat → Int32) (fK : Nat → Int32) (fs : Nat → Int32) (fn : Nat → Int32) (val : Nat → Nat) (tv : Nat → Nat) (bv : Nat → Nat) (sg : Nat → Int) (to : Nat) (a : Nat) (E : Nat) (sz : Nat) (hW : WB fw fm val) (hMR : MoR fk fK fs fn tv bv sg) (hnd : ndS tv bv 32 ≤ np) (hnp : np ≤ 1024) (J : RgC tv bv sg) (hbv : ∀ r, r < 32 → 0 < bv r) (t1 : to < 32) (t2 : a < 32) (hE4 : E ≤ 4000) (hE0 : 0 < E) (hfit : np + (lm (tv to) + lm (bv to)) < ndS tv bv 32 + (lm (rdN (nmQ (tv a * 2 ^ E) (bv a)) (2 ^ E)) + lm (rdD (nmQ (tv a * 2 ^ E) (bv a)) (2 ^ E)))) : Met l y_Mo_align (wsB y_Mo_align b_Mo_align 4 (some .int)) ({ frames := 6, cells := 0, slots := 0, locals := 148 }) (va_Pc [.ref mo, .int (iZ (to : Int)), .int (iZ (a : Int)), .int (iZ (-(E : Int)))] (wPre D [(cI, .int)] [(mo, .inr (8, [.int qc, .int (iZ (np : Int)), .ref ow, .ref om, .ref ok_, .ref oK, .ref og, .ref on_, .ref oh, .ref ox, .int qn, .int qf, .ref op_, .int ql])), (ow, .inl (cI, 108000, .inl fw)), (om, .inl (cI, 9, .inl fm)), (oh, .inl (cI, 10000, .inl fh)), (ok_, .inl (cI, 166400, .inl fk)), (oK, .inl (cI, 64, .inl fK)), (og, .inl (cI, 32, .inl fs)), (on_, .inl (cI, 32, .inl fn))] sz)) (va_QV (fun (v_9 : Option Value) (u_9 : (Nat → Int32) × (Nat → Int32) × (Nat → Int32) × (Nat → Nat)) => v_9 = some (.int (iZ 0)) ∧ (WB u_9.1 u_9.2.1 u_9.2.2.2)) (fun u_9 => wPost D [(cI, .int)] [(mo, .inr (8, [.int qc, .int (iZ (np : Int)), .ref ow, .ref om, .ref ok_, .ref oK, .ref og, .ref on_, .ref oh, .ref ox, .int qn, .int qf, .ref op_, .int ql])), (ow, .inl (cI, 108000, .inl fw)), (om, .inl (cI, 9, .inl fm)), (oh, .inl (cI, 10000, .inl fh)), (ok_, .inl (cI, 166400, .inl fk)), (oK, .inl (cI, 64, .inl fK)), (og, .inl (cI, 32, .inl fs)), (on_, .inl (cI, 32, .inl fn))] [(mo, .inr (8, [.int (iZ 3), .int (iZ (np : Int)), .ref ow, .ref om, .ref ok_, .ref oK, .ref og, .ref on_, .ref oh, .ref ox, .int qn, .int qf, .ref op_, .int ql])), (ow, .inl (cI, 108000, .inl u_9.1)), (om, .inl (cI, 9, .inl u_9.2.1)), (oh, .inl (cI, 10000, .inl u_9.2.2.1)), (ok_, .inl (cI, 166400, .inl fk)), (oK, .inl (cI, 64, .inl fK)), (og, .inl (cI, 32, .inl fs)), (on_, .inl (cI, 32, .inl fn))] sz) (va_A [(mo, .inr (8, [.int qc, .int (iZ (np : Int)), .ref ow, .ref om, .ref ok_, .ref oK, .ref og, .ref on_, .ref oh, .ref ox, .int qn, .int qf, .ref op_, .int ql])), (ow, .inl (cI, 108000, .inl fw)), (om, .inl (cI, 9, .inl fm)), (oh, .inl (cI, 10000, .inl fh)), (ok_, .inl (cI, 166400, .inl fk)), (oK, .inl (cI, 64, .inl fK)), (og, .inl (cI, 32, .inl fs)), (on_, .inl (cI, 32, .inl fn))] sz)) 0 0 (va_A [(mo, .inr (8, [.int qc, .int (iZ (np : Int)), .ref ow, .ref om, .ref ok_, .ref oK, .ref og, .ref on_, .ref oh, .ref ox, .int qn, .int qf, .ref op_, .int ql])), (ow, .inl (cI, 108000, .inl fw)), (om, .inl (cI, 9, .inl fm)), (oh, .inl (cI, 10000, .inl fh)), (ok_, .inl (cI, 166400, .inl fk)), (oK, .inl (cI, 64, .inl fK)), (og, .inl (cI, 32, .inl fs)), (on_, .inl (cI, 32, .inl fn))] sz) := by
  refine met_enter (by decide +kernel) (Nat.le_of_ble_eq_true rfl) ?_
  intro p e s m args below meth c ls A R Q H locs K hin hAe hA hR hQ hP hK hD hS hl
  obtain ⟨hx, hb, hml, hrt, hlk, hts, hown, hno⟩ := id K
  have hl : lv_has ls 4 [(0, .ref mo), (1, .int (iZ (to : Int))), (2, .int (iZ (a : Int))), (3, .int (iZ (-(E : Int))))] := hl
  have hE : E ≤ 34000 := by omega
  refine lv_aload_n hx hb d_Mo_align_0 rfl (lv_at hl 0 rfl) ?_
  refine lv_iload_n hx hb d_Mo_align_1 rfl (lv_at hl 1 rfl) ?_
  refine cs (n := 1) (wr := [(mo, .inr (8, [.int qc, .int (iZ (np : Int)), .ref ow, .ref om, .ref ok_, .ref oK, .ref og, .ref on_, .ref oh, .ref ox, .int qn, .int qf, .ref op_, .int ql])), (ow, .inl (cI, 108000, .inl fw)), (om, .inl (cI, 9, .inl fm)), (oh, .inl (cI, 10000, .inl fh)), (ok_, .inl (cI, 166400, .inl fk)), (oK, .inl (cI, 64, .inl fK)), (og, .inl (cI, 32, .inl fs)), (on_, .inl (cI, 32, .inl fn))]) (w1 := (fun (u : Int) => [])) (As := [.int (iZ (to : Int))]) (rest := [.ref mo]) K hP hD hK hS hA hl.1 (c_Mo_isRegister l D (to : Int) H.size (by omega)) [] [0, 1, 2, 3, 4, 5, 6, 7] [] rfl rfl rfl (by decide) (by decide) (by decide) (big_in mw_1172 rfl) (big_in mw_10 rfl) (big_in mw_1170 rfl) (big_in mw_1171 rfl) rfl rfl (by decide +kernel) ⟨by rw [hR]; exact Nat.le_of_ble_eq_true rfl, by rw [hR]; exact Nat.le_of_ble_eq_true rfl⟩ rfl (Nat.le_of_ble_eq_true rfl) d_Mo_align_2 ⟨by rw [hR]; exact Nat.le_of_ble_eq_true rfl, by rw [hR]; exact Nat.le_of_ble_eq_true rfl⟩ rfl (fun v u H locs hp1 hP hD hS _ => ?_)
  obtain ⟨r2, rfl⟩ : ∃ z, z = u := ⟨_, rfl⟩
  obtain ⟨rfl, p2⟩ := hp1
  have hP : va_P D cls0 [(mo, .inr (8, [.int qc, .int (iZ (np : Int)), .ref ow, .ref om, .ref ok_, .ref oK, .ref og, .ref on_, .ref oh, .ref ox, .int qn, .int qf, .ref op_, .int ql])), (ow, .inl (cI, 108000, .inl fw)), (om, .inl (cI, 9, .inl fm)), (oh, .inl (cI, 10000, .inl fh)), (ok_, .inl (cI, 166400, .inl fk)), (oK, .inl (cI, 64, .inl fK)), (og, .inl (cI, 32, .inl fs)), (on_, .inl (cI, 32, .inl fn))] H := hP
  have hD : va_D A [(mo, .inr (8, [.int qc, .int (iZ (np : Int)), .ref ow, .ref om, .ref ok_, .ref oK, .ref og, .ref on_, .ref oh, .ref ox, .int qn, .int qf, .ref op_, .int ql])), (ow, .inl (cI, 108000, .inl fw)), (om, .inl (cI, 9, .inl fm)), (oh, .inl (cI, 10000, .inl fh)), (ok_, .inl (cI, 166400, .inl fk)), (oK, .inl (cI, 64, .inl fK)), (og, .inl (cI, 32, .inl fs)), (on_, .inl (cI, 32, .inl fn))] := hD
  show W p l e R s m args below meth c H locs _ _ Q (F0 m 5 ls [.int (iZ r2), .ref mo])
  have b2 : 0 ≤ r2 ∧ r2 ≤ 1 := by omega
  refine zz_if_eq (tgt := 15) hx hb d_Mo_align_5 (by decide) (by omega) (fun c5 => ?_) (fun c5 => ?_)
  · refine lv_iconst (v := iZ (1)) hx hb d_Mo_align_15 (by decide +kernel) ?_
    refine lv_goto (tgt := 38) hx hb d_Mo_align_16 (by decide) ?_
    exfalso
    omega
  · refine lv_iload_n hx hb d_Mo_align_8 rfl (lv_at hl 2 rfl) ?_
    refine cs (n := 1) (wr := [(mo, .inr (8, [.int qc, .int (iZ (np : Int)), .ref ow, .ref om, .ref ok_, .ref oK, .ref og, .ref on_, .ref oh, .ref ox, .int qn, .int qf, .ref op_, .int ql])), (ow, .inl (cI, 108000, .inl fw)), (om, .inl (cI, 9, .inl fm)), (oh, .inl (cI, 10000, .inl fh)), (ok_, .inl (cI, 166400, .inl fk)), (oK, .inl (cI, 64, .inl fK)), (og, .inl (cI, 32, .inl fs)), (on_, .inl (cI, 32, .inl fn))]) (w1 := (fun (u : Int) => [])) (As := [.int (iZ (a : Int))]) (rest := [.ref mo]) K hP hD hK hS hA hl.1 (c_Mo_isRegister l D (a : Int) H.size (by omega)) [] [0, 1, 2, 3, 4, 5, 6, 7] [] rfl rfl rfl (by decide) (by decide) (by decide) (big_in mw_1172 rfl) (big_in mw_10 rfl) (big_in mw_1170 rfl) (big_in mw_1171 rfl) rfl rfl (by decide +kernel) ⟨by rw [hR]; exact Nat.le_of_ble_eq_true rfl, by rw [hR]; exact Nat.le_of_ble_eq_true rfl⟩ rfl (Nat.le_of_ble_eq_true rfl) d_Mo_align_9 ⟨by rw [hR]; exact Nat.le_of_ble_eq_true rfl, by rw [hR]; exact Nat.le_of_ble_eq_true rfl⟩ rfl (fun v u H locs hp2 hP hD hS _ => ?_)
    obtain ⟨r9, rfl⟩ : ∃ z, z = u := ⟨_, rfl⟩
    obtain ⟨rfl, p9⟩ := hp2
    have hP : va_P D cls0 [(mo, .inr (8, [.int qc, .int (iZ (np : Int)), .ref ow, .ref om, .ref ok_, .ref oK, .ref og, .ref on_, .ref oh, .ref ox, .int qn, .int qf, .ref op_, .int ql])), (ow, .inl (cI, 108000, .inl fw)), (om, .inl (cI, 9, .inl fm)), (oh, .inl (cI, 10000, .inl fh)), (ok_, .inl (cI, 166400, .inl fk)), (oK, .inl (cI, 64, .inl fK)), (og, .inl (cI, 32, .inl fs)), (on_, .inl (cI, 32, .inl fn))] H := hP
    have hD : va_D A [(mo, .inr (8, [.int qc, .int (iZ (np : Int)), .ref ow, .ref om, .ref ok_, .ref oK, .ref og, .ref on_, .ref oh, .ref ox, .int qn, .int qf, .ref op_, .int ql])), (ow, .inl (cI, 108000, .inl fw)), (om, .inl (cI, 9, .inl fm)), (oh, .inl (cI, 10000, .inl fh)), (ok_, .inl (cI, 166400, .inl fk)), (oK, .inl (cI, 64, .inl fK)), (og, .inl (cI, 32, .inl fs)), (on_, .inl (cI, 32, .inl fn))] := hD
    show W p l e R s m args below meth c H locs _ _ Q (F0 m 12 ls [.int (iZ r9), .ref mo])
    have b9 : 0 ≤ r9 ∧ r9 ≤ 1 := by omega
    refine zz_if_ne (tgt := 19) hx hb d_Mo_align_12 (by decide) (by omega) (fun c12 => ?_) (fun c12 => ?_)
    · refine lv_iload_n hx hb d_Mo_align_19 rfl (lv_at hl 3 rfl) ?_
      refine lv_sipush (v := iZ (-4000)) hx hb d_Mo_align_20 (by decide +kernel) ?_
      refine zz_icmp_lt (tgt := 33) hx hb d_Mo_align_23 (by decide) (by omega) (by omega) (fun c23 => ?_) (fun c23 => ?_)
      · refine lv_iconst (v := iZ (2)) hx hb d_Mo_align_33 (by decide +kernel) ?_
        refine lv_goto (tgt := 38) hx hb d_Mo_align_34 (by decide) ?_
        exfalso
        omega
      · refine lv_iload_n hx hb d_Mo_align_26 rfl (lv_at hl 3 rfl) ?_
        refine lv_sipush (v := iZ (4000)) hx hb d_Mo_align_27 (by decide +kernel) ?_
        refine zz_icmp_le (tgt := 37) hx hb d_Mo_align_30 (by decide) (by omega) (by omega) (fun c30 => ?_) (fun c30 => ?_)
        · refine lv_iconst (v := iZ (0)) hx hb d_Mo_align_37 (by decide +kernel) ?_
          refine cv (n := 1) (wr := [(ow, .inl (cI, 108000, .inl fw)), (om, .inl (cI, 9, .inl fm)), (oh, .inl (cI, 10000, .inl fh)), (ok_, .inl (cI, 166400, .inl fk)), (oK, .inl (cI, 64, .inl fK)), (og, .inl (cI, 32, .inl fs)), (on_, .inl (cI, 32, .inl fn))]) (w1 := (fun (u : Int) => [(mo, .inr (8, [.int (iZ 0), .int (iZ (np : Int)), .ref ow, .ref om, .ref ok_, .ref oK, .ref og, .ref on_, .ref oh, .ref ox, .int qn, .int qf, .ref op_, .int ql]))])) (As := [.int (iZ 0)]) (rest := []) K hP hD hK hS hA hl.1 (c_Mo_refuses l D mo qc np ow om ok_ oK og on_ oh ox qn qf op_ ql 0 H.size (by omega)) [0] [1, 2, 3, 4, 5, 6, 7] [] rfl rfl rfl (by decide) (by decide) (by decide) 0 rfl rfl (big_in mw_1176 rfl) (big_in mw_10 rfl) (big_in mw_1173 rfl) (big_in mw_1175 rfl) (big_in sp_18 rfl) rfl rfl (by decide +kernel) ⟨by rw [hR]; exact Nat.le_of_ble_eq_true rfl, by rw [hR]; exact Nat.le_of_ble_eq_true rfl⟩ rfl (Nat.le_of_ble_eq_true rfl) d_Mo_align_38 ⟨by rw [hR]; exact Nat.le_of_ble_eq_true rfl, by rw [hR]; exact Nat.le_of_ble_eq_true rfl⟩ rfl (fun v u H locs hp3 hP hD hS _ => ?_)
          obtain ⟨rf, rfl⟩ : ∃ z, z = u := ⟨_, rfl⟩
          obtain ⟨rfl, prf⟩ := hp3
          have hP : va_P D cls0 [(ow, .inl (cI, 108000, .inl fw)), (om, .inl (cI, 9, .inl fm)), (oh, .inl (cI, 10000, .inl fh)), (ok_, .inl (cI, 166400, .inl fk)), (oK, .inl (cI, 64, .inl fK)), (og, .inl (cI, 32, .inl fs)), (on_, .inl (cI, 32, .inl fn)), (mo, .inr (8, [.int (iZ 0), .int (iZ (np : Int)), .ref ow, .ref om, .ref ok_, .ref oK, .ref og, .ref on_, .ref oh, .ref ox, .int qn, .int qf, .ref op_, .int ql]))] H := hP
          have hD : va_D A [(ow, .inl (cI, 108000, .inl fw)), (om, .inl (cI, 9, .inl fm)), (oh, .inl (cI, 10000, .inl fh)), (ok_, .inl (cI, 166400, .inl fk)), (oK, .inl (cI, 64, .inl fK)), (og, .inl (cI, 32, .inl fs)), (on_, .inl (cI, 32, .inl fn)), (mo, .inr (8, [.int (iZ 0), .int (iZ (np : Int)), .ref ow, .ref om, .ref ok_, .ref oK, .ref og, .ref on_, .ref oh, .ref ox, .int qn, .int qf, .ref op_, .int ql]))] := hD
          show W p l e R s m args below meth c H locs _ _ Q (F0 m 41 ls [.int (iZ rf)])
          refine zz_if_eq (tgt := 48) hx hb d_Mo_align_41 (by decide) (by omega) (fun c41 => ?_) (fun c41 => False.elim (by omega))
          refine lv_aload_n hx hb d_Mo_align_48 rfl (lv_at hl 0 rfl) ?_
          refine lv_iload_n hx hb d_Mo_align_49 rfl (lv_at hl 1 rfl) ?_
          refine lv_iload_n hx hb d_Mo_align_50 rfl (lv_at hl 2 rfl) ?_
          refine lv_iload_n hx hb d_Mo_align_51 rfl (lv_at hl 3 rfl) ?_
          refine cv (n := 3) (wr := []) (w1 := (fun (u : (Nat → Int32) × (Nat → Int32) × (Nat → Int32) × (Nat → Nat)) => [(mo, .inr (8, [.int (iZ 3), .int (iZ (np : Int)), .ref ow, .ref om, .ref ok_, .ref oK, .ref og, .ref on_, .ref oh, .ref ox, .int qn, .int qf, .ref op_, .int ql])), (ow, .inl (cI, 108000, .inl u.1)), (om, .inl (cI, 9, .inl u.2.1)), (oh, .inl (cI, 10000, .inl u.2.2.1)), (ok_, .inl (cI, 166400, .inl fk)), (oK, .inl (cI, 64, .inl fK)), (og, .inl (cI, 32, .inl fs)), (on_, .inl (cI, 32, .inl fn))])) (As := [.int (iZ (to : Int)), .int (iZ (a : Int)), .int (iZ (-(E : Int)))]) (rest := []) K hP hD hK hS hA hl.1 (f_Mo_multipleDn l D mo (iZ 0) np ow om ok_ oK og on_ oh ox qn qf op_ ql fw fm cI fh fk fK fs fn val tv bv sg to a E H.size hW hMR hnd hnp J hbv t1 t2 hE hE0 hfit) [7, 0, 1, 2, 3, 4, 5, 6] [] [0] rfl rfl rfl (by decide) (by decide) (by decide) 0 rfl rfl (big_in mw_1329 rfl) (big_in mw_10 rfl) (big_in mw_1326 rfl) (big_in mw_1328 rfl) (big_in sp_44 rfl) rfl rfl (by decide +kernel) ⟨by rw [hR]; exact Nat.le_of_ble_eq_true rfl, by rw [hR]; exact Nat.le_of_ble_eq_true rfl⟩ rfl (Nat.le_of_ble_eq_true rfl) d_Mo_align_52 ⟨by rw [hR]; exact Nat.le_of_ble_eq_true rfl, by rw [hR]; exact Nat.le_of_ble_eq_true rfl⟩ rfl (fun v u H locs hp4 hP hD hS _ => ?_)
          obtain ⟨fa, fb, fc, v9⟩ := u
          try dsimp only at hp4
          obtain ⟨rfl, w9⟩ := hp4
          have hP : va_P D cls0 [(mo, .inr (8, [.int (iZ 3), .int (iZ (np : Int)), .ref ow, .ref om, .ref ok_, .ref oK, .ref og, .ref on_, .ref oh, .ref ox, .int qn, .int qf, .ref op_, .int ql])), (ow, .inl (cI, 108000, .inl fa)), (om, .inl (cI, 9, .inl fb)), (oh, .inl (cI, 10000, .inl fc)), (ok_, .inl (cI, 166400, .inl fk)), (oK, .inl (cI, 64, .inl fK)), (og, .inl (cI, 32, .inl fs)), (on_, .inl (cI, 32, .inl fn))] H := hP
          have hD : va_D A [(mo, .inr (8, [.int (iZ 3), .int (iZ (np : Int)), .ref ow, .ref om, .ref ok_, .ref oK, .ref og, .ref on_, .ref oh, .ref ox, .int qn, .int qf, .ref op_, .int ql])), (ow, .inl (cI, 108000, .inl fa)), (om, .inl (cI, 9, .inl fb)), (oh, .inl (cI, 10000, .inl fc)), (ok_, .inl (cI, 166400, .inl fk)), (oK, .inl (cI, 64, .inl fK)), (og, .inl (cI, 32, .inl fs)), (on_, .inl (cI, 32, .inl fn))] := hD
          show W p l e R s m args below meth c H locs _ _ Q (F0 m 55 ls [.int (iZ 0)])
          have hP9 : va_P D cls0 [(mo, .inr (8, [.int (iZ 3), .int (iZ (np : Int)), .ref ow, .ref om, .ref ok_, .ref oK, .ref og, .ref on_, .ref oh, .ref ox, .int qn, .int qf, .ref op_, .int ql])), (ow, .inl (cI, 108000, .inl fa)), (om, .inl (cI, 9, .inl fb)), (oh, .inl (cI, 10000, .inl fc)), (ok_, .inl (cI, 166400, .inl fk)), (oK, .inl (cI, 64, .inl fK)), (og, .inl (cI, 32, .inl fs)), (on_, .inl (cI, 32, .inl fn))] H := hP.sub [0, 1, 2, 3, 4, 5, 6, 7] rfl
          have hD9 : va_D A [(mo, .inr (8, [.int (iZ 3), .int (iZ (np : Int)), .ref ow, .ref om, .ref ok_, .ref oK, .ref og, .ref on_, .ref oh, .ref ox, .int qn, .int qf, .ref op_, .int ql])), (ow, .inl (cI, 108000, .inl fa)), (om, .inl (cI, 9, .inl fb)), (oh, .inl (cI, 10000, .inl fc)), (ok_, .inl (cI, 166400, .inl fk)), (oK, .inl (cI, 64, .inl fK)), (og, .inl (cI, 32, .inl fs)), (on_, .inl (cI, 32, .inl fn))] := hD.sub [0, 1, 2, 3, 4, 5, 6, 7] (by decide) rfl
          rw [hQ, ← hAe]
          refine r_i (v := (iZ 0)) K (fa, fb, fc, v9) hS d_Mo_align_55 ?_ (fun t ht hv => ?_)
          · exact ⟨rfl, w9⟩
          · exact ⟨by rw [ht]; exact hP9, va_K.moved hv hK, by rw [← hAe]; exact hD9⟩
        · refine lv_iconst (v := iZ (2)) hx hb d_Mo_align_33 (by decide +kernel) ?_
          refine lv_goto (tgt := 38) hx hb d_Mo_align_34 (by decide) ?_
          exfalso
          omega
    · refine lv_iconst (v := iZ (1)) hx hb d_Mo_align_15 (by decide +kernel) ?_
      refine lv_goto (tgt := 38) hx hb d_Mo_align_16 (by decide) ?_
      exfalso
      omega
set_option maxHeartbeats 4000000 in
set_option maxRecDepth 100000 in
theorem c_Mo_roundDn (l : Launch) (D : va_G) (mo : Nat) (qc : Int32) (np : Nat) (ow : Nat) (om : Nat) (ok_ : Nat) (oK : Nat) (og : Nat) (on_ : Nat) (oh : Nat) (ox : Nat) (qn : Int32) (qf : Int32) (op_ : Nat) (ql : Int32) (fw : Nat → Int32) (fm : Nat → Int32) (cI : ClassId) (fh : Nat → Int32) (fk : Nat → Int32) (fK : Nat → Int32) (fs : Nat → Int32) (fn : Nat → Int32) (val : Nat → Nat) (tv : Nat → Nat) (bv : Nat → Nat) (sg : Nat → Int) (to : Nat) (a : Nat) (pb : Nat) (E : Nat) (sz : Nat) (hW : WB fw fm val) (hMR : MoR fk fK fs fn tv bv sg) (hnd : ndS tv bv 32 ≤ np) (hnp : np ≤ 1024) (J : RgC tv bv sg) (hbv : ∀ r, r < 32 → 0 < bv r) (t1 : to < 32) (t2 : a < 32) (hpb : 0 < pb ∧ pb ≤ 1024) (hs0 : sg a ≠ 0) (hEx : xE (tv a) (bv a) - (pb : Int) + 1 = -(E : Int)) (hE0 : 0 < E) (hfit : ndS tv bv 32 + (lm (rdN (nmQ (tv a * 2 ^ E) (bv a)) (2 ^ E)) + lm (rdD (nmQ (tv a * 2 ^ E) (bv a)) (2 ^ E))) ≤ np + (lm (tv to) + lm (bv to))) : Met l y_Mo_round (wsB y_Mo_round b_Mo_round 6 (some .int)) ({ frames := 6, cells := 0, slots := 0, locals := 148 }) (va_Pc [.ref mo, .int (iZ (to : Int)), .int (iZ (a : Int)), .int (iZ (pb : Int))] (wPre D [(cI, .int)] [(mo, .inr (8, [.int qc, .int (iZ (np : Int)), .ref ow, .ref om, .ref ok_, .ref oK, .ref og, .ref on_, .ref oh, .ref ox, .int qn, .int qf, .ref op_, .int ql])), (ow, .inl (cI, 108000, .inl fw)), (om, .inl (cI, 9, .inl fm)), (oh, .inl (cI, 10000, .inl fh)), (ok_, .inl (cI, 166400, .inl fk)), (oK, .inl (cI, 64, .inl fK)), (og, .inl (cI, 32, .inl fs)), (on_, .inl (cI, 32, .inl fn))] sz)) (va_QV (fun (v_9 : Option Value) (u_9 : (Nat → Int32) × (Nat → Int32) × (Nat → Int32) × (Nat → Int32) × (Nat → Int32) × (Nat → Int32) × (Nat → Int32) × (Nat → Nat)) => v_9 = some (.int (iZ ((lm (rdN (nmQ (tv a * 2 ^ E) (bv a)) (2 ^ E)) : Int) + (lm (rdD (nmQ (tv a * 2 ^ E) (bv a)) (2 ^ E)) : Int)))) ∧ (WB u_9.1 u_9.2.1 u_9.2.2.2.2.2.2.2) ∧ (MoR u_9.2.2.2.1 u_9.2.2.2.2.1 u_9.2.2.2.2.2.1 u_9.2.2.2.2.2.2.1 (up tv to (rdN (nmQ (tv a * 2 ^ E) (bv a)) (2 ^ E))) (up bv to (rdD (nmQ (tv a * 2 ^ E) (bv a)) (2 ^ E))) (up sg to (if rdN (nmQ (tv a * 2 ^ E) (bv a)) (2 ^ E) = 0 then 0 else sg a)))) (fun u_9 => wPost D [(cI, .int)] [(mo, .inr (8, [.int qc, .int (iZ (np : Int)), .ref ow, .ref om, .ref ok_, .ref oK, .ref og, .ref on_, .ref oh, .ref ox, .int qn, .int qf, .ref op_, .int ql])), (ow, .inl (cI, 108000, .inl fw)), (om, .inl (cI, 9, .inl fm)), (oh, .inl (cI, 10000, .inl fh)), (ok_, .inl (cI, 166400, .inl fk)), (oK, .inl (cI, 64, .inl fK)), (og, .inl (cI, 32, .inl fs)), (on_, .inl (cI, 32, .inl fn))] [(mo, .inr (8, [.int (iZ 0), .int (iZ (np : Int)), .ref ow, .ref om, .ref ok_, .ref oK, .ref og, .ref on_, .ref oh, .ref ox, .int qn, .int qf, .ref op_, .int ql])), (ow, .inl (cI, 108000, .inl u_9.1)), (om, .inl (cI, 9, .inl u_9.2.1)), (oh, .inl (cI, 10000, .inl u_9.2.2.1)), (ok_, .inl (cI, 166400, .inl u_9.2.2.2.1)), (oK, .inl (cI, 64, .inl u_9.2.2.2.2.1)), (og, .inl (cI, 32, .inl u_9.2.2.2.2.2.1)), (on_, .inl (cI, 32, .inl u_9.2.2.2.2.2.2.1))] sz) (va_A [(mo, .inr (8, [.int qc, .int (iZ (np : Int)), .ref ow, .ref om, .ref ok_, .ref oK, .ref og, .ref on_, .ref oh, .ref ox, .int qn, .int qf, .ref op_, .int ql])), (ow, .inl (cI, 108000, .inl fw)), (om, .inl (cI, 9, .inl fm)), (oh, .inl (cI, 10000, .inl fh)), (ok_, .inl (cI, 166400, .inl fk)), (oK, .inl (cI, 64, .inl fK)), (og, .inl (cI, 32, .inl fs)), (on_, .inl (cI, 32, .inl fn))] sz)) 0 0 (va_A [(mo, .inr (8, [.int qc, .int (iZ (np : Int)), .ref ow, .ref om, .ref ok_, .ref oK, .ref og, .ref on_, .ref oh, .ref ox, .int qn, .int qf, .ref op_, .int ql])), (ow, .inl (cI, 108000, .inl fw)), (om, .inl (cI, 9, .inl fm)), (oh, .inl (cI, 10000, .inl fh)), (ok_, .inl (cI, 166400, .inl fk)), (oK, .inl (cI, 64, .inl fK)), (og, .inl (cI, 32, .inl fs)), (on_, .inl (cI, 32, .inl fn))] sz) := by
  refine met_enter (by decide +kernel) (Nat.le_of_ble_eq_true rfl) ?_
  intro p e s m args below meth c ls A R Q H locs K hin hAe hA hR hQ hP hK hD hS hl
  obtain ⟨hx, hb, hml, hrt, hlk, hts, hown, hno⟩ := id K
  have hl : lv_has ls 6 [(0, .ref mo), (1, .int (iZ (to : Int))), (2, .int (iZ (a : Int))), (3, .int (iZ (pb : Int)))] := hl
  have hlr : ∀ q, q < 32 → lm (tv q) + lm (bv q) ≤ 1024 := fun q hq => by have z := ndS_le (tv := tv) (bv := bv) hq; omega
  have hnt : ∀ q, q < 32 → nd (tv q) ≤ 2600 := fun q hq => by have z := nd_lm (v := tv q) (L := 1024) (by have y := hlr q hq; omega); omega
  have hnb : ∀ q, q < 32 → nd (bv q) ≤ 2600 := fun q hq => by have z := nd_lm (v := bv q) (L := 1024) (by have y := hlr q hq; omega); omega
  obtain ⟨ja1, ja2, ja3⟩ := J a (by omega)
  have pa := hbv a (by omega)
  have la := hlr a (by omega)
  have n1 := hnt a (by omega)
  have n2 := hnb a (by omega)
  have xb := xE_b (tv a) (bv a)
  have bb1 := bl_le_lm (tv a)
  have bb2 := bl_le_lm (bv a)
  have hE : E ≤ 34000 := by omega
  refine lv_aload_n hx hb d_Mo_round_0 rfl (lv_at hl 0 rfl) ?_
  refine lv_iload_n hx hb d_Mo_round_1 rfl (lv_at hl 1 rfl) ?_
  refine cs (n := 1) (wr := [(mo, .inr (8, [.int qc, .int (iZ (np : Int)), .ref ow, .ref om, .ref ok_, .ref oK, .ref og, .ref on_, .ref oh, .ref ox, .int qn, .int qf, .ref op_, .int ql])), (ow, .inl (cI, 108000, .inl fw)), (om, .inl (cI, 9, .inl fm)), (oh, .inl (cI, 10000, .inl fh)), (ok_, .inl (cI, 166400, .inl fk)), (oK, .inl (cI, 64, .inl fK)), (og, .inl (cI, 32, .inl fs)), (on_, .inl (cI, 32, .inl fn))]) (w1 := (fun (u : Int) => [])) (As := [.int (iZ (to : Int))]) (rest := [.ref mo]) K hP hD hK hS hA hl.1 (c_Mo_isRegister l D (to : Int) H.size (by omega)) [] [0, 1, 2, 3, 4, 5, 6, 7] [] rfl rfl rfl (by decide) (by decide) (by decide) (big_in mw_1172 rfl) (big_in mw_10 rfl) (big_in mw_1170 rfl) (big_in mw_1171 rfl) rfl rfl (by decide +kernel) ⟨by rw [hR]; exact Nat.le_of_ble_eq_true rfl, by rw [hR]; exact Nat.le_of_ble_eq_true rfl⟩ rfl (Nat.le_of_ble_eq_true rfl) d_Mo_round_2 ⟨by rw [hR]; exact Nat.le_of_ble_eq_true rfl, by rw [hR]; exact Nat.le_of_ble_eq_true rfl⟩ rfl (fun v u H locs hp1 hP hD hS _ => ?_)
  obtain ⟨r2, rfl⟩ : ∃ z, z = u := ⟨_, rfl⟩
  obtain ⟨rfl, p2⟩ := hp1
  have hP : va_P D cls0 [(mo, .inr (8, [.int qc, .int (iZ (np : Int)), .ref ow, .ref om, .ref ok_, .ref oK, .ref og, .ref on_, .ref oh, .ref ox, .int qn, .int qf, .ref op_, .int ql])), (ow, .inl (cI, 108000, .inl fw)), (om, .inl (cI, 9, .inl fm)), (oh, .inl (cI, 10000, .inl fh)), (ok_, .inl (cI, 166400, .inl fk)), (oK, .inl (cI, 64, .inl fK)), (og, .inl (cI, 32, .inl fs)), (on_, .inl (cI, 32, .inl fn))] H := hP
  have hD : va_D A [(mo, .inr (8, [.int qc, .int (iZ (np : Int)), .ref ow, .ref om, .ref ok_, .ref oK, .ref og, .ref on_, .ref oh, .ref ox, .int qn, .int qf, .ref op_, .int ql])), (ow, .inl (cI, 108000, .inl fw)), (om, .inl (cI, 9, .inl fm)), (oh, .inl (cI, 10000, .inl fh)), (ok_, .inl (cI, 166400, .inl fk)), (oK, .inl (cI, 64, .inl fK)), (og, .inl (cI, 32, .inl fs)), (on_, .inl (cI, 32, .inl fn))] := hD
  show W p l e R s m args below meth c H locs _ _ Q (F0 m 5 ls [.int (iZ r2), .ref mo])
  have b2 : 0 ≤ r2 ∧ r2 ≤ 1 := by omega
  refine zz_if_eq (tgt := 15) hx hb d_Mo_round_5 (by decide) (by omega) (fun c5 => ?_) (fun c5 => ?_)
  · refine lv_iconst (v := iZ (1)) hx hb d_Mo_round_15 (by decide +kernel) ?_
    refine lv_goto (tgt := 36) hx hb d_Mo_round_16 (by decide) ?_
    exfalso
    omega
  · refine lv_iload_n hx hb d_Mo_round_8 rfl (lv_at hl 2 rfl) ?_
    refine cs (n := 1) (wr := [(mo, .inr (8, [.int qc, .int (iZ (np : Int)), .ref ow, .ref om, .ref ok_, .ref oK, .ref og, .ref on_, .ref oh, .ref ox, .int qn, .int qf, .ref op_, .int ql])), (ow, .inl (cI, 108000, .inl fw)), (om, .inl (cI, 9, .inl fm)), (oh, .inl (cI, 10000, .inl fh)), (ok_, .inl (cI, 166400, .inl fk)), (oK, .inl (cI, 64, .inl fK)), (og, .inl (cI, 32, .inl fs)), (on_, .inl (cI, 32, .inl fn))]) (w1 := (fun (u : Int) => [])) (As := [.int (iZ (a : Int))]) (rest := [.ref mo]) K hP hD hK hS hA hl.1 (c_Mo_isRegister l D (a : Int) H.size (by omega)) [] [0, 1, 2, 3, 4, 5, 6, 7] [] rfl rfl rfl (by decide) (by decide) (by decide) (big_in mw_1172 rfl) (big_in mw_10 rfl) (big_in mw_1170 rfl) (big_in mw_1171 rfl) rfl rfl (by decide +kernel) ⟨by rw [hR]; exact Nat.le_of_ble_eq_true rfl, by rw [hR]; exact Nat.le_of_ble_eq_true rfl⟩ rfl (Nat.le_of_ble_eq_true rfl) d_Mo_round_9 ⟨by rw [hR]; exact Nat.le_of_ble_eq_true rfl, by rw [hR]; exact Nat.le_of_ble_eq_true rfl⟩ rfl (fun v u H locs hp2 hP hD hS _ => ?_)
    obtain ⟨r9, rfl⟩ : ∃ z, z = u := ⟨_, rfl⟩
    obtain ⟨rfl, p9⟩ := hp2
    have hP : va_P D cls0 [(mo, .inr (8, [.int qc, .int (iZ (np : Int)), .ref ow, .ref om, .ref ok_, .ref oK, .ref og, .ref on_, .ref oh, .ref ox, .int qn, .int qf, .ref op_, .int ql])), (ow, .inl (cI, 108000, .inl fw)), (om, .inl (cI, 9, .inl fm)), (oh, .inl (cI, 10000, .inl fh)), (ok_, .inl (cI, 166400, .inl fk)), (oK, .inl (cI, 64, .inl fK)), (og, .inl (cI, 32, .inl fs)), (on_, .inl (cI, 32, .inl fn))] H := hP
    have hD : va_D A [(mo, .inr (8, [.int qc, .int (iZ (np : Int)), .ref ow, .ref om, .ref ok_, .ref oK, .ref og, .ref on_, .ref oh, .ref ox, .int qn, .int qf, .ref op_, .int ql])), (ow, .inl (cI, 108000, .inl fw)), (om, .inl (cI, 9, .inl fm)), (oh, .inl (cI, 10000, .inl fh)), (ok_, .inl (cI, 166400, .inl fk)), (oK, .inl (cI, 64, .inl fK)), (og, .inl (cI, 32, .inl fs)), (on_, .inl (cI, 32, .inl fn))] := hD
    show W p l e R s m args below meth c H locs _ _ Q (F0 m 12 ls [.int (iZ r9), .ref mo])
    have b9 : 0 ≤ r9 ∧ r9 ≤ 1 := by omega
    refine zz_if_ne (tgt := 19) hx hb d_Mo_round_12 (by decide) (by omega) (fun c12 => ?_) (fun c12 => ?_)
    · refine lv_iload_n hx hb d_Mo_round_19 rfl (lv_at hl 3 rfl) ?_
      refine lv_iconst (v := iZ (1)) hx hb d_Mo_round_20 (by decide +kernel) ?_
      refine zz_icmp_lt (tgt := 31) hx hb d_Mo_round_21 (by decide) (by omega) (by omega) (fun c21 => ?_) (fun c21 => ?_)
      · refine lv_iconst (v := iZ (2)) hx hb d_Mo_round_31 (by decide +kernel) ?_
        refine lv_goto (tgt := 36) hx hb d_Mo_round_32 (by decide) ?_
        exfalso
        omega
      · refine lv_iload_n hx hb d_Mo_round_24 rfl (lv_at hl 3 rfl) ?_
        refine lv_sipush (v := iZ (1024)) hx hb d_Mo_round_25 (by decide +kernel) ?_
        refine zz_icmp_le (tgt := 35) hx hb d_Mo_round_28 (by decide) (by omega) (by omega) (fun c28 => ?_) (fun c28 => ?_)
        · refine lv_iconst (v := iZ (0)) hx hb d_Mo_round_35 (by decide +kernel) ?_
          refine cv (n := 1) (wr := [(ow, .inl (cI, 108000, .inl fw)), (om, .inl (cI, 9, .inl fm)), (oh, .inl (cI, 10000, .inl fh)), (ok_, .inl (cI, 166400, .inl fk)), (oK, .inl (cI, 64, .inl fK)), (og, .inl (cI, 32, .inl fs)), (on_, .inl (cI, 32, .inl fn))]) (w1 := (fun (u : Int) => [(mo, .inr (8, [.int (iZ 0), .int (iZ (np : Int)), .ref ow, .ref om, .ref ok_, .ref oK, .ref og, .ref on_, .ref oh, .ref ox, .int qn, .int qf, .ref op_, .int ql]))])) (As := [.int (iZ 0)]) (rest := []) K hP hD hK hS hA hl.1 (c_Mo_refuses l D mo qc np ow om ok_ oK og on_ oh ox qn qf op_ ql 0 H.size (by omega)) [0] [1, 2, 3, 4, 5, 6, 7] [] rfl rfl rfl (by decide) (by decide) (by decide) 0 rfl rfl (big_in mw_1176 rfl) (big_in mw_10 rfl) (big_in mw_1173 rfl) (big_in mw_1175 rfl) (big_in sp_18 rfl) rfl rfl (by decide +kernel) ⟨by rw [hR]; exact Nat.le_of_ble_eq_true rfl, by rw [hR]; exact Nat.le_of_ble_eq_true rfl⟩ rfl (Nat.le_of_ble_eq_true rfl) d_Mo_round_36 ⟨by rw [hR]; exact Nat.le_of_ble_eq_true rfl, by rw [hR]; exact Nat.le_of_ble_eq_true rfl⟩ rfl (fun v u H locs hp3 hP hD hS _ => ?_)
          obtain ⟨rf, rfl⟩ : ∃ z, z = u := ⟨_, rfl⟩
          obtain ⟨rfl, prf⟩ := hp3
          have hP : va_P D cls0 [(ow, .inl (cI, 108000, .inl fw)), (om, .inl (cI, 9, .inl fm)), (oh, .inl (cI, 10000, .inl fh)), (ok_, .inl (cI, 166400, .inl fk)), (oK, .inl (cI, 64, .inl fK)), (og, .inl (cI, 32, .inl fs)), (on_, .inl (cI, 32, .inl fn)), (mo, .inr (8, [.int (iZ 0), .int (iZ (np : Int)), .ref ow, .ref om, .ref ok_, .ref oK, .ref og, .ref on_, .ref oh, .ref ox, .int qn, .int qf, .ref op_, .int ql]))] H := hP
          have hD : va_D A [(ow, .inl (cI, 108000, .inl fw)), (om, .inl (cI, 9, .inl fm)), (oh, .inl (cI, 10000, .inl fh)), (ok_, .inl (cI, 166400, .inl fk)), (oK, .inl (cI, 64, .inl fK)), (og, .inl (cI, 32, .inl fs)), (on_, .inl (cI, 32, .inl fn)), (mo, .inr (8, [.int (iZ 0), .int (iZ (np : Int)), .ref ow, .ref om, .ref ok_, .ref oK, .ref og, .ref on_, .ref oh, .ref ox, .int qn, .int qf, .ref op_, .int ql]))] := hD
          show W p l e R s m args below meth c H locs _ _ Q (F0 m 39 ls [.int (iZ rf)])
          refine zz_if_eq (tgt := 44) hx hb d_Mo_round_39 (by decide) (by omega) (fun c39 => ?_) (fun c39 => False.elim (by omega))
          refine lv_aload_n hx hb d_Mo_round_44 rfl (lv_at hl 0 rfl) ?_
          refine va_get (D := D) (ci := 8) (v := .ref og) (C := R_Mo) (T := F_Mo) (N := 14) hx hb hts i_Mo hown hK hP 7 rfl rfl 6 (by decide) (hts _ (big_in mw_1121 rfl)) (fun _ h9 => h9) rfl d_Mo_round_45 ?_
          refine lv_iload_n hx hb d_Mo_round_48 rfl (lv_at hl 2 rfl) ?_
          refine zz_iald hx hb hK hP 5 0 rfl rfl (a) (by omega) (by omega) (by omega) d_Mo_round_49 ?_
          rw [hMR.2.1 a (by omega)]
          refine zz_if_ne (tgt := 60) hx hb d_Mo_round_50 (by decide) (by omega) (fun c50 => ?_) (fun c50 => False.elim (by omega))
          refine lv_aload_n hx hb d_Mo_round_60 rfl (lv_at hl 0 rfl) ?_
          refine lv_iconst (v := iZ (0)) hx hb d_Mo_round_61 (by decide +kernel) ?_
          refine lv_iconst (v := iZ (2)) hx hb d_Mo_round_62 (by decide +kernel) ?_
          refine lv_iload_n hx hb d_Mo_round_63 rfl (lv_at hl 2 rfl) ?_
          refine zz_imul hx hb d_Mo_round_64 ?_
          rw [show (2 * (a : Int) : Int) = ((2 * a : Nat) : Int) by omega]
          refine cv (n := 2) (wr := [(oh, .inl (cI, 10000, .inl fh)), (og, .inl (cI, 32, .inl fs)), (on_, .inl (cI, 32, .inl fn))]) (w1 := (fun (u : (Nat → Int32) × (Nat → Int32)) => [(mo, .inr (8, [.int (iZ 0), .int (iZ (np : Int)), .ref ow, .ref om, .ref ok_, .ref oK, .ref og, .ref on_, .ref oh, .ref ox, .int qn, .int qf, .ref op_, .int ql])), (ow, .inl (cI, 108000, .inl u.1)), (om, .inl (cI, 9, .inl u.2)), (ok_, .inl (cI, 166400, .inl fk)), (oK, .inl (cI, 64, .inl fK))])) (As := [.int (iZ 0), .int (iZ ((2 * a : Nat) : Int))]) (rest := []) K hP hD hK hS hA hl.1 (c_Mo_load l D mo (iZ 0) np ow om ok_ oK og on_ oh ox qn qf op_ ql fw fm cI fk fK val (kvf tv bv) 0 (2 * a) H.size hW hMR.1 (by decide) (by omega)) [7, 0, 1, 3, 4] [2, 5, 6] [0] rfl rfl rfl (by decide) (by decide) (by decide) 0 rfl rfl (big_in mw_1238 rfl) (big_in mw_10 rfl) (big_in mw_1235 rfl) (big_in mw_1237 rfl) (big_in sp_31 rfl) rfl rfl (by decide +kernel) ⟨by rw [hR]; exact Nat.le_of_ble_eq_true rfl, by rw [hR]; exact Nat.le_of_ble_eq_true rfl⟩ rfl (Nat.le_of_ble_eq_true rfl) d_Mo_round_65 ⟨by rw [hR]; exact Nat.le_of_ble_eq_true rfl, by rw [hR]; exact Nat.le_of_ble_eq_true rfl⟩ rfl (fun v u H locs hp4 hP hD hS _ => ?_)
          obtain ⟨fx1, fy1⟩ := u
          try dsimp only at hp4
          obtain ⟨rfl, w1⟩ := hp4
          have hP : va_P D cls0 [(oh, .inl (cI, 10000, .inl fh)), (og, .inl (cI, 32, .inl fs)), (on_, .inl (cI, 32, .inl fn)), (mo, .inr (8, [.int (iZ 0), .int (iZ (np : Int)), .ref ow, .ref om, .ref ok_, .ref oK, .ref og, .ref on_, .ref oh, .ref ox, .int qn, .int qf, .ref op_, .int ql])), (ow, .inl (cI, 108000, .inl fx1)), (om, .inl (cI, 9, .inl fy1)), (ok_, .inl (cI, 166400, .inl fk)), (oK, .inl (cI, 64, .inl fK))] H := hP
          have hD : va_D A [(oh, .inl (cI, 10000, .inl fh)), (og, .inl (cI, 32, .inl fs)), (on_, .inl (cI, 32, .inl fn)), (mo, .inr (8, [.int (iZ 0), .int (iZ (np : Int)), .ref ow, .ref om, .ref ok_, .ref oK, .ref og, .ref on_, .ref oh, .ref ox, .int qn, .int qf, .ref op_, .int ql])), (ow, .inl (cI, 108000, .inl fx1)), (om, .inl (cI, 9, .inl fy1)), (ok_, .inl (cI, 166400, .inl fk)), (oK, .inl (cI, 64, .inl fK))] := hD
          show W p l e R s m args below meth c H locs _ _ Q (F0 m 68 ls [])
          rw [kvf_0] at w1
          obtain ⟨v1, hv1⟩ : ∃ z, z = up val 0 (tv a) := ⟨_, rfl⟩
          rw [← hv1] at w1
          refine lv_aload_n hx hb d_Mo_round_68 rfl (lv_at hl 0 rfl) ?_
          refine lv_iconst (v := iZ (1)) hx hb d_Mo_round_69 (by decide +kernel) ?_
          refine lv_iconst (v := iZ (2)) hx hb d_Mo_round_70 (by decide +kernel) ?_
          refine lv_iload_n hx hb d_Mo_round_71 rfl (lv_at hl 2 rfl) ?_
          refine zz_imul hx hb d_Mo_round_72 ?_
          refine lv_iconst (v := iZ (1)) hx hb d_Mo_round_73 (by decide +kernel) ?_
          refine zz_iadd hx hb d_Mo_round_74 ?_
          rw [show (2 * (a : Int) + 1 : Int) = ((2 * a + 1 : Nat) : Int) by omega]
          refine cv (n := 2) (wr := [(oh, .inl (cI, 10000, .inl fh)), (og, .inl (cI, 32, .inl fs)), (on_, .inl (cI, 32, .inl fn))]) (w1 := (fun (u : (Nat → Int32) × (Nat → Int32)) => [(mo, .inr (8, [.int (iZ 0), .int (iZ (np : Int)), .ref ow, .ref om, .ref ok_, .ref oK, .ref og, .ref on_, .ref oh, .ref ox, .int qn, .int qf, .ref op_, .int ql])), (ow, .inl (cI, 108000, .inl u.1)), (om, .inl (cI, 9, .inl u.2)), (ok_, .inl (cI, 166400, .inl fk)), (oK, .inl (cI, 64, .inl fK))])) (As := [.int (iZ 1), .int (iZ ((2 * a + 1 : Nat) : Int))]) (rest := []) K hP hD hK hS hA hl.1 (c_Mo_load l D mo (iZ 0) np ow om ok_ oK og on_ oh ox qn qf op_ ql fx1 fy1 cI fk fK v1 (kvf tv bv) 1 (2 * a + 1) H.size w1 hMR.1 (by decide) (by omega)) [3, 4, 5, 6, 7] [0, 1, 2] [0] rfl rfl rfl (by decide) (by decide) (by decide) 0 rfl rfl (big_in mw_1238 rfl) (big_in mw_10 rfl) (big_in mw_1235 rfl) (big_in mw_1237 rfl) (big_in sp_31 rfl) rfl rfl (by decide +kernel) ⟨by rw [hR]; exact Nat.le_of_ble_eq_true rfl, by rw [hR]; exact Nat.le_of_ble_eq_true rfl⟩ rfl (Nat.le_of_ble_eq_true rfl) d_Mo_round_75 ⟨by rw [hR]; exact Nat.le_of_ble_eq_true rfl, by rw [hR]; exact Nat.le_of_ble_eq_true rfl⟩ rfl (fun v u H locs hp5 hP hD hS _ => ?_)
          obtain ⟨fx2, fy2⟩ := u
          try dsimp only at hp5
          obtain ⟨rfl, w2⟩ := hp5
          have hP : va_P D cls0 [(oh, .inl (cI, 10000, .inl fh)), (og, .inl (cI, 32, .inl fs)), (on_, .inl (cI, 32, .inl fn)), (mo, .inr (8, [.int (iZ 0), .int (iZ (np : Int)), .ref ow, .ref om, .ref ok_, .ref oK, .ref og, .ref on_, .ref oh, .ref ox, .int qn, .int qf, .ref op_, .int ql])), (ow, .inl (cI, 108000, .inl fx2)), (om, .inl (cI, 9, .inl fy2)), (ok_, .inl (cI, 166400, .inl fk)), (oK, .inl (cI, 64, .inl fK))] H := hP
          have hD : va_D A [(oh, .inl (cI, 10000, .inl fh)), (og, .inl (cI, 32, .inl fs)), (on_, .inl (cI, 32, .inl fn)), (mo, .inr (8, [.int (iZ 0), .int (iZ (np : Int)), .ref ow, .ref om, .ref ok_, .ref oK, .ref og, .ref on_, .ref oh, .ref ox, .int qn, .int qf, .ref op_, .int ql])), (ow, .inl (cI, 108000, .inl fx2)), (om, .inl (cI, 9, .inl fy2)), (ok_, .inl (cI, 166400, .inl fk)), (oK, .inl (cI, 64, .inl fK))] := hD
          show W p l e R s m args below meth c H locs _ _ Q (F0 m 78 ls [])
          rw [kvf_1] at w2
          obtain ⟨v2, hv2⟩ : ∃ z, z = up v1 1 (bv a) := ⟨_, rfl⟩
          rw [← hv2] at w2
          have e0 : v2 0 = tv a := by rw [hv2, up_n (by decide), hv1, up_s]
          have e1 : v2 1 = bv a := by rw [hv2, up_s]
          have ba := hlr a (by omega)
          refine lv_aload_n hx hb d_Mo_round_78 rfl (lv_at hl 0 rfl) ?_
          refine lv_iconst (v := iZ (0)) hx hb d_Mo_round_79 (by decide +kernel) ?_
          refine cv (n := 1) (wr := [(og, .inl (cI, 32, .inl fs)), (on_, .inl (cI, 32, .inl fn)), (ok_, .inl (cI, 166400, .inl fk)), (oK, .inl (cI, 64, .inl fK))]) (w1 := (fun (u : Int × (Nat → Int32) × (Nat → Int32) × (Nat → Int32)) => [(mo, .inr (8, [.int (iZ 0), .int (iZ (np : Int)), .ref ow, .ref om, .ref ok_, .ref oK, .ref og, .ref on_, .ref oh, .ref ox, .int qn, .int qf, .ref op_, .int ql])), (ow, .inl (cI, 108000, .inl u.2.1)), (om, .inl (cI, 9, .inl u.2.2.1)), (oh, .inl (cI, 10000, .inl u.2.2.2))])) (As := [.int (iZ 0)]) (rest := []) K hP hD hK hS hA hl.1 (c_Mo_bits l D mo (iZ 0) np ow om ok_ oK og on_ oh ox qn qf op_ ql fx2 fy2 cI fh v2 0 H.size w2 (by decide) (by decide) (hB_lm (by rw [e0]; omega))) [3, 4, 5, 0] [1, 2, 6, 7] [0] rfl rfl rfl (by decide) (by decide) (by decide) 0 rfl rfl (big_in mw_1298 rfl) (big_in mw_10 rfl) (big_in mw_1295 rfl) (big_in mw_1297 rfl) (big_in sp_40 rfl) rfl rfl (by decide +kernel) ⟨by rw [hR]; exact Nat.le_of_ble_eq_true rfl, by rw [hR]; exact Nat.le_of_ble_eq_true rfl⟩ rfl (Nat.le_of_ble_eq_true rfl) d_Mo_round_80 ⟨by rw [hR]; exact Nat.le_of_ble_eq_true rfl, by rw [hR]; exact Nat.le_of_ble_eq_true rfl⟩ rfl (fun v u H locs hp6 hP hD hS _ => ?_)
          obtain ⟨rb3, fx3, fy3, fh3⟩ := u
          try dsimp only at hp6
          obtain ⟨rfl, eb3, w3⟩ := hp6
          have hP : va_P D cls0 [(og, .inl (cI, 32, .inl fs)), (on_, .inl (cI, 32, .inl fn)), (ok_, .inl (cI, 166400, .inl fk)), (oK, .inl (cI, 64, .inl fK)), (mo, .inr (8, [.int (iZ 0), .int (iZ (np : Int)), .ref ow, .ref om, .ref ok_, .ref oK, .ref og, .ref on_, .ref oh, .ref ox, .int qn, .int qf, .ref op_, .int ql])), (ow, .inl (cI, 108000, .inl fx3)), (om, .inl (cI, 9, .inl fy3)), (oh, .inl (cI, 10000, .inl fh3))] H := hP
          have hD : va_D A [(og, .inl (cI, 32, .inl fs)), (on_, .inl (cI, 32, .inl fn)), (ok_, .inl (cI, 166400, .inl fk)), (oK, .inl (cI, 64, .inl fK)), (mo, .inr (8, [.int (iZ 0), .int (iZ (np : Int)), .ref ow, .ref om, .ref ok_, .ref oK, .ref og, .ref on_, .ref oh, .ref ox, .int qn, .int qf, .ref op_, .int ql])), (ow, .inl (cI, 108000, .inl fx3)), (om, .inl (cI, 9, .inl fy3)), (oh, .inl (cI, 10000, .inl fh3))] := hD
          show W p l e R s m args below meth c H locs _ _ Q (F0 m 83 ls [.int (iZ rb3)])
          rw [e0] at eb3
          subst eb3
          obtain ⟨v3, hv3⟩ : ∃ z, z = up v2 4 0 := ⟨_, rfl⟩
          rw [← hv3] at w3
          have z30 : v3 0 = tv a := by rw [hv3, up_n (by decide)]; exact e0
          have z31 : v3 1 = bv a := by rw [hv3, up_n (by decide)]; exact e1
          refine lv_aload_n hx hb d_Mo_round_83 rfl (lv_at hl 0 rfl) ?_
          refine lv_iconst (v := iZ (1)) hx hb d_Mo_round_84 (by decide +kernel) ?_
          refine cv (n := 1) (wr := [(og, .inl (cI, 32, .inl fs)), (on_, .inl (cI, 32, .inl fn)), (ok_, .inl (cI, 166400, .inl fk)), (oK, .inl (cI, 64, .inl fK))]) (w1 := (fun (u : Int × (Nat → Int32) × (Nat → Int32) × (Nat → Int32)) => [(mo, .inr (8, [.int (iZ 0), .int (iZ (np : Int)), .ref ow, .ref om, .ref ok_, .ref oK, .ref og, .ref on_, .ref oh, .ref ox, .int qn, .int qf, .ref op_, .int ql])), (ow, .inl (cI, 108000, .inl u.2.1)), (om, .inl (cI, 9, .inl u.2.2.1)), (oh, .inl (cI, 10000, .inl u.2.2.2))])) (As := [.int (iZ 1)]) (rest := [.int (iZ (bl (tv a) : Int))]) K hP hD hK hS hA hl.1 (c_Mo_bits l D mo (iZ 0) np ow om ok_ oK og on_ oh ox qn qf op_ ql fx3 fy3 cI fh3 v3 1 H.size w3 (by decide) (by decide) (hB_lm (by rw [z31]; omega))) [4, 5, 6, 7] [0, 1, 2, 3] [0] rfl rfl rfl (by decide) (by decide) (by decide) 0 rfl rfl (big_in mw_1298 rfl) (big_in mw_10 rfl) (big_in mw_1295 rfl) (big_in mw_1297 rfl) (big_in sp_40 rfl) rfl rfl (by decide +kernel) ⟨by rw [hR]; exact Nat.le_of_ble_eq_true rfl, by rw [hR]; exact Nat.le_of_ble_eq_true rfl⟩ rfl (Nat.le_of_ble_eq_true rfl) d_Mo_round_85 ⟨by rw [hR]; exact Nat.le_of_ble_eq_true rfl, by rw [hR]; exact Nat.le_of_ble_eq_true rfl⟩ rfl (fun v u H locs hp7 hP hD hS _ => ?_)
          obtain ⟨rb4, fx4, fy4, fh4⟩ := u
          try dsimp only at hp7
          obtain ⟨rfl, eb4, w4⟩ := hp7
          have hP : va_P D cls0 [(og, .inl (cI, 32, .inl fs)), (on_, .inl (cI, 32, .inl fn)), (ok_, .inl (cI, 166400, .inl fk)), (oK, .inl (cI, 64, .inl fK)), (mo, .inr (8, [.int (iZ 0), .int (iZ (np : Int)), .ref ow, .ref om, .ref ok_, .ref oK, .ref og, .ref on_, .ref oh, .ref ox, .int qn, .int qf, .ref op_, .int ql])), (ow, .inl (cI, 108000, .inl fx4)), (om, .inl (cI, 9, .inl fy4)), (oh, .inl (cI, 10000, .inl fh4))] H := hP
          have hD : va_D A [(og, .inl (cI, 32, .inl fs)), (on_, .inl (cI, 32, .inl fn)), (ok_, .inl (cI, 166400, .inl fk)), (oK, .inl (cI, 64, .inl fK)), (mo, .inr (8, [.int (iZ 0), .int (iZ (np : Int)), .ref ow, .ref om, .ref ok_, .ref oK, .ref og, .ref on_, .ref oh, .ref ox, .int qn, .int qf, .ref op_, .int ql])), (ow, .inl (cI, 108000, .inl fx4)), (om, .inl (cI, 9, .inl fy4)), (oh, .inl (cI, 10000, .inl fh4))] := hD
          show W p l e R s m args below meth c H locs _ _ Q (F0 m 88 ls [.int (iZ rb4), .int (iZ (bl (tv a) : Int))])
          rw [z31] at eb4
          subst eb4
          obtain ⟨v4, hv4⟩ : ∃ z, z = up v3 4 0 := ⟨_, rfl⟩
          rw [← hv4] at w4
          have z40 : v4 0 = tv a := by rw [hv4, up_n (by decide)]; exact z30
          have z41 : v4 1 = bv a := by rw [hv4, up_n (by decide)]; exact z31
          refine zz_isub hx hb d_Mo_round_88 ?_
          refine lv_iload_n hx hb d_Mo_round_89 rfl (lv_at hl 3 rfl) ?_
          refine zz_isub hx hb d_Mo_round_90 ?_
          refine lv_istore (lv' := [(4, .int (iZ ((bl (tv a) : Int) - (bl (bv a) : Int) - (pb : Int)))), (0, .ref mo), (1, .int (iZ (to : Int))), (2, .int (iZ (a : Int))), (3, .int (iZ (pb : Int)))]) hx hb d_Mo_round_91 hl (by decide) rfl (fun ls hl => ?_)
          refine lv_iload hx hb d_Mo_round_93 (lv_at hl 0 rfl) ?_
          refine lv_iload_n hx hb d_Mo_round_95 rfl (lv_at hl 4 rfl) ?_
          refine zz_iadd hx hb d_Mo_round_96 ?_
          refine lv_istore (lv' := [(5, .int (iZ ((bl (tv a) : Int) - (bl (bv a) : Int) - (pb : Int) + (pb : Int)))), (4, .int (iZ ((bl (tv a) : Int) - (bl (bv a) : Int) - (pb : Int)))), (0, .ref mo), (1, .int (iZ (to : Int))), (2, .int (iZ (a : Int))), (3, .int (iZ (pb : Int)))]) hx hb d_Mo_round_97 hl (by decide) rfl (fun ls hl => ?_)
          refine lv_aload_n hx hb d_Mo_round_99 rfl (lv_at hl 2 rfl) ?_
          refine lv_iload hx hb d_Mo_round_100 (lv_at hl 0 rfl) ?_
          refine zz_if_ge (tgt := 109) hx hb d_Mo_round_102 (by decide) (by omega) (fun c102 => ?_) (fun c102 => ?_)
          · refine lv_iconst (v := iZ (1)) hx hb d_Mo_round_109 (by decide +kernel) ?_
            refine lv_iload hx hb d_Mo_round_110 (lv_at hl 0 rfl) ?_
            refine zz_if_ge (tgt := 121) hx hb d_Mo_round_112 (by decide) (by omega) (fun c112 => ?_) (fun c112 => ?_)
            · refine lv_iload hx hb d_Mo_round_121 (lv_at hl 0 rfl) ?_
              rw [show ((bl (tv a) : Int) - (bl (bv a) : Int) - (pb : Int) + (pb : Int) : Int) = ((bl (tv a) - bl (bv a) : Nat) : Int) by omega]
              refine cv (n := 2) (wr := [(og, .inl (cI, 32, .inl fs)), (on_, .inl (cI, 32, .inl fn)), (ok_, .inl (cI, 166400, .inl fk)), (oK, .inl (cI, 64, .inl fK)), (oh, .inl (cI, 10000, .inl fh4))]) (w1 := (fun (u : (Nat → Int32) × (Nat → Int32)) => [(mo, .inr (8, [.int (iZ 0), .int (iZ (np : Int)), .ref ow, .ref om, .ref ok_, .ref oK, .ref og, .ref on_, .ref oh, .ref ox, .int qn, .int qf, .ref op_, .int ql])), (ow, .inl (cI, 108000, .inl u.1)), (om, .inl (cI, 9, .inl u.2))])) (As := [.int (iZ 1), .int (iZ ((bl (tv a) - bl (bv a) : Nat) : Int))]) (rest := []) K hP hD hK hS hA hl.1 (c_Mo_doubled l D mo (iZ 0) np ow om ok_ oK og on_ oh ox qn qf op_ ql fx4 fy4 cI v4 1 (bl (tv a) - bl (bv a)) H.size w4 (by decide) (by omega) (by rw [z41]; have z := nd_shl (bv a) (bl (tv a) - bl (bv a)); omega)) [4, 5, 6] [0, 1, 2, 3, 7] [0] rfl rfl rfl (by decide) (by decide) (by decide) 0 rfl rfl (big_in mw_1320 rfl) (big_in mw_10 rfl) (big_in mw_1317 rfl) (big_in mw_1319 rfl) (big_in sp_42 rfl) rfl rfl (by decide +kernel) ⟨by rw [hR]; exact Nat.le_of_ble_eq_true rfl, by rw [hR]; exact Nat.le_of_ble_eq_true rfl⟩ rfl (Nat.le_of_ble_eq_true rfl) d_Mo_round_123 ⟨by rw [hR]; exact Nat.le_of_ble_eq_true rfl, by rw [hR]; exact Nat.le_of_ble_eq_true rfl⟩ rfl (fun v u H locs hp8 hP hD hS _ => ?_)
              obtain ⟨fx5, fy5⟩ := u
              try dsimp only at hp8
              obtain ⟨rfl, w5⟩ := hp8
              have hP : va_P D cls0 [(og, .inl (cI, 32, .inl fs)), (on_, .inl (cI, 32, .inl fn)), (ok_, .inl (cI, 166400, .inl fk)), (oK, .inl (cI, 64, .inl fK)), (oh, .inl (cI, 10000, .inl fh4)), (mo, .inr (8, [.int (iZ 0), .int (iZ (np : Int)), .ref ow, .ref om, .ref ok_, .ref oK, .ref og, .ref on_, .ref oh, .ref ox, .int qn, .int qf, .ref op_, .int ql])), (ow, .inl (cI, 108000, .inl fx5)), (om, .inl (cI, 9, .inl fy5))] H := hP
              have hD : va_D A [(og, .inl (cI, 32, .inl fs)), (on_, .inl (cI, 32, .inl fn)), (ok_, .inl (cI, 166400, .inl fk)), (oK, .inl (cI, 64, .inl fK)), (oh, .inl (cI, 10000, .inl fh4)), (mo, .inr (8, [.int (iZ 0), .int (iZ (np : Int)), .ref ow, .ref om, .ref ok_, .ref oK, .ref og, .ref on_, .ref oh, .ref ox, .int qn, .int qf, .ref op_, .int ql])), (ow, .inl (cI, 108000, .inl fx5)), (om, .inl (cI, 9, .inl fy5))] := hD
              show W p l e R s m args below meth c H locs _ _ Q (F0 m 126 ls [])
              rw [z41] at w5
              obtain ⟨v5, hv5⟩ : ∃ z, z = up v4 1 (bv a * 2 ^ (bl (tv a) - bl (bv a))) := ⟨_, rfl⟩
              rw [← hv5] at w5
              have z50 : v5 0 = tv a * 2 ^ (bl (bv a) - bl (tv a)) := by rw [hv5, up_n (by decide), z40, show bl (bv a) - bl (tv a) = 0 by omega, Nat.pow_zero, Nat.mul_one]
              have z51 : v5 1 = bv a * 2 ^ (bl (tv a) - bl (bv a)) := by rw [hv5, up_s]
              refine lv_iload hx hb d_Mo_round_126 (lv_at hl 1 rfl) ?_
              refine lv_aload_n hx hb d_Mo_round_128 rfl (lv_at hl 2 rfl) ?_
              refine lv_iconst (v := iZ (0)) hx hb d_Mo_round_129 (by decide +kernel) ?_
              refine lv_iconst (v := iZ (1)) hx hb d_Mo_round_130 (by decide +kernel) ?_
              refine cv (n := 2) (wr := [(og, .inl (cI, 32, .inl fs)), (on_, .inl (cI, 32, .inl fn)), (ok_, .inl (cI, 166400, .inl fk)), (oK, .inl (cI, 64, .inl fK)), (oh, .inl (cI, 10000, .inl fh4))]) (w1 := (fun (u : Int) => [(mo, .inr (8, [.int (iZ 0), .int (iZ (np : Int)), .ref ow, .ref om, .ref ok_, .ref oK, .ref og, .ref on_, .ref oh, .ref ox, .int qn, .int qf, .ref op_, .int ql])), (ow, .inl (cI, 108000, .inl fx5)), (om, .inl (cI, 9, .inl fy5))])) (As := [.int (iZ 0), .int (iZ 1)]) (rest := [.int (iZ ((bl (tv a) : Int) - (bl (bv a) : Int) - (pb : Int)))]) K hP hD hK hS hA hl.1 (c_Mo_order l D mo (iZ 0) np ow om ok_ oK og on_ oh ox qn qf op_ ql fx5 fy5 cI v5 0 1 H.size w5 (by omega) (by omega)) [5, 6, 7] [0, 1, 2, 3, 4] [0] rfl rfl rfl (by decide) (by decide) (by decide) 0 rfl rfl (big_in mw_1270 rfl) (big_in mw_10 rfl) (big_in mw_1267 rfl) (big_in mw_1269 rfl) (big_in sp_37 rfl) rfl rfl (by decide +kernel) ⟨by rw [hR]; exact Nat.le_of_ble_eq_true rfl, by rw [hR]; exact Nat.le_of_ble_eq_true rfl⟩ rfl (Nat.le_of_ble_eq_true rfl) d_Mo_round_131 ⟨by rw [hR]; exact Nat.le_of_ble_eq_true rfl, by rw [hR]; exact Nat.le_of_ble_eq_true rfl⟩ rfl (fun v u H locs hp9 hP hD hS _ => ?_)
              obtain ⟨rc, rfl⟩ : ∃ z, z = u := ⟨_, rfl⟩
              obtain ⟨rfl, gq⟩ := hp9
              have hP : va_P D cls0 [(og, .inl (cI, 32, .inl fs)), (on_, .inl (cI, 32, .inl fn)), (ok_, .inl (cI, 166400, .inl fk)), (oK, .inl (cI, 64, .inl fK)), (oh, .inl (cI, 10000, .inl fh4)), (mo, .inr (8, [.int (iZ 0), .int (iZ (np : Int)), .ref ow, .ref om, .ref ok_, .ref oK, .ref og, .ref on_, .ref oh, .ref ox, .int qn, .int qf, .ref op_, .int ql])), (ow, .inl (cI, 108000, .inl fx5)), (om, .inl (cI, 9, .inl fy5))] H := hP
              have hD : va_D A [(og, .inl (cI, 32, .inl fs)), (on_, .inl (cI, 32, .inl fn)), (ok_, .inl (cI, 166400, .inl fk)), (oK, .inl (cI, 64, .inl fK)), (oh, .inl (cI, 10000, .inl fh4)), (mo, .inr (8, [.int (iZ 0), .int (iZ (np : Int)), .ref ow, .ref om, .ref ok_, .ref oK, .ref og, .ref on_, .ref oh, .ref ox, .int qn, .int qf, .ref op_, .int ql])), (ow, .inl (cI, 108000, .inl fx5)), (om, .inl (cI, 9, .inl fy5))] := hD
              show W p l e R s m args below meth c H locs _ _ Q (F0 m 134 ls [.int (iZ rc), .int (iZ ((bl (tv a) : Int) - (bl (bv a) : Int) - (pb : Int)))])
              rw [z50, z51] at gq
              have t0 : (rc < 0 ↔ ((tv a * 2 ^ (bl (bv a) - bl (tv a)) : Nat) : Int) < ((bv a * 2 ^ (bl (tv a) - bl (bv a)) : Nat) : Int)) ∧ (-1 ≤ rc ∧ rc ≤ 1) := by rw [gq]; exact ⟨cmpZ_lt, cmpZ_r _ _⟩
              clear gq
              have xs : (rc < 0 ∧ xE (tv a) (bv a) = (bl (tv a) : Int) - (bl (bv a) : Int) - 1) ∨ (0 ≤ rc ∧ xE (tv a) (bv a) = (bl (tv a) : Int) - (bl (bv a) : Int)) := by unfold xE; by_cases z : tv a * 2 ^ (bl (bv a) - bl (tv a)) < bv a * 2 ^ (bl (tv a) - bl (bv a)); (left; rw [if_pos z]; omega); (right; rw [if_neg z]; omega)
              have trc := t0.2
              clear t0
              refine zz_if_lt (tgt := 141) hx hb d_Mo_round_134 (by decide) (by omega) (fun c134 => ?_) (fun c134 => ?_)
              · refine lv_iconst (v := iZ (0)) hx hb d_Mo_round_141 (by decide +kernel) ?_
                refine zz_iadd hx hb d_Mo_round_142 ?_
                refine lv_istore (lv' := [(4, .int (iZ ((bl (tv a) : Int) - (bl (bv a) : Int) - (pb : Int) + 0))), (5, .int (iZ ((bl (tv a) : Int) - (bl (bv a) : Int) - (pb : Int) + (pb : Int)))), (0, .ref mo), (1, .int (iZ (to : Int))), (2, .int (iZ (a : Int))), (3, .int (iZ (pb : Int)))]) hx hb d_Mo_round_143 hl (by decide) rfl (fun ls hl => ?_)
                refine lv_aload_n hx hb d_Mo_round_145 rfl (lv_at hl 2 rfl) ?_
                refine lv_iload_n hx hb d_Mo_round_146 rfl (lv_at hl 3 rfl) ?_
                refine lv_iload_n hx hb d_Mo_round_147 rfl (lv_at hl 4 rfl) ?_
                refine lv_iload hx hb d_Mo_round_148 (lv_at hl 0 rfl) ?_
                rw [show ((bl (tv a) : Int) - (bl (bv a) : Int) - (pb : Int) + 0 : Int) = -(E : Int) by omega]
                refine cv (n := 3) (wr := []) (w1 := (fun (u : (Nat → Int32) × (Nat → Int32) × (Nat → Int32) × (Nat → Int32) × (Nat → Int32) × (Nat → Int32) × (Nat → Int32) × (Nat → Nat)) => [(mo, .inr (8, [.int (iZ 0), .int (iZ (np : Int)), .ref ow, .ref om, .ref ok_, .ref oK, .ref og, .ref on_, .ref oh, .ref ox, .int qn, .int qf, .ref op_, .int ql])), (ow, .inl (cI, 108000, .inl u.1)), (om, .inl (cI, 9, .inl u.2.1)), (oh, .inl (cI, 10000, .inl u.2.2.1)), (ok_, .inl (cI, 166400, .inl u.2.2.2.1)), (oK, .inl (cI, 64, .inl u.2.2.2.2.1)), (og, .inl (cI, 32, .inl u.2.2.2.2.2.1)), (on_, .inl (cI, 32, .inl u.2.2.2.2.2.2.1))])) (As := [.int (iZ (to : Int)), .int (iZ (a : Int)), .int (iZ (-(E : Int)))]) (rest := []) K hP hD hK hS hA hl.1 (c_Mo_multipleDn l D mo (iZ 0) np ow om ok_ oK og on_ oh ox qn qf op_ ql fx5 fy5 cI fh4 fk fK fs fn v5 tv bv sg to a E H.size w5 hMR hnd hnp J hbv t1 t2 hE hE0 hfit) [5, 6, 7, 4, 2, 3, 0, 1] [] [0] rfl rfl rfl (by decide) (by decide) (by decide) 0 rfl rfl (big_in mw_1329 rfl) (big_in mw_10 rfl) (big_in mw_1326 rfl) (big_in mw_1328 rfl) (big_in sp_44 rfl) rfl rfl (by decide +kernel) ⟨by rw [hR]; exact Nat.le_of_ble_eq_true rfl, by rw [hR]; exact Nat.le_of_ble_eq_true rfl⟩ rfl (Nat.le_of_ble_eq_true rfl) d_Mo_round_150 ⟨by rw [hR]; exact Nat.le_of_ble_eq_true rfl, by rw [hR]; exact Nat.le_of_ble_eq_true rfl⟩ rfl (fun v u H locs hp10 hP hD hS _ => ?_)
                obtain ⟨fa, fb, fc, fd, fe, ff, fg, v9⟩ := u
                try dsimp only at hp10
                obtain ⟨rfl, w9, q9⟩ := hp10
                have hP : va_P D cls0 [(mo, .inr (8, [.int (iZ 0), .int (iZ (np : Int)), .ref ow, .ref om, .ref ok_, .ref oK, .ref og, .ref on_, .ref oh, .ref ox, .int qn, .int qf, .ref op_, .int ql])), (ow, .inl (cI, 108000, .inl fa)), (om, .inl (cI, 9, .inl fb)), (oh, .inl (cI, 10000, .inl fc)), (ok_, .inl (cI, 166400, .inl fd)), (oK, .inl (cI, 64, .inl fe)), (og, .inl (cI, 32, .inl ff)), (on_, .inl (cI, 32, .inl fg))] H := hP
                have hD : va_D A [(mo, .inr (8, [.int (iZ 0), .int (iZ (np : Int)), .ref ow, .ref om, .ref ok_, .ref oK, .ref og, .ref on_, .ref oh, .ref ox, .int qn, .int qf, .ref op_, .int ql])), (ow, .inl (cI, 108000, .inl fa)), (om, .inl (cI, 9, .inl fb)), (oh, .inl (cI, 10000, .inl fc)), (ok_, .inl (cI, 166400, .inl fd)), (oK, .inl (cI, 64, .inl fe)), (og, .inl (cI, 32, .inl ff)), (on_, .inl (cI, 32, .inl fg))] := hD
                show W p l e R s m args below meth c H locs _ _ Q (F0 m 153 ls [.int (iZ ((lm (rdN (nmQ (tv a * 2 ^ E) (bv a)) (2 ^ E)) : Int) + (lm (rdD (nmQ (tv a * 2 ^ E) (bv a)) (2 ^ E)) : Int)))])
                have hP9 : va_P D cls0 [(mo, .inr (8, [.int (iZ 0), .int (iZ (np : Int)), .ref ow, .ref om, .ref ok_, .ref oK, .ref og, .ref on_, .ref oh, .ref ox, .int qn, .int qf, .ref op_, .int ql])), (ow, .inl (cI, 108000, .inl fa)), (om, .inl (cI, 9, .inl fb)), (oh, .inl (cI, 10000, .inl fc)), (ok_, .inl (cI, 166400, .inl fd)), (oK, .inl (cI, 64, .inl fe)), (og, .inl (cI, 32, .inl ff)), (on_, .inl (cI, 32, .inl fg))] H := hP.sub [0, 1, 2, 3, 4, 5, 6, 7] rfl
                have hD9 : va_D A [(mo, .inr (8, [.int (iZ 0), .int (iZ (np : Int)), .ref ow, .ref om, .ref ok_, .ref oK, .ref og, .ref on_, .ref oh, .ref ox, .int qn, .int qf, .ref op_, .int ql])), (ow, .inl (cI, 108000, .inl fa)), (om, .inl (cI, 9, .inl fb)), (oh, .inl (cI, 10000, .inl fc)), (ok_, .inl (cI, 166400, .inl fd)), (oK, .inl (cI, 64, .inl fe)), (og, .inl (cI, 32, .inl ff)), (on_, .inl (cI, 32, .inl fg))] := hD.sub [0, 1, 2, 3, 4, 5, 6, 7] (by decide) rfl
                rw [hQ, ← hAe]
                refine r_i (v := (iZ ((lm (rdN (nmQ (tv a * 2 ^ E) (bv a)) (2 ^ E)) : Int) + (lm (rdD (nmQ (tv a * 2 ^ E) (bv a)) (2 ^ E)) : Int)))) K (fa, fb, fc, fd, fe, ff, fg, v9) hS d_Mo_round_153 ?_ (fun t ht hv => ?_)
                · exact ⟨rfl, w9, q9⟩
                · exact ⟨by rw [ht]; exact hP9, va_K.moved hv hK, by rw [← hAe]; exact hD9⟩
              · refine lv_iconst (v := iZ (1)) hx hb d_Mo_round_137 (by decide +kernel) ?_
                refine lv_goto (tgt := 142) hx hb d_Mo_round_138 (by decide) ?_
                refine zz_iadd hx hb d_Mo_round_142 ?_
                refine lv_istore (lv' := [(4, .int (iZ ((bl (tv a) : Int) - (bl (bv a) : Int) - (pb : Int) + 1))), (5, .int (iZ ((bl (tv a) : Int) - (bl (bv a) : Int) - (pb : Int) + (pb : Int)))), (0, .ref mo), (1, .int (iZ (to : Int))), (2, .int (iZ (a : Int))), (3, .int (iZ (pb : Int)))]) hx hb d_Mo_round_143 hl (by decide) rfl (fun ls hl => ?_)
                refine lv_aload_n hx hb d_Mo_round_145 rfl (lv_at hl 2 rfl) ?_
                refine lv_iload_n hx hb d_Mo_round_146 rfl (lv_at hl 3 rfl) ?_
                refine lv_iload_n hx hb d_Mo_round_147 rfl (lv_at hl 4 rfl) ?_
                refine lv_iload hx hb d_Mo_round_148 (lv_at hl 0 rfl) ?_
                rw [show ((bl (tv a) : Int) - (bl (bv a) : Int) - (pb : Int) + 1 : Int) = -(E : Int) by omega]
                refine cv (n := 3) (wr := []) (w1 := (fun (u : (Nat → Int32) × (Nat → Int32) × (Nat → Int32) × (Nat → Int32) × (Nat → Int32) × (Nat → Int32) × (Nat → Int32) × (Nat → Nat)) => [(mo, .inr (8, [.int (iZ 0), .int (iZ (np : Int)), .ref ow, .ref om, .ref ok_, .ref oK, .ref og, .ref on_, .ref oh, .ref ox, .int qn, .int qf, .ref op_, .int ql])), (ow, .inl (cI, 108000, .inl u.1)), (om, .inl (cI, 9, .inl u.2.1)), (oh, .inl (cI, 10000, .inl u.2.2.1)), (ok_, .inl (cI, 166400, .inl u.2.2.2.1)), (oK, .inl (cI, 64, .inl u.2.2.2.2.1)), (og, .inl (cI, 32, .inl u.2.2.2.2.2.1)), (on_, .inl (cI, 32, .inl u.2.2.2.2.2.2.1))])) (As := [.int (iZ (to : Int)), .int (iZ (a : Int)), .int (iZ (-(E : Int)))]) (rest := []) K hP hD hK hS hA hl.1 (c_Mo_multipleDn l D mo (iZ 0) np ow om ok_ oK og on_ oh ox qn qf op_ ql fx5 fy5 cI fh4 fk fK fs fn v5 tv bv sg to a E H.size w5 hMR hnd hnp J hbv t1 t2 hE hE0 hfit) [5, 6, 7, 4, 2, 3, 0, 1] [] [0] rfl rfl rfl (by decide) (by decide) (by decide) 0 rfl rfl (big_in mw_1329 rfl) (big_in mw_10 rfl) (big_in mw_1326 rfl) (big_in mw_1328 rfl) (big_in sp_44 rfl) rfl rfl (by decide +kernel) ⟨by rw [hR]; exact Nat.le_of_ble_eq_true rfl, by rw [hR]; exact Nat.le_of_ble_eq_true rfl⟩ rfl (Nat.le_of_ble_eq_true rfl) d_Mo_round_150 ⟨by rw [hR]; exact Nat.le_of_ble_eq_true rfl, by rw [hR]; exact Nat.le_of_ble_eq_true rfl⟩ rfl (fun v u H locs hp11 hP hD hS _ => ?_)
                obtain ⟨fa, fb, fc, fd, fe, ff, fg, v9⟩ := u
                try dsimp only at hp11
                obtain ⟨rfl, w9, q9⟩ := hp11
                have hP : va_P D cls0 [(mo, .inr (8, [.int (iZ 0), .int (iZ (np : Int)), .ref ow, .ref om, .ref ok_, .ref oK, .ref og, .ref on_, .ref oh, .ref ox, .int qn, .int qf, .ref op_, .int ql])), (ow, .inl (cI, 108000, .inl fa)), (om, .inl (cI, 9, .inl fb)), (oh, .inl (cI, 10000, .inl fc)), (ok_, .inl (cI, 166400, .inl fd)), (oK, .inl (cI, 64, .inl fe)), (og, .inl (cI, 32, .inl ff)), (on_, .inl (cI, 32, .inl fg))] H := hP
                have hD : va_D A [(mo, .inr (8, [.int (iZ 0), .int (iZ (np : Int)), .ref ow, .ref om, .ref ok_, .ref oK, .ref og, .ref on_, .ref oh, .ref ox, .int qn, .int qf, .ref op_, .int ql])), (ow, .inl (cI, 108000, .inl fa)), (om, .inl (cI, 9, .inl fb)), (oh, .inl (cI, 10000, .inl fc)), (ok_, .inl (cI, 166400, .inl fd)), (oK, .inl (cI, 64, .inl fe)), (og, .inl (cI, 32, .inl ff)), (on_, .inl (cI, 32, .inl fg))] := hD
                show W p l e R s m args below meth c H locs _ _ Q (F0 m 153 ls [.int (iZ ((lm (rdN (nmQ (tv a * 2 ^ E) (bv a)) (2 ^ E)) : Int) + (lm (rdD (nmQ (tv a * 2 ^ E) (bv a)) (2 ^ E)) : Int)))])
                have hP9 : va_P D cls0 [(mo, .inr (8, [.int (iZ 0), .int (iZ (np : Int)), .ref ow, .ref om, .ref ok_, .ref oK, .ref og, .ref on_, .ref oh, .ref ox, .int qn, .int qf, .ref op_, .int ql])), (ow, .inl (cI, 108000, .inl fa)), (om, .inl (cI, 9, .inl fb)), (oh, .inl (cI, 10000, .inl fc)), (ok_, .inl (cI, 166400, .inl fd)), (oK, .inl (cI, 64, .inl fe)), (og, .inl (cI, 32, .inl ff)), (on_, .inl (cI, 32, .inl fg))] H := hP.sub [0, 1, 2, 3, 4, 5, 6, 7] rfl
                have hD9 : va_D A [(mo, .inr (8, [.int (iZ 0), .int (iZ (np : Int)), .ref ow, .ref om, .ref ok_, .ref oK, .ref og, .ref on_, .ref oh, .ref ox, .int qn, .int qf, .ref op_, .int ql])), (ow, .inl (cI, 108000, .inl fa)), (om, .inl (cI, 9, .inl fb)), (oh, .inl (cI, 10000, .inl fc)), (ok_, .inl (cI, 166400, .inl fd)), (oK, .inl (cI, 64, .inl fe)), (og, .inl (cI, 32, .inl ff)), (on_, .inl (cI, 32, .inl fg))] := hD.sub [0, 1, 2, 3, 4, 5, 6, 7] (by decide) rfl
                rw [hQ, ← hAe]
                refine r_i (v := (iZ ((lm (rdN (nmQ (tv a * 2 ^ E) (bv a)) (2 ^ E)) : Int) + (lm (rdD (nmQ (tv a * 2 ^ E) (bv a)) (2 ^ E)) : Int)))) K (fa, fb, fc, fd, fe, ff, fg, v9) hS d_Mo_round_153 ?_ (fun t ht hv => ?_)
                · exact ⟨rfl, w9, q9⟩
                · exact ⟨by rw [ht]; exact hP9, va_K.moved hv hK, by rw [← hAe]; exact hD9⟩
            · refine lv_iload hx hb d_Mo_round_115 (lv_at hl 0 rfl) ?_
              refine zz_ineg hx hb d_Mo_round_117 ?_
              refine lv_goto (tgt := 123) hx hb d_Mo_round_118 (by decide) ?_
              rw [show (-((bl (tv a) : Int) - (bl (bv a) : Int) - (pb : Int) + (pb : Int)) : Int) = ((bl (tv a) - bl (bv a) : Nat) : Int) by omega]
              refine cv (n := 2) (wr := [(og, .inl (cI, 32, .inl fs)), (on_, .inl (cI, 32, .inl fn)), (ok_, .inl (cI, 166400, .inl fk)), (oK, .inl (cI, 64, .inl fK)), (oh, .inl (cI, 10000, .inl fh4))]) (w1 := (fun (u : (Nat → Int32) × (Nat → Int32)) => [(mo, .inr (8, [.int (iZ 0), .int (iZ (np : Int)), .ref ow, .ref om, .ref ok_, .ref oK, .ref og, .ref on_, .ref oh, .ref ox, .int qn, .int qf, .ref op_, .int ql])), (ow, .inl (cI, 108000, .inl u.1)), (om, .inl (cI, 9, .inl u.2))])) (As := [.int (iZ 1), .int (iZ ((bl (tv a) - bl (bv a) : Nat) : Int))]) (rest := []) K hP hD hK hS hA hl.1 (c_Mo_doubled l D mo (iZ 0) np ow om ok_ oK og on_ oh ox qn qf op_ ql fx4 fy4 cI v4 1 (bl (tv a) - bl (bv a)) H.size w4 (by decide) (by omega) (by rw [z41]; have z := nd_shl (bv a) (bl (tv a) - bl (bv a)); omega)) [4, 5, 6] [0, 1, 2, 3, 7] [0] rfl rfl rfl (by decide) (by decide) (by decide) 0 rfl rfl (big_in mw_1320 rfl) (big_in mw_10 rfl) (big_in mw_1317 rfl) (big_in mw_1319 rfl) (big_in sp_42 rfl) rfl rfl (by decide +kernel) ⟨by rw [hR]; exact Nat.le_of_ble_eq_true rfl, by rw [hR]; exact Nat.le_of_ble_eq_true rfl⟩ rfl (Nat.le_of_ble_eq_true rfl) d_Mo_round_123 ⟨by rw [hR]; exact Nat.le_of_ble_eq_true rfl, by rw [hR]; exact Nat.le_of_ble_eq_true rfl⟩ rfl (fun v u H locs hp12 hP hD hS _ => ?_)
              obtain ⟨fx5, fy5⟩ := u
              try dsimp only at hp12
              obtain ⟨rfl, w5⟩ := hp12
              have hP : va_P D cls0 [(og, .inl (cI, 32, .inl fs)), (on_, .inl (cI, 32, .inl fn)), (ok_, .inl (cI, 166400, .inl fk)), (oK, .inl (cI, 64, .inl fK)), (oh, .inl (cI, 10000, .inl fh4)), (mo, .inr (8, [.int (iZ 0), .int (iZ (np : Int)), .ref ow, .ref om, .ref ok_, .ref oK, .ref og, .ref on_, .ref oh, .ref ox, .int qn, .int qf, .ref op_, .int ql])), (ow, .inl (cI, 108000, .inl fx5)), (om, .inl (cI, 9, .inl fy5))] H := hP
              have hD : va_D A [(og, .inl (cI, 32, .inl fs)), (on_, .inl (cI, 32, .inl fn)), (ok_, .inl (cI, 166400, .inl fk)), (oK, .inl (cI, 64, .inl fK)), (oh, .inl (cI, 10000, .inl fh4)), (mo, .inr (8, [.int (iZ 0), .int (iZ (np : Int)), .ref ow, .ref om, .ref ok_, .ref oK, .ref og, .ref on_, .ref oh, .ref ox, .int qn, .int qf, .ref op_, .int ql])), (ow, .inl (cI, 108000, .inl fx5)), (om, .inl (cI, 9, .inl fy5))] := hD
              show W p l e R s m args below meth c H locs _ _ Q (F0 m 126 ls [])
              rw [z41] at w5
              obtain ⟨v5, hv5⟩ : ∃ z, z = up v4 1 (bv a * 2 ^ (bl (tv a) - bl (bv a))) := ⟨_, rfl⟩
              rw [← hv5] at w5
              have z50 : v5 0 = tv a * 2 ^ (bl (bv a) - bl (tv a)) := by rw [hv5, up_n (by decide), z40, show bl (bv a) - bl (tv a) = 0 by omega, Nat.pow_zero, Nat.mul_one]
              have z51 : v5 1 = bv a * 2 ^ (bl (tv a) - bl (bv a)) := by rw [hv5, up_s]
              refine lv_iload hx hb d_Mo_round_126 (lv_at hl 1 rfl) ?_
              refine lv_aload_n hx hb d_Mo_round_128 rfl (lv_at hl 2 rfl) ?_
              refine lv_iconst (v := iZ (0)) hx hb d_Mo_round_129 (by decide +kernel) ?_
              refine lv_iconst (v := iZ (1)) hx hb d_Mo_round_130 (by decide +kernel) ?_
              refine cv (n := 2) (wr := [(og, .inl (cI, 32, .inl fs)), (on_, .inl (cI, 32, .inl fn)), (ok_, .inl (cI, 166400, .inl fk)), (oK, .inl (cI, 64, .inl fK)), (oh, .inl (cI, 10000, .inl fh4))]) (w1 := (fun (u : Int) => [(mo, .inr (8, [.int (iZ 0), .int (iZ (np : Int)), .ref ow, .ref om, .ref ok_, .ref oK, .ref og, .ref on_, .ref oh, .ref ox, .int qn, .int qf, .ref op_, .int ql])), (ow, .inl (cI, 108000, .inl fx5)), (om, .inl (cI, 9, .inl fy5))])) (As := [.int (iZ 0), .int (iZ 1)]) (rest := [.int (iZ ((bl (tv a) : Int) - (bl (bv a) : Int) - (pb : Int)))]) K hP hD hK hS hA hl.1 (c_Mo_order l D mo (iZ 0) np ow om ok_ oK og on_ oh ox qn qf op_ ql fx5 fy5 cI v5 0 1 H.size w5 (by omega) (by omega)) [5, 6, 7] [0, 1, 2, 3, 4] [0] rfl rfl rfl (by decide) (by decide) (by decide) 0 rfl rfl (big_in mw_1270 rfl) (big_in mw_10 rfl) (big_in mw_1267 rfl) (big_in mw_1269 rfl) (big_in sp_37 rfl) rfl rfl (by decide +kernel) ⟨by rw [hR]; exact Nat.le_of_ble_eq_true rfl, by rw [hR]; exact Nat.le_of_ble_eq_true rfl⟩ rfl (Nat.le_of_ble_eq_true rfl) d_Mo_round_131 ⟨by rw [hR]; exact Nat.le_of_ble_eq_true rfl, by rw [hR]; exact Nat.le_of_ble_eq_true rfl⟩ rfl (fun v u H locs hp13 hP hD hS _ => ?_)
              obtain ⟨rc, rfl⟩ : ∃ z, z = u := ⟨_, rfl⟩
              obtain ⟨rfl, gq⟩ := hp13
              have hP : va_P D cls0 [(og, .inl (cI, 32, .inl fs)), (on_, .inl (cI, 32, .inl fn)), (ok_, .inl (cI, 166400, .inl fk)), (oK, .inl (cI, 64, .inl fK)), (oh, .inl (cI, 10000, .inl fh4)), (mo, .inr (8, [.int (iZ 0), .int (iZ (np : Int)), .ref ow, .ref om, .ref ok_, .ref oK, .ref og, .ref on_, .ref oh, .ref ox, .int qn, .int qf, .ref op_, .int ql])), (ow, .inl (cI, 108000, .inl fx5)), (om, .inl (cI, 9, .inl fy5))] H := hP
              have hD : va_D A [(og, .inl (cI, 32, .inl fs)), (on_, .inl (cI, 32, .inl fn)), (ok_, .inl (cI, 166400, .inl fk)), (oK, .inl (cI, 64, .inl fK)), (oh, .inl (cI, 10000, .inl fh4)), (mo, .inr (8, [.int (iZ 0), .int (iZ (np : Int)), .ref ow, .ref om, .ref ok_, .ref oK, .ref og, .ref on_, .ref oh, .ref ox, .int qn, .int qf, .ref op_, .int ql])), (ow, .inl (cI, 108000, .inl fx5)), (om, .inl (cI, 9, .inl fy5))] := hD
              show W p l e R s m args below meth c H locs _ _ Q (F0 m 134 ls [.int (iZ rc), .int (iZ ((bl (tv a) : Int) - (bl (bv a) : Int) - (pb : Int)))])
              rw [z50, z51] at gq
              have t0 : (rc < 0 ↔ ((tv a * 2 ^ (bl (bv a) - bl (tv a)) : Nat) : Int) < ((bv a * 2 ^ (bl (tv a) - bl (bv a)) : Nat) : Int)) ∧ (-1 ≤ rc ∧ rc ≤ 1) := by rw [gq]; exact ⟨cmpZ_lt, cmpZ_r _ _⟩
              clear gq
              have xs : (rc < 0 ∧ xE (tv a) (bv a) = (bl (tv a) : Int) - (bl (bv a) : Int) - 1) ∨ (0 ≤ rc ∧ xE (tv a) (bv a) = (bl (tv a) : Int) - (bl (bv a) : Int)) := by unfold xE; by_cases z : tv a * 2 ^ (bl (bv a) - bl (tv a)) < bv a * 2 ^ (bl (tv a) - bl (bv a)); (left; rw [if_pos z]; omega); (right; rw [if_neg z]; omega)
              have trc := t0.2
              clear t0
              refine zz_if_lt (tgt := 141) hx hb d_Mo_round_134 (by decide) (by omega) (fun c134 => ?_) (fun c134 => ?_)
              · refine lv_iconst (v := iZ (0)) hx hb d_Mo_round_141 (by decide +kernel) ?_
                refine zz_iadd hx hb d_Mo_round_142 ?_
                refine lv_istore (lv' := [(4, .int (iZ ((bl (tv a) : Int) - (bl (bv a) : Int) - (pb : Int) + 0))), (5, .int (iZ ((bl (tv a) : Int) - (bl (bv a) : Int) - (pb : Int) + (pb : Int)))), (0, .ref mo), (1, .int (iZ (to : Int))), (2, .int (iZ (a : Int))), (3, .int (iZ (pb : Int)))]) hx hb d_Mo_round_143 hl (by decide) rfl (fun ls hl => ?_)
                refine lv_aload_n hx hb d_Mo_round_145 rfl (lv_at hl 2 rfl) ?_
                refine lv_iload_n hx hb d_Mo_round_146 rfl (lv_at hl 3 rfl) ?_
                refine lv_iload_n hx hb d_Mo_round_147 rfl (lv_at hl 4 rfl) ?_
                refine lv_iload hx hb d_Mo_round_148 (lv_at hl 0 rfl) ?_
                rw [show ((bl (tv a) : Int) - (bl (bv a) : Int) - (pb : Int) + 0 : Int) = -(E : Int) by omega]
                refine cv (n := 3) (wr := []) (w1 := (fun (u : (Nat → Int32) × (Nat → Int32) × (Nat → Int32) × (Nat → Int32) × (Nat → Int32) × (Nat → Int32) × (Nat → Int32) × (Nat → Nat)) => [(mo, .inr (8, [.int (iZ 0), .int (iZ (np : Int)), .ref ow, .ref om, .ref ok_, .ref oK, .ref og, .ref on_, .ref oh, .ref ox, .int qn, .int qf, .ref op_, .int ql])), (ow, .inl (cI, 108000, .inl u.1)), (om, .inl (cI, 9, .inl u.2.1)), (oh, .inl (cI, 10000, .inl u.2.2.1)), (ok_, .inl (cI, 166400, .inl u.2.2.2.1)), (oK, .inl (cI, 64, .inl u.2.2.2.2.1)), (og, .inl (cI, 32, .inl u.2.2.2.2.2.1)), (on_, .inl (cI, 32, .inl u.2.2.2.2.2.2.1))])) (As := [.int (iZ (to : Int)), .int (iZ (a : Int)), .int (iZ (-(E : Int)))]) (rest := []) K hP hD hK hS hA hl.1 (c_Mo_multipleDn l D mo (iZ 0) np ow om ok_ oK og on_ oh ox qn qf op_ ql fx5 fy5 cI fh4 fk fK fs fn v5 tv bv sg to a E H.size w5 hMR hnd hnp J hbv t1 t2 hE hE0 hfit) [5, 6, 7, 4, 2, 3, 0, 1] [] [0] rfl rfl rfl (by decide) (by decide) (by decide) 0 rfl rfl (big_in mw_1329 rfl) (big_in mw_10 rfl) (big_in mw_1326 rfl) (big_in mw_1328 rfl) (big_in sp_44 rfl) rfl rfl (by decide +kernel) ⟨by rw [hR]; exact Nat.le_of_ble_eq_true rfl, by rw [hR]; exact Nat.le_of_ble_eq_true rfl⟩ rfl (Nat.le_of_ble_eq_true rfl) d_Mo_round_150 ⟨by rw [hR]; exact Nat.le_of_ble_eq_true rfl, by rw [hR]; exact Nat.le_of_ble_eq_true rfl⟩ rfl (fun v u H locs hp14 hP hD hS _ => ?_)
                obtain ⟨fa, fb, fc, fd, fe, ff, fg, v9⟩ := u
                try dsimp only at hp14
                obtain ⟨rfl, w9, q9⟩ := hp14
                have hP : va_P D cls0 [(mo, .inr (8, [.int (iZ 0), .int (iZ (np : Int)), .ref ow, .ref om, .ref ok_, .ref oK, .ref og, .ref on_, .ref oh, .ref ox, .int qn, .int qf, .ref op_, .int ql])), (ow, .inl (cI, 108000, .inl fa)), (om, .inl (cI, 9, .inl fb)), (oh, .inl (cI, 10000, .inl fc)), (ok_, .inl (cI, 166400, .inl fd)), (oK, .inl (cI, 64, .inl fe)), (og, .inl (cI, 32, .inl ff)), (on_, .inl (cI, 32, .inl fg))] H := hP
                have hD : va_D A [(mo, .inr (8, [.int (iZ 0), .int (iZ (np : Int)), .ref ow, .ref om, .ref ok_, .ref oK, .ref og, .ref on_, .ref oh, .ref ox, .int qn, .int qf, .ref op_, .int ql])), (ow, .inl (cI, 108000, .inl fa)), (om, .inl (cI, 9, .inl fb)), (oh, .inl (cI, 10000, .inl fc)), (ok_, .inl (cI, 166400, .inl fd)), (oK, .inl (cI, 64, .inl fe)), (og, .inl (cI, 32, .inl ff)), (on_, .inl (cI, 32, .inl fg))] := hD
                show W p l e R s m args below meth c H locs _ _ Q (F0 m 153 ls [.int (iZ ((lm (rdN (nmQ (tv a * 2 ^ E) (bv a)) (2 ^ E)) : Int) + (lm (rdD (nmQ (tv a * 2 ^ E) (bv a)) (2 ^ E)) : Int)))])
                have hP9 : va_P D cls0 [(mo, .inr (8, [.int (iZ 0), .int (iZ (np : Int)), .ref ow, .ref om, .ref ok_, .ref oK, .ref og, .ref on_, .ref oh, .ref ox, .int qn, .int qf, .ref op_, .int ql])), (ow, .inl (cI, 108000, .inl fa)), (om, .inl (cI, 9, .inl fb)), (oh, .inl (cI, 10000, .inl fc)), (ok_, .inl (cI, 166400, .inl fd)), (oK, .inl (cI, 64, .inl fe)), (og, .inl (cI, 32, .inl ff)), (on_, .inl (cI, 32, .inl fg))] H := hP.sub [0, 1, 2, 3, 4, 5, 6, 7] rfl
                have hD9 : va_D A [(mo, .inr (8, [.int (iZ 0), .int (iZ (np : Int)), .ref ow, .ref om, .ref ok_, .ref oK, .ref og, .ref on_, .ref oh, .ref ox, .int qn, .int qf, .ref op_, .int ql])), (ow, .inl (cI, 108000, .inl fa)), (om, .inl (cI, 9, .inl fb)), (oh, .inl (cI, 10000, .inl fc)), (ok_, .inl (cI, 166400, .inl fd)), (oK, .inl (cI, 64, .inl fe)), (og, .inl (cI, 32, .inl ff)), (on_, .inl (cI, 32, .inl fg))] := hD.sub [0, 1, 2, 3, 4, 5, 6, 7] (by decide) rfl
                rw [hQ, ← hAe]
                refine r_i (v := (iZ ((lm (rdN (nmQ (tv a * 2 ^ E) (bv a)) (2 ^ E)) : Int) + (lm (rdD (nmQ (tv a * 2 ^ E) (bv a)) (2 ^ E)) : Int)))) K (fa, fb, fc, fd, fe, ff, fg, v9) hS d_Mo_round_153 ?_ (fun t ht hv => ?_)
                · exact ⟨rfl, w9, q9⟩
                · exact ⟨by rw [ht]; exact hP9, va_K.moved hv hK, by rw [← hAe]; exact hD9⟩
              · refine lv_iconst (v := iZ (1)) hx hb d_Mo_round_137 (by decide +kernel) ?_
                refine lv_goto (tgt := 142) hx hb d_Mo_round_138 (by decide) ?_
                refine zz_iadd hx hb d_Mo_round_142 ?_
                refine lv_istore (lv' := [(4, .int (iZ ((bl (tv a) : Int) - (bl (bv a) : Int) - (pb : Int) + 1))), (5, .int (iZ ((bl (tv a) : Int) - (bl (bv a) : Int) - (pb : Int) + (pb : Int)))), (0, .ref mo), (1, .int (iZ (to : Int))), (2, .int (iZ (a : Int))), (3, .int (iZ (pb : Int)))]) hx hb d_Mo_round_143 hl (by decide) rfl (fun ls hl => ?_)
                refine lv_aload_n hx hb d_Mo_round_145 rfl (lv_at hl 2 rfl) ?_
                refine lv_iload_n hx hb d_Mo_round_146 rfl (lv_at hl 3 rfl) ?_
                refine lv_iload_n hx hb d_Mo_round_147 rfl (lv_at hl 4 rfl) ?_
                refine lv_iload hx hb d_Mo_round_148 (lv_at hl 0 rfl) ?_
                rw [show ((bl (tv a) : Int) - (bl (bv a) : Int) - (pb : Int) + 1 : Int) = -(E : Int) by omega]
                refine cv (n := 3) (wr := []) (w1 := (fun (u : (Nat → Int32) × (Nat → Int32) × (Nat → Int32) × (Nat → Int32) × (Nat → Int32) × (Nat → Int32) × (Nat → Int32) × (Nat → Nat)) => [(mo, .inr (8, [.int (iZ 0), .int (iZ (np : Int)), .ref ow, .ref om, .ref ok_, .ref oK, .ref og, .ref on_, .ref oh, .ref ox, .int qn, .int qf, .ref op_, .int ql])), (ow, .inl (cI, 108000, .inl u.1)), (om, .inl (cI, 9, .inl u.2.1)), (oh, .inl (cI, 10000, .inl u.2.2.1)), (ok_, .inl (cI, 166400, .inl u.2.2.2.1)), (oK, .inl (cI, 64, .inl u.2.2.2.2.1)), (og, .inl (cI, 32, .inl u.2.2.2.2.2.1)), (on_, .inl (cI, 32, .inl u.2.2.2.2.2.2.1))])) (As := [.int (iZ (to : Int)), .int (iZ (a : Int)), .int (iZ (-(E : Int)))]) (rest := []) K hP hD hK hS hA hl.1 (c_Mo_multipleDn l D mo (iZ 0) np ow om ok_ oK og on_ oh ox qn qf op_ ql fx5 fy5 cI fh4 fk fK fs fn v5 tv bv sg to a E H.size w5 hMR hnd hnp J hbv t1 t2 hE hE0 hfit) [5, 6, 7, 4, 2, 3, 0, 1] [] [0] rfl rfl rfl (by decide) (by decide) (by decide) 0 rfl rfl (big_in mw_1329 rfl) (big_in mw_10 rfl) (big_in mw_1326 rfl) (big_in mw_1328 rfl) (big_in sp_44 rfl) rfl rfl (by decide +kernel) ⟨by rw [hR]; exact Nat.le_of_ble_eq_true rfl, by rw [hR]; exact Nat.le_of_ble_eq_true rfl⟩ rfl (Nat.le_of_ble_eq_true rfl) d_Mo_round_150 ⟨by rw [hR]; exact Nat.le_of_ble_eq_true rfl, by rw [hR]; exact Nat.le_of_ble_eq_true rfl⟩ rfl (fun v u H locs hp15 hP hD hS _ => ?_)
                obtain ⟨fa, fb, fc, fd, fe, ff, fg, v9⟩ := u
                try dsimp only at hp15
                obtain ⟨rfl, w9, q9⟩ := hp15
                have hP : va_P D cls0 [(mo, .inr (8, [.int (iZ 0), .int (iZ (np : Int)), .ref ow, .ref om, .ref ok_, .ref oK, .ref og, .ref on_, .ref oh, .ref ox, .int qn, .int qf, .ref op_, .int ql])), (ow, .inl (cI, 108000, .inl fa)), (om, .inl (cI, 9, .inl fb)), (oh, .inl (cI, 10000, .inl fc)), (ok_, .inl (cI, 166400, .inl fd)), (oK, .inl (cI, 64, .inl fe)), (og, .inl (cI, 32, .inl ff)), (on_, .inl (cI, 32, .inl fg))] H := hP
                have hD : va_D A [(mo, .inr (8, [.int (iZ 0), .int (iZ (np : Int)), .ref ow, .ref om, .ref ok_, .ref oK, .ref og, .ref on_, .ref oh, .ref ox, .int qn, .int qf, .ref op_, .int ql])), (ow, .inl (cI, 108000, .inl fa)), (om, .inl (cI, 9, .inl fb)), (oh, .inl (cI, 10000, .inl fc)), (ok_, .inl (cI, 166400, .inl fd)), (oK, .inl (cI, 64, .inl fe)), (og, .inl (cI, 32, .inl ff)), (on_, .inl (cI, 32, .inl fg))] := hD
                show W p l e R s m args below meth c H locs _ _ Q (F0 m 153 ls [.int (iZ ((lm (rdN (nmQ (tv a * 2 ^ E) (bv a)) (2 ^ E)) : Int) + (lm (rdD (nmQ (tv a * 2 ^ E) (bv a)) (2 ^ E)) : Int)))])
                have hP9 : va_P D cls0 [(mo, .inr (8, [.int (iZ 0), .int (iZ (np : Int)), .ref ow, .ref om, .ref ok_, .ref oK, .ref og, .ref on_, .ref oh, .ref ox, .int qn, .int qf, .ref op_, .int ql])), (ow, .inl (cI, 108000, .inl fa)), (om, .inl (cI, 9, .inl fb)), (oh, .inl (cI, 10000, .inl fc)), (ok_, .inl (cI, 166400, .inl fd)), (oK, .inl (cI, 64, .inl fe)), (og, .inl (cI, 32, .inl ff)), (on_, .inl (cI, 32, .inl fg))] H := hP.sub [0, 1, 2, 3, 4, 5, 6, 7] rfl
                have hD9 : va_D A [(mo, .inr (8, [.int (iZ 0), .int (iZ (np : Int)), .ref ow, .ref om, .ref ok_, .ref oK, .ref og, .ref on_, .ref oh, .ref ox, .int qn, .int qf, .ref op_, .int ql])), (ow, .inl (cI, 108000, .inl fa)), (om, .inl (cI, 9, .inl fb)), (oh, .inl (cI, 10000, .inl fc)), (ok_, .inl (cI, 166400, .inl fd)), (oK, .inl (cI, 64, .inl fe)), (og, .inl (cI, 32, .inl ff)), (on_, .inl (cI, 32, .inl fg))] := hD.sub [0, 1, 2, 3, 4, 5, 6, 7] (by decide) rfl
                rw [hQ, ← hAe]
                refine r_i (v := (iZ ((lm (rdN (nmQ (tv a * 2 ^ E) (bv a)) (2 ^ E)) : Int) + (lm (rdD (nmQ (tv a * 2 ^ E) (bv a)) (2 ^ E)) : Int)))) K (fa, fb, fc, fd, fe, ff, fg, v9) hS d_Mo_round_153 ?_ (fun t ht hv => ?_)
                · exact ⟨rfl, w9, q9⟩
                · exact ⟨by rw [ht]; exact hP9, va_K.moved hv hK, by rw [← hAe]; exact hD9⟩
          · refine lv_iconst (v := iZ (0)) hx hb d_Mo_round_105 (by decide +kernel) ?_
            refine lv_goto (tgt := 110) hx hb d_Mo_round_106 (by decide) ?_
            refine lv_iload hx hb d_Mo_round_110 (lv_at hl 0 rfl) ?_
            refine zz_if_ge (tgt := 121) hx hb d_Mo_round_112 (by decide) (by omega) (fun c112 => ?_) (fun c112 => ?_)
            · refine lv_iload hx hb d_Mo_round_121 (lv_at hl 0 rfl) ?_
              rw [show ((bl (tv a) : Int) - (bl (bv a) : Int) - (pb : Int) + (pb : Int) : Int) = ((bl (bv a) - bl (tv a) : Nat) : Int) by omega]
              refine cv (n := 2) (wr := [(og, .inl (cI, 32, .inl fs)), (on_, .inl (cI, 32, .inl fn)), (ok_, .inl (cI, 166400, .inl fk)), (oK, .inl (cI, 64, .inl fK)), (oh, .inl (cI, 10000, .inl fh4))]) (w1 := (fun (u : (Nat → Int32) × (Nat → Int32)) => [(mo, .inr (8, [.int (iZ 0), .int (iZ (np : Int)), .ref ow, .ref om, .ref ok_, .ref oK, .ref og, .ref on_, .ref oh, .ref ox, .int qn, .int qf, .ref op_, .int ql])), (ow, .inl (cI, 108000, .inl u.1)), (om, .inl (cI, 9, .inl u.2))])) (As := [.int (iZ 0), .int (iZ ((bl (bv a) - bl (tv a) : Nat) : Int))]) (rest := []) K hP hD hK hS hA hl.1 (c_Mo_doubled l D mo (iZ 0) np ow om ok_ oK og on_ oh ox qn qf op_ ql fx4 fy4 cI v4 0 (bl (bv a) - bl (tv a)) H.size w4 (by decide) (by omega) (by rw [z40]; have z := nd_shl (tv a) (bl (bv a) - bl (tv a)); omega)) [4, 5, 6] [0, 1, 2, 3, 7] [0] rfl rfl rfl (by decide) (by decide) (by decide) 0 rfl rfl (big_in mw_1320 rfl) (big_in mw_10 rfl) (big_in mw_1317 rfl) (big_in mw_1319 rfl) (big_in sp_42 rfl) rfl rfl (by decide +kernel) ⟨by rw [hR]; exact Nat.le_of_ble_eq_true rfl, by rw [hR]; exact Nat.le_of_ble_eq_true rfl⟩ rfl (Nat.le_of_ble_eq_true rfl) d_Mo_round_123 ⟨by rw [hR]; exact Nat.le_of_ble_eq_true rfl, by rw [hR]; exact Nat.le_of_ble_eq_true rfl⟩ rfl (fun v u H locs hp16 hP hD hS _ => ?_)
              obtain ⟨fx5, fy5⟩ := u
              try dsimp only at hp16
              obtain ⟨rfl, w5⟩ := hp16
              have hP : va_P D cls0 [(og, .inl (cI, 32, .inl fs)), (on_, .inl (cI, 32, .inl fn)), (ok_, .inl (cI, 166400, .inl fk)), (oK, .inl (cI, 64, .inl fK)), (oh, .inl (cI, 10000, .inl fh4)), (mo, .inr (8, [.int (iZ 0), .int (iZ (np : Int)), .ref ow, .ref om, .ref ok_, .ref oK, .ref og, .ref on_, .ref oh, .ref ox, .int qn, .int qf, .ref op_, .int ql])), (ow, .inl (cI, 108000, .inl fx5)), (om, .inl (cI, 9, .inl fy5))] H := hP
              have hD : va_D A [(og, .inl (cI, 32, .inl fs)), (on_, .inl (cI, 32, .inl fn)), (ok_, .inl (cI, 166400, .inl fk)), (oK, .inl (cI, 64, .inl fK)), (oh, .inl (cI, 10000, .inl fh4)), (mo, .inr (8, [.int (iZ 0), .int (iZ (np : Int)), .ref ow, .ref om, .ref ok_, .ref oK, .ref og, .ref on_, .ref oh, .ref ox, .int qn, .int qf, .ref op_, .int ql])), (ow, .inl (cI, 108000, .inl fx5)), (om, .inl (cI, 9, .inl fy5))] := hD
              show W p l e R s m args below meth c H locs _ _ Q (F0 m 126 ls [])
              rw [z40] at w5
              obtain ⟨v5, hv5⟩ : ∃ z, z = up v4 0 (tv a * 2 ^ (bl (bv a) - bl (tv a))) := ⟨_, rfl⟩
              rw [← hv5] at w5
              have z50 : v5 0 = tv a * 2 ^ (bl (bv a) - bl (tv a)) := by rw [hv5, up_s]
              have z51 : v5 1 = bv a * 2 ^ (bl (tv a) - bl (bv a)) := by rw [hv5, up_n (by decide), z41, show bl (tv a) - bl (bv a) = 0 by omega, Nat.pow_zero, Nat.mul_one]
              refine lv_iload hx hb d_Mo_round_126 (lv_at hl 1 rfl) ?_
              refine lv_aload_n hx hb d_Mo_round_128 rfl (lv_at hl 2 rfl) ?_
              refine lv_iconst (v := iZ (0)) hx hb d_Mo_round_129 (by decide +kernel) ?_
              refine lv_iconst (v := iZ (1)) hx hb d_Mo_round_130 (by decide +kernel) ?_
              refine cv (n := 2) (wr := [(og, .inl (cI, 32, .inl fs)), (on_, .inl (cI, 32, .inl fn)), (ok_, .inl (cI, 166400, .inl fk)), (oK, .inl (cI, 64, .inl fK)), (oh, .inl (cI, 10000, .inl fh4))]) (w1 := (fun (u : Int) => [(mo, .inr (8, [.int (iZ 0), .int (iZ (np : Int)), .ref ow, .ref om, .ref ok_, .ref oK, .ref og, .ref on_, .ref oh, .ref ox, .int qn, .int qf, .ref op_, .int ql])), (ow, .inl (cI, 108000, .inl fx5)), (om, .inl (cI, 9, .inl fy5))])) (As := [.int (iZ 0), .int (iZ 1)]) (rest := [.int (iZ ((bl (tv a) : Int) - (bl (bv a) : Int) - (pb : Int)))]) K hP hD hK hS hA hl.1 (c_Mo_order l D mo (iZ 0) np ow om ok_ oK og on_ oh ox qn qf op_ ql fx5 fy5 cI v5 0 1 H.size w5 (by omega) (by omega)) [5, 6, 7] [0, 1, 2, 3, 4] [0] rfl rfl rfl (by decide) (by decide) (by decide) 0 rfl rfl (big_in mw_1270 rfl) (big_in mw_10 rfl) (big_in mw_1267 rfl) (big_in mw_1269 rfl) (big_in sp_37 rfl) rfl rfl (by decide +kernel) ⟨by rw [hR]; exact Nat.le_of_ble_eq_true rfl, by rw [hR]; exact Nat.le_of_ble_eq_true rfl⟩ rfl (Nat.le_of_ble_eq_true rfl) d_Mo_round_131 ⟨by rw [hR]; exact Nat.le_of_ble_eq_true rfl, by rw [hR]; exact Nat.le_of_ble_eq_true rfl⟩ rfl (fun v u H locs hp17 hP hD hS _ => ?_)
              obtain ⟨rc, rfl⟩ : ∃ z, z = u := ⟨_, rfl⟩
              obtain ⟨rfl, gq⟩ := hp17
              have hP : va_P D cls0 [(og, .inl (cI, 32, .inl fs)), (on_, .inl (cI, 32, .inl fn)), (ok_, .inl (cI, 166400, .inl fk)), (oK, .inl (cI, 64, .inl fK)), (oh, .inl (cI, 10000, .inl fh4)), (mo, .inr (8, [.int (iZ 0), .int (iZ (np : Int)), .ref ow, .ref om, .ref ok_, .ref oK, .ref og, .ref on_, .ref oh, .ref ox, .int qn, .int qf, .ref op_, .int ql])), (ow, .inl (cI, 108000, .inl fx5)), (om, .inl (cI, 9, .inl fy5))] H := hP
              have hD : va_D A [(og, .inl (cI, 32, .inl fs)), (on_, .inl (cI, 32, .inl fn)), (ok_, .inl (cI, 166400, .inl fk)), (oK, .inl (cI, 64, .inl fK)), (oh, .inl (cI, 10000, .inl fh4)), (mo, .inr (8, [.int (iZ 0), .int (iZ (np : Int)), .ref ow, .ref om, .ref ok_, .ref oK, .ref og, .ref on_, .ref oh, .ref ox, .int qn, .int qf, .ref op_, .int ql])), (ow, .inl (cI, 108000, .inl fx5)), (om, .inl (cI, 9, .inl fy5))] := hD
              show W p l e R s m args below meth c H locs _ _ Q (F0 m 134 ls [.int (iZ rc), .int (iZ ((bl (tv a) : Int) - (bl (bv a) : Int) - (pb : Int)))])
              rw [z50, z51] at gq
              have t0 : (rc < 0 ↔ ((tv a * 2 ^ (bl (bv a) - bl (tv a)) : Nat) : Int) < ((bv a * 2 ^ (bl (tv a) - bl (bv a)) : Nat) : Int)) ∧ (-1 ≤ rc ∧ rc ≤ 1) := by rw [gq]; exact ⟨cmpZ_lt, cmpZ_r _ _⟩
              clear gq
              have xs : (rc < 0 ∧ xE (tv a) (bv a) = (bl (tv a) : Int) - (bl (bv a) : Int) - 1) ∨ (0 ≤ rc ∧ xE (tv a) (bv a) = (bl (tv a) : Int) - (bl (bv a) : Int)) := by unfold xE; by_cases z : tv a * 2 ^ (bl (bv a) - bl (tv a)) < bv a * 2 ^ (bl (tv a) - bl (bv a)); (left; rw [if_pos z]; omega); (right; rw [if_neg z]; omega)
              have trc := t0.2
              clear t0
              refine zz_if_lt (tgt := 141) hx hb d_Mo_round_134 (by decide) (by omega) (fun c134 => ?_) (fun c134 => ?_)
              · refine lv_iconst (v := iZ (0)) hx hb d_Mo_round_141 (by decide +kernel) ?_
                refine zz_iadd hx hb d_Mo_round_142 ?_
                refine lv_istore (lv' := [(4, .int (iZ ((bl (tv a) : Int) - (bl (bv a) : Int) - (pb : Int) + 0))), (5, .int (iZ ((bl (tv a) : Int) - (bl (bv a) : Int) - (pb : Int) + (pb : Int)))), (0, .ref mo), (1, .int (iZ (to : Int))), (2, .int (iZ (a : Int))), (3, .int (iZ (pb : Int)))]) hx hb d_Mo_round_143 hl (by decide) rfl (fun ls hl => ?_)
                refine lv_aload_n hx hb d_Mo_round_145 rfl (lv_at hl 2 rfl) ?_
                refine lv_iload_n hx hb d_Mo_round_146 rfl (lv_at hl 3 rfl) ?_
                refine lv_iload_n hx hb d_Mo_round_147 rfl (lv_at hl 4 rfl) ?_
                refine lv_iload hx hb d_Mo_round_148 (lv_at hl 0 rfl) ?_
                rw [show ((bl (tv a) : Int) - (bl (bv a) : Int) - (pb : Int) + 0 : Int) = -(E : Int) by omega]
                refine cv (n := 3) (wr := []) (w1 := (fun (u : (Nat → Int32) × (Nat → Int32) × (Nat → Int32) × (Nat → Int32) × (Nat → Int32) × (Nat → Int32) × (Nat → Int32) × (Nat → Nat)) => [(mo, .inr (8, [.int (iZ 0), .int (iZ (np : Int)), .ref ow, .ref om, .ref ok_, .ref oK, .ref og, .ref on_, .ref oh, .ref ox, .int qn, .int qf, .ref op_, .int ql])), (ow, .inl (cI, 108000, .inl u.1)), (om, .inl (cI, 9, .inl u.2.1)), (oh, .inl (cI, 10000, .inl u.2.2.1)), (ok_, .inl (cI, 166400, .inl u.2.2.2.1)), (oK, .inl (cI, 64, .inl u.2.2.2.2.1)), (og, .inl (cI, 32, .inl u.2.2.2.2.2.1)), (on_, .inl (cI, 32, .inl u.2.2.2.2.2.2.1))])) (As := [.int (iZ (to : Int)), .int (iZ (a : Int)), .int (iZ (-(E : Int)))]) (rest := []) K hP hD hK hS hA hl.1 (c_Mo_multipleDn l D mo (iZ 0) np ow om ok_ oK og on_ oh ox qn qf op_ ql fx5 fy5 cI fh4 fk fK fs fn v5 tv bv sg to a E H.size w5 hMR hnd hnp J hbv t1 t2 hE hE0 hfit) [5, 6, 7, 4, 2, 3, 0, 1] [] [0] rfl rfl rfl (by decide) (by decide) (by decide) 0 rfl rfl (big_in mw_1329 rfl) (big_in mw_10 rfl) (big_in mw_1326 rfl) (big_in mw_1328 rfl) (big_in sp_44 rfl) rfl rfl (by decide +kernel) ⟨by rw [hR]; exact Nat.le_of_ble_eq_true rfl, by rw [hR]; exact Nat.le_of_ble_eq_true rfl⟩ rfl (Nat.le_of_ble_eq_true rfl) d_Mo_round_150 ⟨by rw [hR]; exact Nat.le_of_ble_eq_true rfl, by rw [hR]; exact Nat.le_of_ble_eq_true rfl⟩ rfl (fun v u H locs hp18 hP hD hS _ => ?_)
                obtain ⟨fa, fb, fc, fd, fe, ff, fg, v9⟩ := u
                try dsimp only at hp18
                obtain ⟨rfl, w9, q9⟩ := hp18
                have hP : va_P D cls0 [(mo, .inr (8, [.int (iZ 0), .int (iZ (np : Int)), .ref ow, .ref om, .ref ok_, .ref oK, .ref og, .ref on_, .ref oh, .ref ox, .int qn, .int qf, .ref op_, .int ql])), (ow, .inl (cI, 108000, .inl fa)), (om, .inl (cI, 9, .inl fb)), (oh, .inl (cI, 10000, .inl fc)), (ok_, .inl (cI, 166400, .inl fd)), (oK, .inl (cI, 64, .inl fe)), (og, .inl (cI, 32, .inl ff)), (on_, .inl (cI, 32, .inl fg))] H := hP
                have hD : va_D A [(mo, .inr (8, [.int (iZ 0), .int (iZ (np : Int)), .ref ow, .ref om, .ref ok_, .ref oK, .ref og, .ref on_, .ref oh, .ref ox, .int qn, .int qf, .ref op_, .int ql])), (ow, .inl (cI, 108000, .inl fa)), (om, .inl (cI, 9, .inl fb)), (oh, .inl (cI, 10000, .inl fc)), (ok_, .inl (cI, 166400, .inl fd)), (oK, .inl (cI, 64, .inl fe)), (og, .inl (cI, 32, .inl ff)), (on_, .inl (cI, 32, .inl fg))] := hD
                show W p l e R s m args below meth c H locs _ _ Q (F0 m 153 ls [.int (iZ ((lm (rdN (nmQ (tv a * 2 ^ E) (bv a)) (2 ^ E)) : Int) + (lm (rdD (nmQ (tv a * 2 ^ E) (bv a)) (2 ^ E)) : Int)))])
                have hP9 : va_P D cls0 [(mo, .inr (8, [.int (iZ 0), .int (iZ (np : Int)), .ref ow, .ref om, .ref ok_, .ref oK, .ref og, .ref on_, .ref oh, .ref ox, .int qn, .int qf, .ref op_, .int ql])), (ow, .inl (cI, 108000, .inl fa)), (om, .inl (cI, 9, .inl fb)), (oh, .inl (cI, 10000, .inl fc)), (ok_, .inl (cI, 166400, .inl fd)), (oK, .inl (cI, 64, .inl fe)), (og, .inl (cI, 32, .inl ff)), (on_, .inl (cI, 32, .inl fg))] H := hP.sub [0, 1, 2, 3, 4, 5, 6, 7] rfl
                have hD9 : va_D A [(mo, .inr (8, [.int (iZ 0), .int (iZ (np : Int)), .ref ow, .ref om, .ref ok_, .ref oK, .ref og, .ref on_, .ref oh, .ref ox, .int qn, .int qf, .ref op_, .int ql])), (ow, .inl (cI, 108000, .inl fa)), (om, .inl (cI, 9, .inl fb)), (oh, .inl (cI, 10000, .inl fc)), (ok_, .inl (cI, 166400, .inl fd)), (oK, .inl (cI, 64, .inl fe)), (og, .inl (cI, 32, .inl ff)), (on_, .inl (cI, 32, .inl fg))] := hD.sub [0, 1, 2, 3, 4, 5, 6, 7] (by decide) rfl
                rw [hQ, ← hAe]
                refine r_i (v := (iZ ((lm (rdN (nmQ (tv a * 2 ^ E) (bv a)) (2 ^ E)) : Int) + (lm (rdD (nmQ (tv a * 2 ^ E) (bv a)) (2 ^ E)) : Int)))) K (fa, fb, fc, fd, fe, ff, fg, v9) hS d_Mo_round_153 ?_ (fun t ht hv => ?_)
                · exact ⟨rfl, w9, q9⟩
                · exact ⟨by rw [ht]; exact hP9, va_K.moved hv hK, by rw [← hAe]; exact hD9⟩
              · refine lv_iconst (v := iZ (1)) hx hb d_Mo_round_137 (by decide +kernel) ?_
                refine lv_goto (tgt := 142) hx hb d_Mo_round_138 (by decide) ?_
                refine zz_iadd hx hb d_Mo_round_142 ?_
                refine lv_istore (lv' := [(4, .int (iZ ((bl (tv a) : Int) - (bl (bv a) : Int) - (pb : Int) + 1))), (5, .int (iZ ((bl (tv a) : Int) - (bl (bv a) : Int) - (pb : Int) + (pb : Int)))), (0, .ref mo), (1, .int (iZ (to : Int))), (2, .int (iZ (a : Int))), (3, .int (iZ (pb : Int)))]) hx hb d_Mo_round_143 hl (by decide) rfl (fun ls hl => ?_)
                refine lv_aload_n hx hb d_Mo_round_145 rfl (lv_at hl 2 rfl) ?_
                refine lv_iload_n hx hb d_Mo_round_146 rfl (lv_at hl 3 rfl) ?_
                refine lv_iload_n hx hb d_Mo_round_147 rfl (lv_at hl 4 rfl) ?_
                refine lv_iload hx hb d_Mo_round_148 (lv_at hl 0 rfl) ?_
                rw [show ((bl (tv a) : Int) - (bl (bv a) : Int) - (pb : Int) + 1 : Int) = -(E : Int) by omega]
                refine cv (n := 3) (wr := []) (w1 := (fun (u : (Nat → Int32) × (Nat → Int32) × (Nat → Int32) × (Nat → Int32) × (Nat → Int32) × (Nat → Int32) × (Nat → Int32) × (Nat → Nat)) => [(mo, .inr (8, [.int (iZ 0), .int (iZ (np : Int)), .ref ow, .ref om, .ref ok_, .ref oK, .ref og, .ref on_, .ref oh, .ref ox, .int qn, .int qf, .ref op_, .int ql])), (ow, .inl (cI, 108000, .inl u.1)), (om, .inl (cI, 9, .inl u.2.1)), (oh, .inl (cI, 10000, .inl u.2.2.1)), (ok_, .inl (cI, 166400, .inl u.2.2.2.1)), (oK, .inl (cI, 64, .inl u.2.2.2.2.1)), (og, .inl (cI, 32, .inl u.2.2.2.2.2.1)), (on_, .inl (cI, 32, .inl u.2.2.2.2.2.2.1))])) (As := [.int (iZ (to : Int)), .int (iZ (a : Int)), .int (iZ (-(E : Int)))]) (rest := []) K hP hD hK hS hA hl.1 (c_Mo_multipleDn l D mo (iZ 0) np ow om ok_ oK og on_ oh ox qn qf op_ ql fx5 fy5 cI fh4 fk fK fs fn v5 tv bv sg to a E H.size w5 hMR hnd hnp J hbv t1 t2 hE hE0 hfit) [5, 6, 7, 4, 2, 3, 0, 1] [] [0] rfl rfl rfl (by decide) (by decide) (by decide) 0 rfl rfl (big_in mw_1329 rfl) (big_in mw_10 rfl) (big_in mw_1326 rfl) (big_in mw_1328 rfl) (big_in sp_44 rfl) rfl rfl (by decide +kernel) ⟨by rw [hR]; exact Nat.le_of_ble_eq_true rfl, by rw [hR]; exact Nat.le_of_ble_eq_true rfl⟩ rfl (Nat.le_of_ble_eq_true rfl) d_Mo_round_150 ⟨by rw [hR]; exact Nat.le_of_ble_eq_true rfl, by rw [hR]; exact Nat.le_of_ble_eq_true rfl⟩ rfl (fun v u H locs hp19 hP hD hS _ => ?_)
                obtain ⟨fa, fb, fc, fd, fe, ff, fg, v9⟩ := u
                try dsimp only at hp19
                obtain ⟨rfl, w9, q9⟩ := hp19
                have hP : va_P D cls0 [(mo, .inr (8, [.int (iZ 0), .int (iZ (np : Int)), .ref ow, .ref om, .ref ok_, .ref oK, .ref og, .ref on_, .ref oh, .ref ox, .int qn, .int qf, .ref op_, .int ql])), (ow, .inl (cI, 108000, .inl fa)), (om, .inl (cI, 9, .inl fb)), (oh, .inl (cI, 10000, .inl fc)), (ok_, .inl (cI, 166400, .inl fd)), (oK, .inl (cI, 64, .inl fe)), (og, .inl (cI, 32, .inl ff)), (on_, .inl (cI, 32, .inl fg))] H := hP
                have hD : va_D A [(mo, .inr (8, [.int (iZ 0), .int (iZ (np : Int)), .ref ow, .ref om, .ref ok_, .ref oK, .ref og, .ref on_, .ref oh, .ref ox, .int qn, .int qf, .ref op_, .int ql])), (ow, .inl (cI, 108000, .inl fa)), (om, .inl (cI, 9, .inl fb)), (oh, .inl (cI, 10000, .inl fc)), (ok_, .inl (cI, 166400, .inl fd)), (oK, .inl (cI, 64, .inl fe)), (og, .inl (cI, 32, .inl ff)), (on_, .inl (cI, 32, .inl fg))] := hD
                show W p l e R s m args below meth c H locs _ _ Q (F0 m 153 ls [.int (iZ ((lm (rdN (nmQ (tv a * 2 ^ E) (bv a)) (2 ^ E)) : Int) + (lm (rdD (nmQ (tv a * 2 ^ E) (bv a)) (2 ^ E)) : Int)))])
                have hP9 : va_P D cls0 [(mo, .inr (8, [.int (iZ 0), .int (iZ (np : Int)), .ref ow, .ref om, .ref ok_, .ref oK, .ref og, .ref on_, .ref oh, .ref ox, .int qn, .int qf, .ref op_, .int ql])), (ow, .inl (cI, 108000, .inl fa)), (om, .inl (cI, 9, .inl fb)), (oh, .inl (cI, 10000, .inl fc)), (ok_, .inl (cI, 166400, .inl fd)), (oK, .inl (cI, 64, .inl fe)), (og, .inl (cI, 32, .inl ff)), (on_, .inl (cI, 32, .inl fg))] H := hP.sub [0, 1, 2, 3, 4, 5, 6, 7] rfl
                have hD9 : va_D A [(mo, .inr (8, [.int (iZ 0), .int (iZ (np : Int)), .ref ow, .ref om, .ref ok_, .ref oK, .ref og, .ref on_, .ref oh, .ref ox, .int qn, .int qf, .ref op_, .int ql])), (ow, .inl (cI, 108000, .inl fa)), (om, .inl (cI, 9, .inl fb)), (oh, .inl (cI, 10000, .inl fc)), (ok_, .inl (cI, 166400, .inl fd)), (oK, .inl (cI, 64, .inl fe)), (og, .inl (cI, 32, .inl ff)), (on_, .inl (cI, 32, .inl fg))] := hD.sub [0, 1, 2, 3, 4, 5, 6, 7] (by decide) rfl
                rw [hQ, ← hAe]
                refine r_i (v := (iZ ((lm (rdN (nmQ (tv a * 2 ^ E) (bv a)) (2 ^ E)) : Int) + (lm (rdD (nmQ (tv a * 2 ^ E) (bv a)) (2 ^ E)) : Int)))) K (fa, fb, fc, fd, fe, ff, fg, v9) hS d_Mo_round_153 ?_ (fun t ht hv => ?_)
                · exact ⟨rfl, w9, q9⟩
                · exact ⟨by rw [ht]; exact hP9, va_K.moved hv hK, by rw [← hAe]; exact hD9⟩
            · refine lv_iload hx hb d_Mo_round_115 (lv_at hl 0 rfl) ?_
              refine zz_ineg hx hb d_Mo_round_117 ?_
              refine lv_goto (tgt := 123) hx hb d_Mo_round_118 (by decide) ?_
              rw [show (-((bl (tv a) : Int) - (bl (bv a) : Int) - (pb : Int) + (pb : Int)) : Int) = ((bl (bv a) - bl (tv a) : Nat) : Int) by omega]
              refine cv (n := 2) (wr := [(og, .inl (cI, 32, .inl fs)), (on_, .inl (cI, 32, .inl fn)), (ok_, .inl (cI, 166400, .inl fk)), (oK, .inl (cI, 64, .inl fK)), (oh, .inl (cI, 10000, .inl fh4))]) (w1 := (fun (u : (Nat → Int32) × (Nat → Int32)) => [(mo, .inr (8, [.int (iZ 0), .int (iZ (np : Int)), .ref ow, .ref om, .ref ok_, .ref oK, .ref og, .ref on_, .ref oh, .ref ox, .int qn, .int qf, .ref op_, .int ql])), (ow, .inl (cI, 108000, .inl u.1)), (om, .inl (cI, 9, .inl u.2))])) (As := [.int (iZ 0), .int (iZ ((bl (bv a) - bl (tv a) : Nat) : Int))]) (rest := []) K hP hD hK hS hA hl.1 (c_Mo_doubled l D mo (iZ 0) np ow om ok_ oK og on_ oh ox qn qf op_ ql fx4 fy4 cI v4 0 (bl (bv a) - bl (tv a)) H.size w4 (by decide) (by omega) (by rw [z40]; have z := nd_shl (tv a) (bl (bv a) - bl (tv a)); omega)) [4, 5, 6] [0, 1, 2, 3, 7] [0] rfl rfl rfl (by decide) (by decide) (by decide) 0 rfl rfl (big_in mw_1320 rfl) (big_in mw_10 rfl) (big_in mw_1317 rfl) (big_in mw_1319 rfl) (big_in sp_42 rfl) rfl rfl (by decide +kernel) ⟨by rw [hR]; exact Nat.le_of_ble_eq_true rfl, by rw [hR]; exact Nat.le_of_ble_eq_true rfl⟩ rfl (Nat.le_of_ble_eq_true rfl) d_Mo_round_123 ⟨by rw [hR]; exact Nat.le_of_ble_eq_true rfl, by rw [hR]; exact Nat.le_of_ble_eq_true rfl⟩ rfl (fun v u H locs hp20 hP hD hS _ => ?_)
              obtain ⟨fx5, fy5⟩ := u
              try dsimp only at hp20
              obtain ⟨rfl, w5⟩ := hp20
              have hP : va_P D cls0 [(og, .inl (cI, 32, .inl fs)), (on_, .inl (cI, 32, .inl fn)), (ok_, .inl (cI, 166400, .inl fk)), (oK, .inl (cI, 64, .inl fK)), (oh, .inl (cI, 10000, .inl fh4)), (mo, .inr (8, [.int (iZ 0), .int (iZ (np : Int)), .ref ow, .ref om, .ref ok_, .ref oK, .ref og, .ref on_, .ref oh, .ref ox, .int qn, .int qf, .ref op_, .int ql])), (ow, .inl (cI, 108000, .inl fx5)), (om, .inl (cI, 9, .inl fy5))] H := hP
              have hD : va_D A [(og, .inl (cI, 32, .inl fs)), (on_, .inl (cI, 32, .inl fn)), (ok_, .inl (cI, 166400, .inl fk)), (oK, .inl (cI, 64, .inl fK)), (oh, .inl (cI, 10000, .inl fh4)), (mo, .inr (8, [.int (iZ 0), .int (iZ (np : Int)), .ref ow, .ref om, .ref ok_, .ref oK, .ref og, .ref on_, .ref oh, .ref ox, .int qn, .int qf, .ref op_, .int ql])), (ow, .inl (cI, 108000, .inl fx5)), (om, .inl (cI, 9, .inl fy5))] := hD
              show W p l e R s m args below meth c H locs _ _ Q (F0 m 126 ls [])
              rw [z40] at w5
              obtain ⟨v5, hv5⟩ : ∃ z, z = up v4 0 (tv a * 2 ^ (bl (bv a) - bl (tv a))) := ⟨_, rfl⟩
              rw [← hv5] at w5
              have z50 : v5 0 = tv a * 2 ^ (bl (bv a) - bl (tv a)) := by rw [hv5, up_s]
              have z51 : v5 1 = bv a * 2 ^ (bl (tv a) - bl (bv a)) := by rw [hv5, up_n (by decide), z41, show bl (tv a) - bl (bv a) = 0 by omega, Nat.pow_zero, Nat.mul_one]
              refine lv_iload hx hb d_Mo_round_126 (lv_at hl 1 rfl) ?_
              refine lv_aload_n hx hb d_Mo_round_128 rfl (lv_at hl 2 rfl) ?_
              refine lv_iconst (v := iZ (0)) hx hb d_Mo_round_129 (by decide +kernel) ?_
              refine lv_iconst (v := iZ (1)) hx hb d_Mo_round_130 (by decide +kernel) ?_
              refine cv (n := 2) (wr := [(og, .inl (cI, 32, .inl fs)), (on_, .inl (cI, 32, .inl fn)), (ok_, .inl (cI, 166400, .inl fk)), (oK, .inl (cI, 64, .inl fK)), (oh, .inl (cI, 10000, .inl fh4))]) (w1 := (fun (u : Int) => [(mo, .inr (8, [.int (iZ 0), .int (iZ (np : Int)), .ref ow, .ref om, .ref ok_, .ref oK, .ref og, .ref on_, .ref oh, .ref ox, .int qn, .int qf, .ref op_, .int ql])), (ow, .inl (cI, 108000, .inl fx5)), (om, .inl (cI, 9, .inl fy5))])) (As := [.int (iZ 0), .int (iZ 1)]) (rest := [.int (iZ ((bl (tv a) : Int) - (bl (bv a) : Int) - (pb : Int)))]) K hP hD hK hS hA hl.1 (c_Mo_order l D mo (iZ 0) np ow om ok_ oK og on_ oh ox qn qf op_ ql fx5 fy5 cI v5 0 1 H.size w5 (by omega) (by omega)) [5, 6, 7] [0, 1, 2, 3, 4] [0] rfl rfl rfl (by decide) (by decide) (by decide) 0 rfl rfl (big_in mw_1270 rfl) (big_in mw_10 rfl) (big_in mw_1267 rfl) (big_in mw_1269 rfl) (big_in sp_37 rfl) rfl rfl (by decide +kernel) ⟨by rw [hR]; exact Nat.le_of_ble_eq_true rfl, by rw [hR]; exact Nat.le_of_ble_eq_true rfl⟩ rfl (Nat.le_of_ble_eq_true rfl) d_Mo_round_131 ⟨by rw [hR]; exact Nat.le_of_ble_eq_true rfl, by rw [hR]; exact Nat.le_of_ble_eq_true rfl⟩ rfl (fun v u H locs hp21 hP hD hS _ => ?_)
              obtain ⟨rc, rfl⟩ : ∃ z, z = u := ⟨_, rfl⟩
              obtain ⟨rfl, gq⟩ := hp21
              have hP : va_P D cls0 [(og, .inl (cI, 32, .inl fs)), (on_, .inl (cI, 32, .inl fn)), (ok_, .inl (cI, 166400, .inl fk)), (oK, .inl (cI, 64, .inl fK)), (oh, .inl (cI, 10000, .inl fh4)), (mo, .inr (8, [.int (iZ 0), .int (iZ (np : Int)), .ref ow, .ref om, .ref ok_, .ref oK, .ref og, .ref on_, .ref oh, .ref ox, .int qn, .int qf, .ref op_, .int ql])), (ow, .inl (cI, 108000, .inl fx5)), (om, .inl (cI, 9, .inl fy5))] H := hP
              have hD : va_D A [(og, .inl (cI, 32, .inl fs)), (on_, .inl (cI, 32, .inl fn)), (ok_, .inl (cI, 166400, .inl fk)), (oK, .inl (cI, 64, .inl fK)), (oh, .inl (cI, 10000, .inl fh4)), (mo, .inr (8, [.int (iZ 0), .int (iZ (np : Int)), .ref ow, .ref om, .ref ok_, .ref oK, .ref og, .ref on_, .ref oh, .ref ox, .int qn, .int qf, .ref op_, .int ql])), (ow, .inl (cI, 108000, .inl fx5)), (om, .inl (cI, 9, .inl fy5))] := hD
              show W p l e R s m args below meth c H locs _ _ Q (F0 m 134 ls [.int (iZ rc), .int (iZ ((bl (tv a) : Int) - (bl (bv a) : Int) - (pb : Int)))])
              rw [z50, z51] at gq
              have t0 : (rc < 0 ↔ ((tv a * 2 ^ (bl (bv a) - bl (tv a)) : Nat) : Int) < ((bv a * 2 ^ (bl (tv a) - bl (bv a)) : Nat) : Int)) ∧ (-1 ≤ rc ∧ rc ≤ 1) := by rw [gq]; exact ⟨cmpZ_lt, cmpZ_r _ _⟩
              clear gq
              have xs : (rc < 0 ∧ xE (tv a) (bv a) = (bl (tv a) : Int) - (bl (bv a) : Int) - 1) ∨ (0 ≤ rc ∧ xE (tv a) (bv a) = (bl (tv a) : Int) - (bl (bv a) : Int)) := by unfold xE; by_cases z : tv a * 2 ^ (bl (bv a) - bl (tv a)) < bv a * 2 ^ (bl (tv a) - bl (bv a)); (left; rw [if_pos z]; omega); (right; rw [if_neg z]; omega)
              have trc := t0.2
              clear t0
              refine zz_if_lt (tgt := 141) hx hb d_Mo_round_134 (by decide) (by omega) (fun c134 => ?_) (fun c134 => ?_)
              · refine lv_iconst (v := iZ (0)) hx hb d_Mo_round_141 (by decide +kernel) ?_
                refine zz_iadd hx hb d_Mo_round_142 ?_
                refine lv_istore (lv' := [(4, .int (iZ ((bl (tv a) : Int) - (bl (bv a) : Int) - (pb : Int) + 0))), (5, .int (iZ ((bl (tv a) : Int) - (bl (bv a) : Int) - (pb : Int) + (pb : Int)))), (0, .ref mo), (1, .int (iZ (to : Int))), (2, .int (iZ (a : Int))), (3, .int (iZ (pb : Int)))]) hx hb d_Mo_round_143 hl (by decide) rfl (fun ls hl => ?_)
                refine lv_aload_n hx hb d_Mo_round_145 rfl (lv_at hl 2 rfl) ?_
                refine lv_iload_n hx hb d_Mo_round_146 rfl (lv_at hl 3 rfl) ?_
                refine lv_iload_n hx hb d_Mo_round_147 rfl (lv_at hl 4 rfl) ?_
                refine lv_iload hx hb d_Mo_round_148 (lv_at hl 0 rfl) ?_
                rw [show ((bl (tv a) : Int) - (bl (bv a) : Int) - (pb : Int) + 0 : Int) = -(E : Int) by omega]
                refine cv (n := 3) (wr := []) (w1 := (fun (u : (Nat → Int32) × (Nat → Int32) × (Nat → Int32) × (Nat → Int32) × (Nat → Int32) × (Nat → Int32) × (Nat → Int32) × (Nat → Nat)) => [(mo, .inr (8, [.int (iZ 0), .int (iZ (np : Int)), .ref ow, .ref om, .ref ok_, .ref oK, .ref og, .ref on_, .ref oh, .ref ox, .int qn, .int qf, .ref op_, .int ql])), (ow, .inl (cI, 108000, .inl u.1)), (om, .inl (cI, 9, .inl u.2.1)), (oh, .inl (cI, 10000, .inl u.2.2.1)), (ok_, .inl (cI, 166400, .inl u.2.2.2.1)), (oK, .inl (cI, 64, .inl u.2.2.2.2.1)), (og, .inl (cI, 32, .inl u.2.2.2.2.2.1)), (on_, .inl (cI, 32, .inl u.2.2.2.2.2.2.1))])) (As := [.int (iZ (to : Int)), .int (iZ (a : Int)), .int (iZ (-(E : Int)))]) (rest := []) K hP hD hK hS hA hl.1 (c_Mo_multipleDn l D mo (iZ 0) np ow om ok_ oK og on_ oh ox qn qf op_ ql fx5 fy5 cI fh4 fk fK fs fn v5 tv bv sg to a E H.size w5 hMR hnd hnp J hbv t1 t2 hE hE0 hfit) [5, 6, 7, 4, 2, 3, 0, 1] [] [0] rfl rfl rfl (by decide) (by decide) (by decide) 0 rfl rfl (big_in mw_1329 rfl) (big_in mw_10 rfl) (big_in mw_1326 rfl) (big_in mw_1328 rfl) (big_in sp_44 rfl) rfl rfl (by decide +kernel) ⟨by rw [hR]; exact Nat.le_of_ble_eq_true rfl, by rw [hR]; exact Nat.le_of_ble_eq_true rfl⟩ rfl (Nat.le_of_ble_eq_true rfl) d_Mo_round_150 ⟨by rw [hR]; exact Nat.le_of_ble_eq_true rfl, by rw [hR]; exact Nat.le_of_ble_eq_true rfl⟩ rfl (fun v u H locs hp22 hP hD hS _ => ?_)
                obtain ⟨fa, fb, fc, fd, fe, ff, fg, v9⟩ := u
                try dsimp only at hp22
                obtain ⟨rfl, w9, q9⟩ := hp22
                have hP : va_P D cls0 [(mo, .inr (8, [.int (iZ 0), .int (iZ (np : Int)), .ref ow, .ref om, .ref ok_, .ref oK, .ref og, .ref on_, .ref oh, .ref ox, .int qn, .int qf, .ref op_, .int ql])), (ow, .inl (cI, 108000, .inl fa)), (om, .inl (cI, 9, .inl fb)), (oh, .inl (cI, 10000, .inl fc)), (ok_, .inl (cI, 166400, .inl fd)), (oK, .inl (cI, 64, .inl fe)), (og, .inl (cI, 32, .inl ff)), (on_, .inl (cI, 32, .inl fg))] H := hP
                have hD : va_D A [(mo, .inr (8, [.int (iZ 0), .int (iZ (np : Int)), .ref ow, .ref om, .ref ok_, .ref oK, .ref og, .ref on_, .ref oh, .ref ox, .int qn, .int qf, .ref op_, .int ql])), (ow, .inl (cI, 108000, .inl fa)), (om, .inl (cI, 9, .inl fb)), (oh, .inl (cI, 10000, .inl fc)), (ok_, .inl (cI, 166400, .inl fd)), (oK, .inl (cI, 64, .inl fe)), (og, .inl (cI, 32, .inl ff)), (on_, .inl (cI, 32, .inl fg))] := hD
                show W p l e R s m args below meth c H locs _ _ Q (F0 m 153 ls [.int (iZ ((lm (rdN (nmQ (tv a * 2 ^ E) (bv a)) (2 ^ E)) : Int) + (lm (rdD (nmQ (tv a * 2 ^ E) (bv a)) (2 ^ E)) : Int)))])
                have hP9 : va_P D cls0 [(mo, .inr (8, [.int (iZ 0), .int (iZ (np : Int)), .ref ow, .ref om, .ref ok_, .ref oK, .ref og, .ref on_, .ref oh, .ref ox, .int qn, .int qf, .ref op_, .int ql])), (ow, .inl (cI, 108000, .inl fa)), (om, .inl (cI, 9, .inl fb)), (oh, .inl (cI, 10000, .inl fc)), (ok_, .inl (cI, 166400, .inl fd)), (oK, .inl (cI, 64, .inl fe)), (og, .inl (cI, 32, .inl ff)), (on_, .inl (cI, 32, .inl fg))] H := hP.sub [0, 1, 2, 3, 4, 5, 6, 7] rfl
                have hD9 : va_D A [(mo, .inr (8, [.int (iZ 0), .int (iZ (np : Int)), .ref ow, .ref om, .ref ok_, .ref oK, .ref og, .ref on_, .ref oh, .ref ox, .int qn, .int qf, .ref op_, .int ql])), (ow, .inl (cI, 108000, .inl fa)), (om, .inl (cI, 9, .inl fb)), (oh, .inl (cI, 10000, .inl fc)), (ok_, .inl (cI, 166400, .inl fd)), (oK, .inl (cI, 64, .inl fe)), (og, .inl (cI, 32, .inl ff)), (on_, .inl (cI, 32, .inl fg))] := hD.sub [0, 1, 2, 3, 4, 5, 6, 7] (by decide) rfl
                rw [hQ, ← hAe]
                refine r_i (v := (iZ ((lm (rdN (nmQ (tv a * 2 ^ E) (bv a)) (2 ^ E)) : Int) + (lm (rdD (nmQ (tv a * 2 ^ E) (bv a)) (2 ^ E)) : Int)))) K (fa, fb, fc, fd, fe, ff, fg, v9) hS d_Mo_round_153 ?_ (fun t ht hv => ?_)
                · exact ⟨rfl, w9, q9⟩
                · exact ⟨by rw [ht]; exact hP9, va_K.moved hv hK, by rw [← hAe]; exact hD9⟩
              · refine lv_iconst (v := iZ (1)) hx hb d_Mo_round_137 (by decide +kernel) ?_
                refine lv_goto (tgt := 142) hx hb d_Mo_round_138 (by decide) ?_
                refine zz_iadd hx hb d_Mo_round_142 ?_
                refine lv_istore (lv' := [(4, .int (iZ ((bl (tv a) : Int) - (bl (bv a) : Int) - (pb : Int) + 1))), (5, .int (iZ ((bl (tv a) : Int) - (bl (bv a) : Int) - (pb : Int) + (pb : Int)))), (0, .ref mo), (1, .int (iZ (to : Int))), (2, .int (iZ (a : Int))), (3, .int (iZ (pb : Int)))]) hx hb d_Mo_round_143 hl (by decide) rfl (fun ls hl => ?_)
                refine lv_aload_n hx hb d_Mo_round_145 rfl (lv_at hl 2 rfl) ?_
                refine lv_iload_n hx hb d_Mo_round_146 rfl (lv_at hl 3 rfl) ?_
                refine lv_iload_n hx hb d_Mo_round_147 rfl (lv_at hl 4 rfl) ?_
                refine lv_iload hx hb d_Mo_round_148 (lv_at hl 0 rfl) ?_
                rw [show ((bl (tv a) : Int) - (bl (bv a) : Int) - (pb : Int) + 1 : Int) = -(E : Int) by omega]
                refine cv (n := 3) (wr := []) (w1 := (fun (u : (Nat → Int32) × (Nat → Int32) × (Nat → Int32) × (Nat → Int32) × (Nat → Int32) × (Nat → Int32) × (Nat → Int32) × (Nat → Nat)) => [(mo, .inr (8, [.int (iZ 0), .int (iZ (np : Int)), .ref ow, .ref om, .ref ok_, .ref oK, .ref og, .ref on_, .ref oh, .ref ox, .int qn, .int qf, .ref op_, .int ql])), (ow, .inl (cI, 108000, .inl u.1)), (om, .inl (cI, 9, .inl u.2.1)), (oh, .inl (cI, 10000, .inl u.2.2.1)), (ok_, .inl (cI, 166400, .inl u.2.2.2.1)), (oK, .inl (cI, 64, .inl u.2.2.2.2.1)), (og, .inl (cI, 32, .inl u.2.2.2.2.2.1)), (on_, .inl (cI, 32, .inl u.2.2.2.2.2.2.1))])) (As := [.int (iZ (to : Int)), .int (iZ (a : Int)), .int (iZ (-(E : Int)))]) (rest := []) K hP hD hK hS hA hl.1 (c_Mo_multipleDn l D mo (iZ 0) np ow om ok_ oK og on_ oh ox qn qf op_ ql fx5 fy5 cI fh4 fk fK fs fn v5 tv bv sg to a E H.size w5 hMR hnd hnp J hbv t1 t2 hE hE0 hfit) [5, 6, 7, 4, 2, 3, 0, 1] [] [0] rfl rfl rfl (by decide) (by decide) (by decide) 0 rfl rfl (big_in mw_1329 rfl) (big_in mw_10 rfl) (big_in mw_1326 rfl) (big_in mw_1328 rfl) (big_in sp_44 rfl) rfl rfl (by decide +kernel) ⟨by rw [hR]; exact Nat.le_of_ble_eq_true rfl, by rw [hR]; exact Nat.le_of_ble_eq_true rfl⟩ rfl (Nat.le_of_ble_eq_true rfl) d_Mo_round_150 ⟨by rw [hR]; exact Nat.le_of_ble_eq_true rfl, by rw [hR]; exact Nat.le_of_ble_eq_true rfl⟩ rfl (fun v u H locs hp23 hP hD hS _ => ?_)
                obtain ⟨fa, fb, fc, fd, fe, ff, fg, v9⟩ := u
                try dsimp only at hp23
                obtain ⟨rfl, w9, q9⟩ := hp23
                have hP : va_P D cls0 [(mo, .inr (8, [.int (iZ 0), .int (iZ (np : Int)), .ref ow, .ref om, .ref ok_, .ref oK, .ref og, .ref on_, .ref oh, .ref ox, .int qn, .int qf, .ref op_, .int ql])), (ow, .inl (cI, 108000, .inl fa)), (om, .inl (cI, 9, .inl fb)), (oh, .inl (cI, 10000, .inl fc)), (ok_, .inl (cI, 166400, .inl fd)), (oK, .inl (cI, 64, .inl fe)), (og, .inl (cI, 32, .inl ff)), (on_, .inl (cI, 32, .inl fg))] H := hP
                have hD : va_D A [(mo, .inr (8, [.int (iZ 0), .int (iZ (np : Int)), .ref ow, .ref om, .ref ok_, .ref oK, .ref og, .ref on_, .ref oh, .ref ox, .int qn, .int qf, .ref op_, .int ql])), (ow, .inl (cI, 108000, .inl fa)), (om, .inl (cI, 9, .inl fb)), (oh, .inl (cI, 10000, .inl fc)), (ok_, .inl (cI, 166400, .inl fd)), (oK, .inl (cI, 64, .inl fe)), (og, .inl (cI, 32, .inl ff)), (on_, .inl (cI, 32, .inl fg))] := hD
                show W p l e R s m args below meth c H locs _ _ Q (F0 m 153 ls [.int (iZ ((lm (rdN (nmQ (tv a * 2 ^ E) (bv a)) (2 ^ E)) : Int) + (lm (rdD (nmQ (tv a * 2 ^ E) (bv a)) (2 ^ E)) : Int)))])
                have hP9 : va_P D cls0 [(mo, .inr (8, [.int (iZ 0), .int (iZ (np : Int)), .ref ow, .ref om, .ref ok_, .ref oK, .ref og, .ref on_, .ref oh, .ref ox, .int qn, .int qf, .ref op_, .int ql])), (ow, .inl (cI, 108000, .inl fa)), (om, .inl (cI, 9, .inl fb)), (oh, .inl (cI, 10000, .inl fc)), (ok_, .inl (cI, 166400, .inl fd)), (oK, .inl (cI, 64, .inl fe)), (og, .inl (cI, 32, .inl ff)), (on_, .inl (cI, 32, .inl fg))] H := hP.sub [0, 1, 2, 3, 4, 5, 6, 7] rfl
                have hD9 : va_D A [(mo, .inr (8, [.int (iZ 0), .int (iZ (np : Int)), .ref ow, .ref om, .ref ok_, .ref oK, .ref og, .ref on_, .ref oh, .ref ox, .int qn, .int qf, .ref op_, .int ql])), (ow, .inl (cI, 108000, .inl fa)), (om, .inl (cI, 9, .inl fb)), (oh, .inl (cI, 10000, .inl fc)), (ok_, .inl (cI, 166400, .inl fd)), (oK, .inl (cI, 64, .inl fe)), (og, .inl (cI, 32, .inl ff)), (on_, .inl (cI, 32, .inl fg))] := hD.sub [0, 1, 2, 3, 4, 5, 6, 7] (by decide) rfl
                rw [hQ, ← hAe]
                refine r_i (v := (iZ ((lm (rdN (nmQ (tv a * 2 ^ E) (bv a)) (2 ^ E)) : Int) + (lm (rdD (nmQ (tv a * 2 ^ E) (bv a)) (2 ^ E)) : Int)))) K (fa, fb, fc, fd, fe, ff, fg, v9) hS d_Mo_round_153 ?_ (fun t ht hv => ?_)
                · exact ⟨rfl, w9, q9⟩
                · exact ⟨by rw [ht]; exact hP9, va_K.moved hv hK, by rw [← hAe]; exact hD9⟩
        · refine lv_iconst (v := iZ (2)) hx hb d_Mo_round_31 (by decide +kernel) ?_
          refine lv_goto (tgt := 36) hx hb d_Mo_round_32 (by decide) ?_
          exfalso
          omega
    · refine lv_iconst (v := iZ (1)) hx hb d_Mo_round_15 (by decide +kernel) ?_
      refine lv_goto (tgt := 36) hx hb d_Mo_round_16 (by decide) ?_
      exfalso
      omega
set_option maxHeartbeats 4000000 in
set_option maxRecDepth 100000 in
theorem f_Mo_roundDn (l : Launch) (D : va_G) (mo : Nat) (qc : Int32) (np : Nat) (ow : Nat) (om : Nat) (ok_ : Nat) (oK : Nat) (og : Nat) (on_ : Nat) (oh : Nat) (ox : Nat) (qn : Int32) (qf : Int32) (op_ : Nat) (ql : Int32) (fw : Nat → Int32) (fm : Nat → Int32) (cI : ClassId) (fh : Nat → Int32) (fk : Nat → Int32) (fK : Nat → Int32) (fs : Nat → Int32) (fn : Nat → Int32) (val : Nat → Nat) (tv : Nat → Nat) (bv : Nat → Nat) (sg : Nat → Int) (to : Nat) (a : Nat) (pb : Nat) (E : Nat) (sz : Nat) (hW : WB fw fm val) (hMR : MoR fk fK fs fn tv bv sg) (hnd : ndS tv bv 32 ≤ np) (hnp : np ≤ 1024) (J : RgC tv bv sg) (hbv : ∀ r, r < 32 → 0 < bv r) (t1 : to < 32) (t2 : a < 32) (hpb : 0 < pb ∧ pb ≤ 1024) (hs0 : sg a ≠ 0) (hEx : xE (tv a) (bv a) - (pb : Int) + 1 = -(E : Int)) (hE0 : 0 < E) (hfit : np + (lm (tv to) + lm (bv to)) < ndS tv bv 32 + (lm (rdN (nmQ (tv a * 2 ^ E) (bv a)) (2 ^ E)) + lm (rdD (nmQ (tv a * 2 ^ E) (bv a)) (2 ^ E)))) : Met l y_Mo_round (wsB y_Mo_round b_Mo_round 6 (some .int)) ({ frames := 6, cells := 0, slots := 0, locals := 148 }) (va_Pc [.ref mo, .int (iZ (to : Int)), .int (iZ (a : Int)), .int (iZ (pb : Int))] (wPre D [(cI, .int)] [(mo, .inr (8, [.int qc, .int (iZ (np : Int)), .ref ow, .ref om, .ref ok_, .ref oK, .ref og, .ref on_, .ref oh, .ref ox, .int qn, .int qf, .ref op_, .int ql])), (ow, .inl (cI, 108000, .inl fw)), (om, .inl (cI, 9, .inl fm)), (oh, .inl (cI, 10000, .inl fh)), (ok_, .inl (cI, 166400, .inl fk)), (oK, .inl (cI, 64, .inl fK)), (og, .inl (cI, 32, .inl fs)), (on_, .inl (cI, 32, .inl fn))] sz)) (va_QV (fun (v_9 : Option Value) (u_9 : (Nat → Int32) × (Nat → Int32) × (Nat → Int32) × (Nat → Nat)) => v_9 = some (.int (iZ 0)) ∧ (WB u_9.1 u_9.2.1 u_9.2.2.2)) (fun u_9 => wPost D [(cI, .int)] [(mo, .inr (8, [.int qc, .int (iZ (np : Int)), .ref ow, .ref om, .ref ok_, .ref oK, .ref og, .ref on_, .ref oh, .ref ox, .int qn, .int qf, .ref op_, .int ql])), (ow, .inl (cI, 108000, .inl fw)), (om, .inl (cI, 9, .inl fm)), (oh, .inl (cI, 10000, .inl fh)), (ok_, .inl (cI, 166400, .inl fk)), (oK, .inl (cI, 64, .inl fK)), (og, .inl (cI, 32, .inl fs)), (on_, .inl (cI, 32, .inl fn))] [(mo, .inr (8, [.int (iZ 3), .int (iZ (np : Int)), .ref ow, .ref om, .ref ok_, .ref oK, .ref og, .ref on_, .ref oh, .ref ox, .int qn, .int qf, .ref op_, .int ql])), (ow, .inl (cI, 108000, .inl u_9.1)), (om, .inl (cI, 9, .inl u_9.2.1)), (oh, .inl (cI, 10000, .inl u_9.2.2.1)), (ok_, .inl (cI, 166400, .inl fk)), (oK, .inl (cI, 64, .inl fK)), (og, .inl (cI, 32, .inl fs)), (on_, .inl (cI, 32, .inl fn))] sz) (va_A [(mo, .inr (8, [.int qc, .int (iZ (np : Int)), .ref ow, .ref om, .ref ok_, .ref oK, .ref og, .ref on_, .ref oh, .ref ox, .int qn, .int qf, .ref op_, .int ql])), (ow, .inl (cI, 108000, .inl fw)), (om, .inl (cI, 9, .inl fm)), (oh, .inl (cI, 10000, .inl fh)), (ok_, .inl (cI, 166400, .inl fk)), (oK, .inl (cI, 64, .inl fK)), (og, .inl (cI, 32, .inl fs)), (on_, .inl (cI, 32, .inl fn))] sz)) 0 0 (va_A [(mo, .inr (8, [.int qc, .int (iZ (np : Int)), .ref ow, .ref om, .ref ok_, .ref oK, .ref og, .ref on_, .ref oh, .ref ox, .int qn, .int qf, .ref op_, .int ql])), (ow, .inl (cI, 108000, .inl fw)), (om, .inl (cI, 9, .inl fm)), (oh, .inl (cI, 10000, .inl fh)), (ok_, .inl (cI, 166400, .inl fk)), (oK, .inl (cI, 64, .inl fK)), (og, .inl (cI, 32, .inl fs)), (on_, .inl (cI, 32, .inl fn))] sz) := by
  refine met_enter (by decide +kernel) (Nat.le_of_ble_eq_true rfl) ?_
  intro p e s m args below meth c ls A R Q H locs K hin hAe hA hR hQ hP hK hD hS hl
  obtain ⟨hx, hb, hml, hrt, hlk, hts, hown, hno⟩ := id K
  have hl : lv_has ls 6 [(0, .ref mo), (1, .int (iZ (to : Int))), (2, .int (iZ (a : Int))), (3, .int (iZ (pb : Int)))] := hl
  have hlr : ∀ q, q < 32 → lm (tv q) + lm (bv q) ≤ 1024 := fun q hq => by have z := ndS_le (tv := tv) (bv := bv) hq; omega
  have hnt : ∀ q, q < 32 → nd (tv q) ≤ 2600 := fun q hq => by have z := nd_lm (v := tv q) (L := 1024) (by have y := hlr q hq; omega); omega
  have hnb : ∀ q, q < 32 → nd (bv q) ≤ 2600 := fun q hq => by have z := nd_lm (v := bv q) (L := 1024) (by have y := hlr q hq; omega); omega
  obtain ⟨ja1, ja2, ja3⟩ := J a (by omega)
  have pa := hbv a (by omega)
  have la := hlr a (by omega)
  have n1 := hnt a (by omega)
  have n2 := hnb a (by omega)
  have xb := xE_b (tv a) (bv a)
  have bb1 := bl_le_lm (tv a)
  have bb2 := bl_le_lm (bv a)
  have hE : E ≤ 34000 := by omega
  refine lv_aload_n hx hb d_Mo_round_0 rfl (lv_at hl 0 rfl) ?_
  refine lv_iload_n hx hb d_Mo_round_1 rfl (lv_at hl 1 rfl) ?_
  refine cs (n := 1) (wr := [(mo, .inr (8, [.int qc, .int (iZ (np : Int)), .ref ow, .ref om, .ref ok_, .ref oK, .ref og, .ref on_, .ref oh, .ref ox, .int qn, .int qf, .ref op_, .int ql])), (ow, .inl (cI, 108000, .inl fw)), (om, .inl (cI, 9, .inl fm)), (oh, .inl (cI, 10000, .inl fh)), (ok_, .inl (cI, 166400, .inl fk)), (oK, .inl (cI, 64, .inl fK)), (og, .inl (cI, 32, .inl fs)), (on_, .inl (cI, 32, .inl fn))]) (w1 := (fun (u : Int) => [])) (As := [.int (iZ (to : Int))]) (rest := [.ref mo]) K hP hD hK hS hA hl.1 (c_Mo_isRegister l D (to : Int) H.size (by omega)) [] [0, 1, 2, 3, 4, 5, 6, 7] [] rfl rfl rfl (by decide) (by decide) (by decide) (big_in mw_1172 rfl) (big_in mw_10 rfl) (big_in mw_1170 rfl) (big_in mw_1171 rfl) rfl rfl (by decide +kernel) ⟨by rw [hR]; exact Nat.le_of_ble_eq_true rfl, by rw [hR]; exact Nat.le_of_ble_eq_true rfl⟩ rfl (Nat.le_of_ble_eq_true rfl) d_Mo_round_2 ⟨by rw [hR]; exact Nat.le_of_ble_eq_true rfl, by rw [hR]; exact Nat.le_of_ble_eq_true rfl⟩ rfl (fun v u H locs hp1 hP hD hS _ => ?_)
  obtain ⟨r2, rfl⟩ : ∃ z, z = u := ⟨_, rfl⟩
  obtain ⟨rfl, p2⟩ := hp1
  have hP : va_P D cls0 [(mo, .inr (8, [.int qc, .int (iZ (np : Int)), .ref ow, .ref om, .ref ok_, .ref oK, .ref og, .ref on_, .ref oh, .ref ox, .int qn, .int qf, .ref op_, .int ql])), (ow, .inl (cI, 108000, .inl fw)), (om, .inl (cI, 9, .inl fm)), (oh, .inl (cI, 10000, .inl fh)), (ok_, .inl (cI, 166400, .inl fk)), (oK, .inl (cI, 64, .inl fK)), (og, .inl (cI, 32, .inl fs)), (on_, .inl (cI, 32, .inl fn))] H := hP
  have hD : va_D A [(mo, .inr (8, [.int qc, .int (iZ (np : Int)), .ref ow, .ref om, .ref ok_, .ref oK, .ref og, .ref on_, .ref oh, .ref ox, .int qn, .int qf, .ref op_, .int ql])), (ow, .inl (cI, 108000, .inl fw)), (om, .inl (cI, 9, .inl fm)), (oh, .inl (cI, 10000, .inl fh)), (ok_, .inl (cI, 166400, .inl fk)), (oK, .inl (cI, 64, .inl fK)), (og, .inl (cI, 32, .inl fs)), (on_, .inl (cI, 32, .inl fn))] := hD
  show W p l e R s m args below meth c H locs _ _ Q (F0 m 5 ls [.int (iZ r2), .ref mo])
  have b2 : 0 ≤ r2 ∧ r2 ≤ 1 := by omega
  refine zz_if_eq (tgt := 15) hx hb d_Mo_round_5 (by decide) (by omega) (fun c5 => ?_) (fun c5 => ?_)
  · refine lv_iconst (v := iZ (1)) hx hb d_Mo_round_15 (by decide +kernel) ?_
    refine lv_goto (tgt := 36) hx hb d_Mo_round_16 (by decide) ?_
    exfalso
    omega
  · refine lv_iload_n hx hb d_Mo_round_8 rfl (lv_at hl 2 rfl) ?_
    refine cs (n := 1) (wr := [(mo, .inr (8, [.int qc, .int (iZ (np : Int)), .ref ow, .ref om, .ref ok_, .ref oK, .ref og, .ref on_, .ref oh, .ref ox, .int qn, .int qf, .ref op_, .int ql])), (ow, .inl (cI, 108000, .inl fw)), (om, .inl (cI, 9, .inl fm)), (oh, .inl (cI, 10000, .inl fh)), (ok_, .inl (cI, 166400, .inl fk)), (oK, .inl (cI, 64, .inl fK)), (og, .inl (cI, 32, .inl fs)), (on_, .inl (cI, 32, .inl fn))]) (w1 := (fun (u : Int) => [])) (As := [.int (iZ (a : Int))]) (rest := [.ref mo]) K hP hD hK hS hA hl.1 (c_Mo_isRegister l D (a : Int) H.size (by omega)) [] [0, 1, 2, 3, 4, 5, 6, 7] [] rfl rfl rfl (by decide) (by decide) (by decide) (big_in mw_1172 rfl) (big_in mw_10 rfl) (big_in mw_1170 rfl) (big_in mw_1171 rfl) rfl rfl (by decide +kernel) ⟨by rw [hR]; exact Nat.le_of_ble_eq_true rfl, by rw [hR]; exact Nat.le_of_ble_eq_true rfl⟩ rfl (Nat.le_of_ble_eq_true rfl) d_Mo_round_9 ⟨by rw [hR]; exact Nat.le_of_ble_eq_true rfl, by rw [hR]; exact Nat.le_of_ble_eq_true rfl⟩ rfl (fun v u H locs hp2 hP hD hS _ => ?_)
    obtain ⟨r9, rfl⟩ : ∃ z, z = u := ⟨_, rfl⟩
    obtain ⟨rfl, p9⟩ := hp2
    have hP : va_P D cls0 [(mo, .inr (8, [.int qc, .int (iZ (np : Int)), .ref ow, .ref om, .ref ok_, .ref oK, .ref og, .ref on_, .ref oh, .ref ox, .int qn, .int qf, .ref op_, .int ql])), (ow, .inl (cI, 108000, .inl fw)), (om, .inl (cI, 9, .inl fm)), (oh, .inl (cI, 10000, .inl fh)), (ok_, .inl (cI, 166400, .inl fk)), (oK, .inl (cI, 64, .inl fK)), (og, .inl (cI, 32, .inl fs)), (on_, .inl (cI, 32, .inl fn))] H := hP
    have hD : va_D A [(mo, .inr (8, [.int qc, .int (iZ (np : Int)), .ref ow, .ref om, .ref ok_, .ref oK, .ref og, .ref on_, .ref oh, .ref ox, .int qn, .int qf, .ref op_, .int ql])), (ow, .inl (cI, 108000, .inl fw)), (om, .inl (cI, 9, .inl fm)), (oh, .inl (cI, 10000, .inl fh)), (ok_, .inl (cI, 166400, .inl fk)), (oK, .inl (cI, 64, .inl fK)), (og, .inl (cI, 32, .inl fs)), (on_, .inl (cI, 32, .inl fn))] := hD
    show W p l e R s m args below meth c H locs _ _ Q (F0 m 12 ls [.int (iZ r9), .ref mo])
    have b9 : 0 ≤ r9 ∧ r9 ≤ 1 := by omega
    refine zz_if_ne (tgt := 19) hx hb d_Mo_round_12 (by decide) (by omega) (fun c12 => ?_) (fun c12 => ?_)
    · refine lv_iload_n hx hb d_Mo_round_19 rfl (lv_at hl 3 rfl) ?_
      refine lv_iconst (v := iZ (1)) hx hb d_Mo_round_20 (by decide +kernel) ?_
      refine zz_icmp_lt (tgt := 31) hx hb d_Mo_round_21 (by decide) (by omega) (by omega) (fun c21 => ?_) (fun c21 => ?_)
      · refine lv_iconst (v := iZ (2)) hx hb d_Mo_round_31 (by decide +kernel) ?_
        refine lv_goto (tgt := 36) hx hb d_Mo_round_32 (by decide) ?_
        exfalso
        omega
      · refine lv_iload_n hx hb d_Mo_round_24 rfl (lv_at hl 3 rfl) ?_
        refine lv_sipush (v := iZ (1024)) hx hb d_Mo_round_25 (by decide +kernel) ?_
        refine zz_icmp_le (tgt := 35) hx hb d_Mo_round_28 (by decide) (by omega) (by omega) (fun c28 => ?_) (fun c28 => ?_)
        · refine lv_iconst (v := iZ (0)) hx hb d_Mo_round_35 (by decide +kernel) ?_
          refine cv (n := 1) (wr := [(ow, .inl (cI, 108000, .inl fw)), (om, .inl (cI, 9, .inl fm)), (oh, .inl (cI, 10000, .inl fh)), (ok_, .inl (cI, 166400, .inl fk)), (oK, .inl (cI, 64, .inl fK)), (og, .inl (cI, 32, .inl fs)), (on_, .inl (cI, 32, .inl fn))]) (w1 := (fun (u : Int) => [(mo, .inr (8, [.int (iZ 0), .int (iZ (np : Int)), .ref ow, .ref om, .ref ok_, .ref oK, .ref og, .ref on_, .ref oh, .ref ox, .int qn, .int qf, .ref op_, .int ql]))])) (As := [.int (iZ 0)]) (rest := []) K hP hD hK hS hA hl.1 (c_Mo_refuses l D mo qc np ow om ok_ oK og on_ oh ox qn qf op_ ql 0 H.size (by omega)) [0] [1, 2, 3, 4, 5, 6, 7] [] rfl rfl rfl (by decide) (by decide) (by decide) 0 rfl rfl (big_in mw_1176 rfl) (big_in mw_10 rfl) (big_in mw_1173 rfl) (big_in mw_1175 rfl) (big_in sp_18 rfl) rfl rfl (by decide +kernel) ⟨by rw [hR]; exact Nat.le_of_ble_eq_true rfl, by rw [hR]; exact Nat.le_of_ble_eq_true rfl⟩ rfl (Nat.le_of_ble_eq_true rfl) d_Mo_round_36 ⟨by rw [hR]; exact Nat.le_of_ble_eq_true rfl, by rw [hR]; exact Nat.le_of_ble_eq_true rfl⟩ rfl (fun v u H locs hp3 hP hD hS _ => ?_)
          obtain ⟨rf, rfl⟩ : ∃ z, z = u := ⟨_, rfl⟩
          obtain ⟨rfl, prf⟩ := hp3
          have hP : va_P D cls0 [(ow, .inl (cI, 108000, .inl fw)), (om, .inl (cI, 9, .inl fm)), (oh, .inl (cI, 10000, .inl fh)), (ok_, .inl (cI, 166400, .inl fk)), (oK, .inl (cI, 64, .inl fK)), (og, .inl (cI, 32, .inl fs)), (on_, .inl (cI, 32, .inl fn)), (mo, .inr (8, [.int (iZ 0), .int (iZ (np : Int)), .ref ow, .ref om, .ref ok_, .ref oK, .ref og, .ref on_, .ref oh, .ref ox, .int qn, .int qf, .ref op_, .int ql]))] H := hP
          have hD : va_D A [(ow, .inl (cI, 108000, .inl fw)), (om, .inl (cI, 9, .inl fm)), (oh, .inl (cI, 10000, .inl fh)), (ok_, .inl (cI, 166400, .inl fk)), (oK, .inl (cI, 64, .inl fK)), (og, .inl (cI, 32, .inl fs)), (on_, .inl (cI, 32, .inl fn)), (mo, .inr (8, [.int (iZ 0), .int (iZ (np : Int)), .ref ow, .ref om, .ref ok_, .ref oK, .ref og, .ref on_, .ref oh, .ref ox, .int qn, .int qf, .ref op_, .int ql]))] := hD
          show W p l e R s m args below meth c H locs _ _ Q (F0 m 39 ls [.int (iZ rf)])
          refine zz_if_eq (tgt := 44) hx hb d_Mo_round_39 (by decide) (by omega) (fun c39 => ?_) (fun c39 => False.elim (by omega))
          refine lv_aload_n hx hb d_Mo_round_44 rfl (lv_at hl 0 rfl) ?_
          refine va_get (D := D) (ci := 8) (v := .ref og) (C := R_Mo) (T := F_Mo) (N := 14) hx hb hts i_Mo hown hK hP 7 rfl rfl 6 (by decide) (hts _ (big_in mw_1121 rfl)) (fun _ h9 => h9) rfl d_Mo_round_45 ?_
          refine lv_iload_n hx hb d_Mo_round_48 rfl (lv_at hl 2 rfl) ?_
          refine zz_iald hx hb hK hP 5 0 rfl rfl (a) (by omega) (by omega) (by omega) d_Mo_round_49 ?_
          rw [hMR.2.1 a (by omega)]
          refine zz_if_ne (tgt := 60) hx hb d_Mo_round_50 (by decide) (by omega) (fun c50 => ?_) (fun c50 => False.elim (by omega))
          refine lv_aload_n hx hb d_Mo_round_60 rfl (lv_at hl 0 rfl) ?_
          refine lv_iconst (v := iZ (0)) hx hb d_Mo_round_61 (by decide +kernel) ?_
          refine lv_iconst (v := iZ (2)) hx hb d_Mo_round_62 (by decide +kernel) ?_
          refine lv_iload_n hx hb d_Mo_round_63 rfl (lv_at hl 2 rfl) ?_
          refine zz_imul hx hb d_Mo_round_64 ?_
          rw [show (2 * (a : Int) : Int) = ((2 * a : Nat) : Int) by omega]
          refine cv (n := 2) (wr := [(oh, .inl (cI, 10000, .inl fh)), (og, .inl (cI, 32, .inl fs)), (on_, .inl (cI, 32, .inl fn))]) (w1 := (fun (u : (Nat → Int32) × (Nat → Int32)) => [(mo, .inr (8, [.int (iZ 0), .int (iZ (np : Int)), .ref ow, .ref om, .ref ok_, .ref oK, .ref og, .ref on_, .ref oh, .ref ox, .int qn, .int qf, .ref op_, .int ql])), (ow, .inl (cI, 108000, .inl u.1)), (om, .inl (cI, 9, .inl u.2)), (ok_, .inl (cI, 166400, .inl fk)), (oK, .inl (cI, 64, .inl fK))])) (As := [.int (iZ 0), .int (iZ ((2 * a : Nat) : Int))]) (rest := []) K hP hD hK hS hA hl.1 (c_Mo_load l D mo (iZ 0) np ow om ok_ oK og on_ oh ox qn qf op_ ql fw fm cI fk fK val (kvf tv bv) 0 (2 * a) H.size hW hMR.1 (by decide) (by omega)) [7, 0, 1, 3, 4] [2, 5, 6] [0] rfl rfl rfl (by decide) (by decide) (by decide) 0 rfl rfl (big_in mw_1238 rfl) (big_in mw_10 rfl) (big_in mw_1235 rfl) (big_in mw_1237 rfl) (big_in sp_31 rfl) rfl rfl (by decide +kernel) ⟨by rw [hR]; exact Nat.le_of_ble_eq_true rfl, by rw [hR]; exact Nat.le_of_ble_eq_true rfl⟩ rfl (Nat.le_of_ble_eq_true rfl) d_Mo_round_65 ⟨by rw [hR]; exact Nat.le_of_ble_eq_true rfl, by rw [hR]; exact Nat.le_of_ble_eq_true rfl⟩ rfl (fun v u H locs hp4 hP hD hS _ => ?_)
          obtain ⟨fx1, fy1⟩ := u
          try dsimp only at hp4
          obtain ⟨rfl, w1⟩ := hp4
          have hP : va_P D cls0 [(oh, .inl (cI, 10000, .inl fh)), (og, .inl (cI, 32, .inl fs)), (on_, .inl (cI, 32, .inl fn)), (mo, .inr (8, [.int (iZ 0), .int (iZ (np : Int)), .ref ow, .ref om, .ref ok_, .ref oK, .ref og, .ref on_, .ref oh, .ref ox, .int qn, .int qf, .ref op_, .int ql])), (ow, .inl (cI, 108000, .inl fx1)), (om, .inl (cI, 9, .inl fy1)), (ok_, .inl (cI, 166400, .inl fk)), (oK, .inl (cI, 64, .inl fK))] H := hP
          have hD : va_D A [(oh, .inl (cI, 10000, .inl fh)), (og, .inl (cI, 32, .inl fs)), (on_, .inl (cI, 32, .inl fn)), (mo, .inr (8, [.int (iZ 0), .int (iZ (np : Int)), .ref ow, .ref om, .ref ok_, .ref oK, .ref og, .ref on_, .ref oh, .ref ox, .int qn, .int qf, .ref op_, .int ql])), (ow, .inl (cI, 108000, .inl fx1)), (om, .inl (cI, 9, .inl fy1)), (ok_, .inl (cI, 166400, .inl fk)), (oK, .inl (cI, 64, .inl fK))] := hD
          show W p l e R s m args below meth c H locs _ _ Q (F0 m 68 ls [])
          rw [kvf_0] at w1
          obtain ⟨v1, hv1⟩ : ∃ z, z = up val 0 (tv a) := ⟨_, rfl⟩
          rw [← hv1] at w1
          refine lv_aload_n hx hb d_Mo_round_68 rfl (lv_at hl 0 rfl) ?_
          refine lv_iconst (v := iZ (1)) hx hb d_Mo_round_69 (by decide +kernel) ?_
          refine lv_iconst (v := iZ (2)) hx hb d_Mo_round_70 (by decide +kernel) ?_
          refine lv_iload_n hx hb d_Mo_round_71 rfl (lv_at hl 2 rfl) ?_
          refine zz_imul hx hb d_Mo_round_72 ?_
          refine lv_iconst (v := iZ (1)) hx hb d_Mo_round_73 (by decide +kernel) ?_
          refine zz_iadd hx hb d_Mo_round_74 ?_
          rw [show (2 * (a : Int) + 1 : Int) = ((2 * a + 1 : Nat) : Int) by omega]
          refine cv (n := 2) (wr := [(oh, .inl (cI, 10000, .inl fh)), (og, .inl (cI, 32, .inl fs)), (on_, .inl (cI, 32, .inl fn))]) (w1 := (fun (u : (Nat → Int32) × (Nat → Int32)) => [(mo, .inr (8, [.int (iZ 0), .int (iZ (np : Int)), .ref ow, .ref om, .ref ok_, .ref oK, .ref og, .ref on_, .ref oh, .ref ox, .int qn, .int qf, .ref op_, .int ql])), (ow, .inl (cI, 108000, .inl u.1)), (om, .inl (cI, 9, .inl u.2)), (ok_, .inl (cI, 166400, .inl fk)), (oK, .inl (cI, 64, .inl fK))])) (As := [.int (iZ 1), .int (iZ ((2 * a + 1 : Nat) : Int))]) (rest := []) K hP hD hK hS hA hl.1 (c_Mo_load l D mo (iZ 0) np ow om ok_ oK og on_ oh ox qn qf op_ ql fx1 fy1 cI fk fK v1 (kvf tv bv) 1 (2 * a + 1) H.size w1 hMR.1 (by decide) (by omega)) [3, 4, 5, 6, 7] [0, 1, 2] [0] rfl rfl rfl (by decide) (by decide) (by decide) 0 rfl rfl (big_in mw_1238 rfl) (big_in mw_10 rfl) (big_in mw_1235 rfl) (big_in mw_1237 rfl) (big_in sp_31 rfl) rfl rfl (by decide +kernel) ⟨by rw [hR]; exact Nat.le_of_ble_eq_true rfl, by rw [hR]; exact Nat.le_of_ble_eq_true rfl⟩ rfl (Nat.le_of_ble_eq_true rfl) d_Mo_round_75 ⟨by rw [hR]; exact Nat.le_of_ble_eq_true rfl, by rw [hR]; exact Nat.le_of_ble_eq_true rfl⟩ rfl (fun v u H locs hp5 hP hD hS _ => ?_)
          obtain ⟨fx2, fy2⟩ := u
          try dsimp only at hp5
          obtain ⟨rfl, w2⟩ := hp5
          have hP : va_P D cls0 [(oh, .inl (cI, 10000, .inl fh)), (og, .inl (cI, 32, .inl fs)), (on_, .inl (cI, 32, .inl fn)), (mo, .inr (8, [.int (iZ 0), .int (iZ (np : Int)), .ref ow, .ref om, .ref ok_, .ref oK, .ref og, .ref on_, .ref oh, .ref ox, .int qn, .int qf, .ref op_, .int ql])), (ow, .inl (cI, 108000, .inl fx2)), (om, .inl (cI, 9, .inl fy2)), (ok_, .inl (cI, 166400, .inl fk)), (oK, .inl (cI, 64, .inl fK))] H := hP
          have hD : va_D A [(oh, .inl (cI, 10000, .inl fh)), (og, .inl (cI, 32, .inl fs)), (on_, .inl (cI, 32, .inl fn)), (mo, .inr (8, [.int (iZ 0), .int (iZ (np : Int)), .ref ow, .ref om, .ref ok_, .ref oK, .ref og, .ref on_, .ref oh, .ref ox, .int qn, .int qf, .ref op_, .int ql])), (ow, .inl (cI, 108000, .inl fx2)), (om, .inl (cI, 9, .inl fy2)), (ok_, .inl (cI, 166400, .inl fk)), (oK, .inl (cI, 64, .inl fK))] := hD
          show W p l e R s m args below meth c H locs _ _ Q (F0 m 78 ls [])
          rw [kvf_1] at w2
          obtain ⟨v2, hv2⟩ : ∃ z, z = up v1 1 (bv a) := ⟨_, rfl⟩
          rw [← hv2] at w2
          have e0 : v2 0 = tv a := by rw [hv2, up_n (by decide), hv1, up_s]
          have e1 : v2 1 = bv a := by rw [hv2, up_s]
          have ba := hlr a (by omega)
          refine lv_aload_n hx hb d_Mo_round_78 rfl (lv_at hl 0 rfl) ?_
          refine lv_iconst (v := iZ (0)) hx hb d_Mo_round_79 (by decide +kernel) ?_
          refine cv (n := 1) (wr := [(og, .inl (cI, 32, .inl fs)), (on_, .inl (cI, 32, .inl fn)), (ok_, .inl (cI, 166400, .inl fk)), (oK, .inl (cI, 64, .inl fK))]) (w1 := (fun (u : Int × (Nat → Int32) × (Nat → Int32) × (Nat → Int32)) => [(mo, .inr (8, [.int (iZ 0), .int (iZ (np : Int)), .ref ow, .ref om, .ref ok_, .ref oK, .ref og, .ref on_, .ref oh, .ref ox, .int qn, .int qf, .ref op_, .int ql])), (ow, .inl (cI, 108000, .inl u.2.1)), (om, .inl (cI, 9, .inl u.2.2.1)), (oh, .inl (cI, 10000, .inl u.2.2.2))])) (As := [.int (iZ 0)]) (rest := []) K hP hD hK hS hA hl.1 (c_Mo_bits l D mo (iZ 0) np ow om ok_ oK og on_ oh ox qn qf op_ ql fx2 fy2 cI fh v2 0 H.size w2 (by decide) (by decide) (hB_lm (by rw [e0]; omega))) [3, 4, 5, 0] [1, 2, 6, 7] [0] rfl rfl rfl (by decide) (by decide) (by decide) 0 rfl rfl (big_in mw_1298 rfl) (big_in mw_10 rfl) (big_in mw_1295 rfl) (big_in mw_1297 rfl) (big_in sp_40 rfl) rfl rfl (by decide +kernel) ⟨by rw [hR]; exact Nat.le_of_ble_eq_true rfl, by rw [hR]; exact Nat.le_of_ble_eq_true rfl⟩ rfl (Nat.le_of_ble_eq_true rfl) d_Mo_round_80 ⟨by rw [hR]; exact Nat.le_of_ble_eq_true rfl, by rw [hR]; exact Nat.le_of_ble_eq_true rfl⟩ rfl (fun v u H locs hp6 hP hD hS _ => ?_)
          obtain ⟨rb3, fx3, fy3, fh3⟩ := u
          try dsimp only at hp6
          obtain ⟨rfl, eb3, w3⟩ := hp6
          have hP : va_P D cls0 [(og, .inl (cI, 32, .inl fs)), (on_, .inl (cI, 32, .inl fn)), (ok_, .inl (cI, 166400, .inl fk)), (oK, .inl (cI, 64, .inl fK)), (mo, .inr (8, [.int (iZ 0), .int (iZ (np : Int)), .ref ow, .ref om, .ref ok_, .ref oK, .ref og, .ref on_, .ref oh, .ref ox, .int qn, .int qf, .ref op_, .int ql])), (ow, .inl (cI, 108000, .inl fx3)), (om, .inl (cI, 9, .inl fy3)), (oh, .inl (cI, 10000, .inl fh3))] H := hP
          have hD : va_D A [(og, .inl (cI, 32, .inl fs)), (on_, .inl (cI, 32, .inl fn)), (ok_, .inl (cI, 166400, .inl fk)), (oK, .inl (cI, 64, .inl fK)), (mo, .inr (8, [.int (iZ 0), .int (iZ (np : Int)), .ref ow, .ref om, .ref ok_, .ref oK, .ref og, .ref on_, .ref oh, .ref ox, .int qn, .int qf, .ref op_, .int ql])), (ow, .inl (cI, 108000, .inl fx3)), (om, .inl (cI, 9, .inl fy3)), (oh, .inl (cI, 10000, .inl fh3))] := hD
          show W p l e R s m args below meth c H locs _ _ Q (F0 m 83 ls [.int (iZ rb3)])
          rw [e0] at eb3
          subst eb3
          obtain ⟨v3, hv3⟩ : ∃ z, z = up v2 4 0 := ⟨_, rfl⟩
          rw [← hv3] at w3
          have z30 : v3 0 = tv a := by rw [hv3, up_n (by decide)]; exact e0
          have z31 : v3 1 = bv a := by rw [hv3, up_n (by decide)]; exact e1
          refine lv_aload_n hx hb d_Mo_round_83 rfl (lv_at hl 0 rfl) ?_
          refine lv_iconst (v := iZ (1)) hx hb d_Mo_round_84 (by decide +kernel) ?_
          refine cv (n := 1) (wr := [(og, .inl (cI, 32, .inl fs)), (on_, .inl (cI, 32, .inl fn)), (ok_, .inl (cI, 166400, .inl fk)), (oK, .inl (cI, 64, .inl fK))]) (w1 := (fun (u : Int × (Nat → Int32) × (Nat → Int32) × (Nat → Int32)) => [(mo, .inr (8, [.int (iZ 0), .int (iZ (np : Int)), .ref ow, .ref om, .ref ok_, .ref oK, .ref og, .ref on_, .ref oh, .ref ox, .int qn, .int qf, .ref op_, .int ql])), (ow, .inl (cI, 108000, .inl u.2.1)), (om, .inl (cI, 9, .inl u.2.2.1)), (oh, .inl (cI, 10000, .inl u.2.2.2))])) (As := [.int (iZ 1)]) (rest := [.int (iZ (bl (tv a) : Int))]) K hP hD hK hS hA hl.1 (c_Mo_bits l D mo (iZ 0) np ow om ok_ oK og on_ oh ox qn qf op_ ql fx3 fy3 cI fh3 v3 1 H.size w3 (by decide) (by decide) (hB_lm (by rw [z31]; omega))) [4, 5, 6, 7] [0, 1, 2, 3] [0] rfl rfl rfl (by decide) (by decide) (by decide) 0 rfl rfl (big_in mw_1298 rfl) (big_in mw_10 rfl) (big_in mw_1295 rfl) (big_in mw_1297 rfl) (big_in sp_40 rfl) rfl rfl (by decide +kernel) ⟨by rw [hR]; exact Nat.le_of_ble_eq_true rfl, by rw [hR]; exact Nat.le_of_ble_eq_true rfl⟩ rfl (Nat.le_of_ble_eq_true rfl) d_Mo_round_85 ⟨by rw [hR]; exact Nat.le_of_ble_eq_true rfl, by rw [hR]; exact Nat.le_of_ble_eq_true rfl⟩ rfl (fun v u H locs hp7 hP hD hS _ => ?_)
          obtain ⟨rb4, fx4, fy4, fh4⟩ := u
          try dsimp only at hp7
          obtain ⟨rfl, eb4, w4⟩ := hp7
          have hP : va_P D cls0 [(og, .inl (cI, 32, .inl fs)), (on_, .inl (cI, 32, .inl fn)), (ok_, .inl (cI, 166400, .inl fk)), (oK, .inl (cI, 64, .inl fK)), (mo, .inr (8, [.int (iZ 0), .int (iZ (np : Int)), .ref ow, .ref om, .ref ok_, .ref oK, .ref og, .ref on_, .ref oh, .ref ox, .int qn, .int qf, .ref op_, .int ql])), (ow, .inl (cI, 108000, .inl fx4)), (om, .inl (cI, 9, .inl fy4)), (oh, .inl (cI, 10000, .inl fh4))] H := hP
          have hD : va_D A [(og, .inl (cI, 32, .inl fs)), (on_, .inl (cI, 32, .inl fn)), (ok_, .inl (cI, 166400, .inl fk)), (oK, .inl (cI, 64, .inl fK)), (mo, .inr (8, [.int (iZ 0), .int (iZ (np : Int)), .ref ow, .ref om, .ref ok_, .ref oK, .ref og, .ref on_, .ref oh, .ref ox, .int qn, .int qf, .ref op_, .int ql])), (ow, .inl (cI, 108000, .inl fx4)), (om, .inl (cI, 9, .inl fy4)), (oh, .inl (cI, 10000, .inl fh4))] := hD
          show W p l e R s m args below meth c H locs _ _ Q (F0 m 88 ls [.int (iZ rb4), .int (iZ (bl (tv a) : Int))])
          rw [z31] at eb4
          subst eb4
          obtain ⟨v4, hv4⟩ : ∃ z, z = up v3 4 0 := ⟨_, rfl⟩
          rw [← hv4] at w4
          have z40 : v4 0 = tv a := by rw [hv4, up_n (by decide)]; exact z30
          have z41 : v4 1 = bv a := by rw [hv4, up_n (by decide)]; exact z31
          refine zz_isub hx hb d_Mo_round_88 ?_
          refine lv_iload_n hx hb d_Mo_round_89 rfl (lv_at hl 3 rfl) ?_
          refine zz_isub hx hb d_Mo_round_90 ?_
          refine lv_istore (lv' := [(4, .int (iZ ((bl (tv a) : Int) - (bl (bv a) : Int) - (pb : Int)))), (0, .ref mo), (1, .int (iZ (to : Int))), (2, .int (iZ (a : Int))), (3, .int (iZ (pb : Int)))]) hx hb d_Mo_round_91 hl (by decide) rfl (fun ls hl => ?_)
          refine lv_iload hx hb d_Mo_round_93 (lv_at hl 0 rfl) ?_
          refine lv_iload_n hx hb d_Mo_round_95 rfl (lv_at hl 4 rfl) ?_
          refine zz_iadd hx hb d_Mo_round_96 ?_
          refine lv_istore (lv' := [(5, .int (iZ ((bl (tv a) : Int) - (bl (bv a) : Int) - (pb : Int) + (pb : Int)))), (4, .int (iZ ((bl (tv a) : Int) - (bl (bv a) : Int) - (pb : Int)))), (0, .ref mo), (1, .int (iZ (to : Int))), (2, .int (iZ (a : Int))), (3, .int (iZ (pb : Int)))]) hx hb d_Mo_round_97 hl (by decide) rfl (fun ls hl => ?_)
          refine lv_aload_n hx hb d_Mo_round_99 rfl (lv_at hl 2 rfl) ?_
          refine lv_iload hx hb d_Mo_round_100 (lv_at hl 0 rfl) ?_
          refine zz_if_ge (tgt := 109) hx hb d_Mo_round_102 (by decide) (by omega) (fun c102 => ?_) (fun c102 => ?_)
          · refine lv_iconst (v := iZ (1)) hx hb d_Mo_round_109 (by decide +kernel) ?_
            refine lv_iload hx hb d_Mo_round_110 (lv_at hl 0 rfl) ?_
            refine zz_if_ge (tgt := 121) hx hb d_Mo_round_112 (by decide) (by omega) (fun c112 => ?_) (fun c112 => ?_)
            · refine lv_iload hx hb d_Mo_round_121 (lv_at hl 0 rfl) ?_
              rw [show ((bl (tv a) : Int) - (bl (bv a) : Int) - (pb : Int) + (pb : Int) : Int) = ((bl (tv a) - bl (bv a) : Nat) : Int) by omega]
              refine cv (n := 2) (wr := [(og, .inl (cI, 32, .inl fs)), (on_, .inl (cI, 32, .inl fn)), (ok_, .inl (cI, 166400, .inl fk)), (oK, .inl (cI, 64, .inl fK)), (oh, .inl (cI, 10000, .inl fh4))]) (w1 := (fun (u : (Nat → Int32) × (Nat → Int32)) => [(mo, .inr (8, [.int (iZ 0), .int (iZ (np : Int)), .ref ow, .ref om, .ref ok_, .ref oK, .ref og, .ref on_, .ref oh, .ref ox, .int qn, .int qf, .ref op_, .int ql])), (ow, .inl (cI, 108000, .inl u.1)), (om, .inl (cI, 9, .inl u.2))])) (As := [.int (iZ 1), .int (iZ ((bl (tv a) - bl (bv a) : Nat) : Int))]) (rest := []) K hP hD hK hS hA hl.1 (c_Mo_doubled l D mo (iZ 0) np ow om ok_ oK og on_ oh ox qn qf op_ ql fx4 fy4 cI v4 1 (bl (tv a) - bl (bv a)) H.size w4 (by decide) (by omega) (by rw [z41]; have z := nd_shl (bv a) (bl (tv a) - bl (bv a)); omega)) [4, 5, 6] [0, 1, 2, 3, 7] [0] rfl rfl rfl (by decide) (by decide) (by decide) 0 rfl rfl (big_in mw_1320 rfl) (big_in mw_10 rfl) (big_in mw_1317 rfl) (big_in mw_1319 rfl) (big_in sp_42 rfl) rfl rfl (by decide +kernel) ⟨by rw [hR]; exact Nat.le_of_ble_eq_true rfl, by rw [hR]; exact Nat.le_of_ble_eq_true rfl⟩ rfl (Nat.le_of_ble_eq_true rfl) d_Mo_round_123 ⟨by rw [hR]; exact Nat.le_of_ble_eq_true rfl, by rw [hR]; exact Nat.le_of_ble_eq_true rfl⟩ rfl (fun v u H locs hp8 hP hD hS _ => ?_)
              obtain ⟨fx5, fy5⟩ := u
              try dsimp only at hp8
              obtain ⟨rfl, w5⟩ := hp8
              have hP : va_P D cls0 [(og, .inl (cI, 32, .inl fs)), (on_, .inl (cI, 32, .inl fn)), (ok_, .inl (cI, 166400, .inl fk)), (oK, .inl (cI, 64, .inl fK)), (oh, .inl (cI, 10000, .inl fh4)), (mo, .inr (8, [.int (iZ 0), .int (iZ (np : Int)), .ref ow, .ref om, .ref ok_, .ref oK, .ref og, .ref on_, .ref oh, .ref ox, .int qn, .int qf, .ref op_, .int ql])), (ow, .inl (cI, 108000, .inl fx5)), (om, .inl (cI, 9, .inl fy5))] H := hP
              have hD : va_D A [(og, .inl (cI, 32, .inl fs)), (on_, .inl (cI, 32, .inl fn)), (ok_, .inl (cI, 166400, .inl fk)), (oK, .inl (cI, 64, .inl fK)), (oh, .inl (cI, 10000, .inl fh4)), (mo, .inr (8, [.int (iZ 0), .int (iZ (np : Int)), .ref ow, .ref om, .ref ok_, .ref oK, .ref og, .ref on_, .ref oh, .ref ox, .int qn, .int qf, .ref op_, .int ql])), (ow, .inl (cI, 108000, .inl fx5)), (om, .inl (cI, 9, .inl fy5))] := hD
              show W p l e R s m args below meth c H locs _ _ Q (F0 m 126 ls [])
              rw [z41] at w5
              obtain ⟨v5, hv5⟩ : ∃ z, z = up v4 1 (bv a * 2 ^ (bl (tv a) - bl (bv a))) := ⟨_, rfl⟩
              rw [← hv5] at w5
              have z50 : v5 0 = tv a * 2 ^ (bl (bv a) - bl (tv a)) := by rw [hv5, up_n (by decide), z40, show bl (bv a) - bl (tv a) = 0 by omega, Nat.pow_zero, Nat.mul_one]
              have z51 : v5 1 = bv a * 2 ^ (bl (tv a) - bl (bv a)) := by rw [hv5, up_s]
              refine lv_iload hx hb d_Mo_round_126 (lv_at hl 1 rfl) ?_
              refine lv_aload_n hx hb d_Mo_round_128 rfl (lv_at hl 2 rfl) ?_
              refine lv_iconst (v := iZ (0)) hx hb d_Mo_round_129 (by decide +kernel) ?_
              refine lv_iconst (v := iZ (1)) hx hb d_Mo_round_130 (by decide +kernel) ?_
              refine cv (n := 2) (wr := [(og, .inl (cI, 32, .inl fs)), (on_, .inl (cI, 32, .inl fn)), (ok_, .inl (cI, 166400, .inl fk)), (oK, .inl (cI, 64, .inl fK)), (oh, .inl (cI, 10000, .inl fh4))]) (w1 := (fun (u : Int) => [(mo, .inr (8, [.int (iZ 0), .int (iZ (np : Int)), .ref ow, .ref om, .ref ok_, .ref oK, .ref og, .ref on_, .ref oh, .ref ox, .int qn, .int qf, .ref op_, .int ql])), (ow, .inl (cI, 108000, .inl fx5)), (om, .inl (cI, 9, .inl fy5))])) (As := [.int (iZ 0), .int (iZ 1)]) (rest := [.int (iZ ((bl (tv a) : Int) - (bl (bv a) : Int) - (pb : Int)))]) K hP hD hK hS hA hl.1 (c_Mo_order l D mo (iZ 0) np ow om ok_ oK og on_ oh ox qn qf op_ ql fx5 fy5 cI v5 0 1 H.size w5 (by omega) (by omega)) [5, 6, 7] [0, 1, 2, 3, 4] [0] rfl rfl rfl (by decide) (by decide) (by decide) 0 rfl rfl (big_in mw_1270 rfl) (big_in mw_10 rfl) (big_in mw_1267 rfl) (big_in mw_1269 rfl) (big_in sp_37 rfl) rfl rfl (by decide +kernel) ⟨by rw [hR]; exact Nat.le_of_ble_eq_true rfl, by rw [hR]; exact Nat.le_of_ble_eq_true rfl⟩ rfl (Nat.le_of_ble_eq_true rfl) d_Mo_round_131 ⟨by rw [hR]; exact Nat.le_of_ble_eq_true rfl, by rw [hR]; exact Nat.le_of_ble_eq_true rfl⟩ rfl (fun v u H locs hp9 hP hD hS _ => ?_)
              obtain ⟨rc, rfl⟩ : ∃ z, z = u := ⟨_, rfl⟩
              obtain ⟨rfl, gq⟩ := hp9
              have hP : va_P D cls0 [(og, .inl (cI, 32, .inl fs)), (on_, .inl (cI, 32, .inl fn)), (ok_, .inl (cI, 166400, .inl fk)), (oK, .inl (cI, 64, .inl fK)), (oh, .inl (cI, 10000, .inl fh4)), (mo, .inr (8, [.int (iZ 0), .int (iZ (np : Int)), .ref ow, .ref om, .ref ok_, .ref oK, .ref og, .ref on_, .ref oh, .ref ox, .int qn, .int qf, .ref op_, .int ql])), (ow, .inl (cI, 108000, .inl fx5)), (om, .inl (cI, 9, .inl fy5))] H := hP
              have hD : va_D A [(og, .inl (cI, 32, .inl fs)), (on_, .inl (cI, 32, .inl fn)), (ok_, .inl (cI, 166400, .inl fk)), (oK, .inl (cI, 64, .inl fK)), (oh, .inl (cI, 10000, .inl fh4)), (mo, .inr (8, [.int (iZ 0), .int (iZ (np : Int)), .ref ow, .ref om, .ref ok_, .ref oK, .ref og, .ref on_, .ref oh, .ref ox, .int qn, .int qf, .ref op_, .int ql])), (ow, .inl (cI, 108000, .inl fx5)), (om, .inl (cI, 9, .inl fy5))] := hD
              show W p l e R s m args below meth c H locs _ _ Q (F0 m 134 ls [.int (iZ rc), .int (iZ ((bl (tv a) : Int) - (bl (bv a) : Int) - (pb : Int)))])
              rw [z50, z51] at gq
              have t0 : (rc < 0 ↔ ((tv a * 2 ^ (bl (bv a) - bl (tv a)) : Nat) : Int) < ((bv a * 2 ^ (bl (tv a) - bl (bv a)) : Nat) : Int)) ∧ (-1 ≤ rc ∧ rc ≤ 1) := by rw [gq]; exact ⟨cmpZ_lt, cmpZ_r _ _⟩
              clear gq
              have xs : (rc < 0 ∧ xE (tv a) (bv a) = (bl (tv a) : Int) - (bl (bv a) : Int) - 1) ∨ (0 ≤ rc ∧ xE (tv a) (bv a) = (bl (tv a) : Int) - (bl (bv a) : Int)) := by unfold xE; by_cases z : tv a * 2 ^ (bl (bv a) - bl (tv a)) < bv a * 2 ^ (bl (tv a) - bl (bv a)); (left; rw [if_pos z]; omega); (right; rw [if_neg z]; omega)
              have trc := t0.2
              clear t0
              refine zz_if_lt (tgt := 141) hx hb d_Mo_round_134 (by decide) (by omega) (fun c134 => ?_) (fun c134 => ?_)
              · refine lv_iconst (v := iZ (0)) hx hb d_Mo_round_141 (by decide +kernel) ?_
                refine zz_iadd hx hb d_Mo_round_142 ?_
                refine lv_istore (lv' := [(4, .int (iZ ((bl (tv a) : Int) - (bl (bv a) : Int) - (pb : Int) + 0))), (5, .int (iZ ((bl (tv a) : Int) - (bl (bv a) : Int) - (pb : Int) + (pb : Int)))), (0, .ref mo), (1, .int (iZ (to : Int))), (2, .int (iZ (a : Int))), (3, .int (iZ (pb : Int)))]) hx hb d_Mo_round_143 hl (by decide) rfl (fun ls hl => ?_)
                refine lv_aload_n hx hb d_Mo_round_145 rfl (lv_at hl 2 rfl) ?_
                refine lv_iload_n hx hb d_Mo_round_146 rfl (lv_at hl 3 rfl) ?_
                refine lv_iload_n hx hb d_Mo_round_147 rfl (lv_at hl 4 rfl) ?_
                refine lv_iload hx hb d_Mo_round_148 (lv_at hl 0 rfl) ?_
                rw [show ((bl (tv a) : Int) - (bl (bv a) : Int) - (pb : Int) + 0 : Int) = -(E : Int) by omega]
                refine cv (n := 3) (wr := []) (w1 := (fun (u : (Nat → Int32) × (Nat → Int32) × (Nat → Int32) × (Nat → Nat)) => [(mo, .inr (8, [.int (iZ 3), .int (iZ (np : Int)), .ref ow, .ref om, .ref ok_, .ref oK, .ref og, .ref on_, .ref oh, .ref ox, .int qn, .int qf, .ref op_, .int ql])), (ow, .inl (cI, 108000, .inl u.1)), (om, .inl (cI, 9, .inl u.2.1)), (oh, .inl (cI, 10000, .inl u.2.2.1)), (ok_, .inl (cI, 166400, .inl fk)), (oK, .inl (cI, 64, .inl fK)), (og, .inl (cI, 32, .inl fs)), (on_, .inl (cI, 32, .inl fn))])) (As := [.int (iZ (to : Int)), .int (iZ (a : Int)), .int (iZ (-(E : Int)))]) (rest := []) K hP hD hK hS hA hl.1 (f_Mo_multipleDn l D mo (iZ 0) np ow om ok_ oK og on_ oh ox qn qf op_ ql fx5 fy5 cI fh4 fk fK fs fn v5 tv bv sg to a E H.size w5 hMR hnd hnp J hbv t1 t2 hE hE0 hfit) [5, 6, 7, 4, 2, 3, 0, 1] [] [0] rfl rfl rfl (by decide) (by decide) (by decide) 0 rfl rfl (big_in mw_1329 rfl) (big_in mw_10 rfl) (big_in mw_1326 rfl) (big_in mw_1328 rfl) (big_in sp_44 rfl) rfl rfl (by decide +kernel) ⟨by rw [hR]; exact Nat.le_of_ble_eq_true rfl, by rw [hR]; exact Nat.le_of_ble_eq_true rfl⟩ rfl (Nat.le_of_ble_eq_true rfl) d_Mo_round_150 ⟨by rw [hR]; exact Nat.le_of_ble_eq_true rfl, by rw [hR]; exact Nat.le_of_ble_eq_true rfl⟩ rfl (fun v u H locs hp10 hP hD hS _ => ?_)
                obtain ⟨fa, fb, fc, v9⟩ := u
                try dsimp only at hp10
                obtain ⟨rfl, w9⟩ := hp10
                have hP : va_P D cls0 [(mo, .inr (8, [.int (iZ 3), .int (iZ (np : Int)), .ref ow, .ref om, .ref ok_, .ref oK, .ref og, .ref on_, .ref oh, .ref ox, .int qn, .int qf, .ref op_, .int ql])), (ow, .inl (cI, 108000, .inl fa)), (om, .inl (cI, 9, .inl fb)), (oh, .inl (cI, 10000, .inl fc)), (ok_, .inl (cI, 166400, .inl fk)), (oK, .inl (cI, 64, .inl fK)), (og, .inl (cI, 32, .inl fs)), (on_, .inl (cI, 32, .inl fn))] H := hP
                have hD : va_D A [(mo, .inr (8, [.int (iZ 3), .int (iZ (np : Int)), .ref ow, .ref om, .ref ok_, .ref oK, .ref og, .ref on_, .ref oh, .ref ox, .int qn, .int qf, .ref op_, .int ql])), (ow, .inl (cI, 108000, .inl fa)), (om, .inl (cI, 9, .inl fb)), (oh, .inl (cI, 10000, .inl fc)), (ok_, .inl (cI, 166400, .inl fk)), (oK, .inl (cI, 64, .inl fK)), (og, .inl (cI, 32, .inl fs)), (on_, .inl (cI, 32, .inl fn))] := hD
                show W p l e R s m args below meth c H locs _ _ Q (F0 m 153 ls [.int (iZ 0)])
                have hP9 : va_P D cls0 [(mo, .inr (8, [.int (iZ 3), .int (iZ (np : Int)), .ref ow, .ref om, .ref ok_, .ref oK, .ref og, .ref on_, .ref oh, .ref ox, .int qn, .int qf, .ref op_, .int ql])), (ow, .inl (cI, 108000, .inl fa)), (om, .inl (cI, 9, .inl fb)), (oh, .inl (cI, 10000, .inl fc)), (ok_, .inl (cI, 166400, .inl fk)), (oK, .inl (cI, 64, .inl fK)), (og, .inl (cI, 32, .inl fs)), (on_, .inl (cI, 32, .inl fn))] H := hP.sub [0, 1, 2, 3, 4, 5, 6, 7] rfl
                have hD9 : va_D A [(mo, .inr (8, [.int (iZ 3), .int (iZ (np : Int)), .ref ow, .ref om, .ref ok_, .ref oK, .ref og, .ref on_, .ref oh, .ref ox, .int qn, .int qf, .ref op_, .int ql])), (ow, .inl (cI, 108000, .inl fa)), (om, .inl (cI, 9, .inl fb)), (oh, .inl (cI, 10000, .inl fc)), (ok_, .inl (cI, 166400, .inl fk)), (oK, .inl (cI, 64, .inl fK)), (og, .inl (cI, 32, .inl fs)), (on_, .inl (cI, 32, .inl fn))] := hD.sub [0, 1, 2, 3, 4, 5, 6, 7] (by decide) rfl
                rw [hQ, ← hAe]
                refine r_i (v := (iZ 0)) K (fa, fb, fc, v9) hS d_Mo_round_153 ?_ (fun t ht hv => ?_)
                · exact ⟨rfl, w9⟩
                · exact ⟨by rw [ht]; exact hP9, va_K.moved hv hK, by rw [← hAe]; exact hD9⟩
              · refine lv_iconst (v := iZ (1)) hx hb d_Mo_round_137 (by decide +kernel) ?_
                refine lv_goto (tgt := 142) hx hb d_Mo_round_138 (by decide) ?_
                refine zz_iadd hx hb d_Mo_round_142 ?_
                refine lv_istore (lv' := [(4, .int (iZ ((bl (tv a) : Int) - (bl (bv a) : Int) - (pb : Int) + 1))), (5, .int (iZ ((bl (tv a) : Int) - (bl (bv a) : Int) - (pb : Int) + (pb : Int)))), (0, .ref mo), (1, .int (iZ (to : Int))), (2, .int (iZ (a : Int))), (3, .int (iZ (pb : Int)))]) hx hb d_Mo_round_143 hl (by decide) rfl (fun ls hl => ?_)
                refine lv_aload_n hx hb d_Mo_round_145 rfl (lv_at hl 2 rfl) ?_
                refine lv_iload_n hx hb d_Mo_round_146 rfl (lv_at hl 3 rfl) ?_
                refine lv_iload_n hx hb d_Mo_round_147 rfl (lv_at hl 4 rfl) ?_
                refine lv_iload hx hb d_Mo_round_148 (lv_at hl 0 rfl) ?_
                rw [show ((bl (tv a) : Int) - (bl (bv a) : Int) - (pb : Int) + 1 : Int) = -(E : Int) by omega]
                refine cv (n := 3) (wr := []) (w1 := (fun (u : (Nat → Int32) × (Nat → Int32) × (Nat → Int32) × (Nat → Nat)) => [(mo, .inr (8, [.int (iZ 3), .int (iZ (np : Int)), .ref ow, .ref om, .ref ok_, .ref oK, .ref og, .ref on_, .ref oh, .ref ox, .int qn, .int qf, .ref op_, .int ql])), (ow, .inl (cI, 108000, .inl u.1)), (om, .inl (cI, 9, .inl u.2.1)), (oh, .inl (cI, 10000, .inl u.2.2.1)), (ok_, .inl (cI, 166400, .inl fk)), (oK, .inl (cI, 64, .inl fK)), (og, .inl (cI, 32, .inl fs)), (on_, .inl (cI, 32, .inl fn))])) (As := [.int (iZ (to : Int)), .int (iZ (a : Int)), .int (iZ (-(E : Int)))]) (rest := []) K hP hD hK hS hA hl.1 (f_Mo_multipleDn l D mo (iZ 0) np ow om ok_ oK og on_ oh ox qn qf op_ ql fx5 fy5 cI fh4 fk fK fs fn v5 tv bv sg to a E H.size w5 hMR hnd hnp J hbv t1 t2 hE hE0 hfit) [5, 6, 7, 4, 2, 3, 0, 1] [] [0] rfl rfl rfl (by decide) (by decide) (by decide) 0 rfl rfl (big_in mw_1329 rfl) (big_in mw_10 rfl) (big_in mw_1326 rfl) (big_in mw_1328 rfl) (big_in sp_44 rfl) rfl rfl (by decide +kernel) ⟨by rw [hR]; exact Nat.le_of_ble_eq_true rfl, by rw [hR]; exact Nat.le_of_ble_eq_true rfl⟩ rfl (Nat.le_of_ble_eq_true rfl) d_Mo_round_150 ⟨by rw [hR]; exact Nat.le_of_ble_eq_true rfl, by rw [hR]; exact Nat.le_of_ble_eq_true rfl⟩ rfl (fun v u H locs hp11 hP hD hS _ => ?_)
                obtain ⟨fa, fb, fc, v9⟩ := u
                try dsimp only at hp11
                obtain ⟨rfl, w9⟩ := hp11
                have hP : va_P D cls0 [(mo, .inr (8, [.int (iZ 3), .int (iZ (np : Int)), .ref ow, .ref om, .ref ok_, .ref oK, .ref og, .ref on_, .ref oh, .ref ox, .int qn, .int qf, .ref op_, .int ql])), (ow, .inl (cI, 108000, .inl fa)), (om, .inl (cI, 9, .inl fb)), (oh, .inl (cI, 10000, .inl fc)), (ok_, .inl (cI, 166400, .inl fk)), (oK, .inl (cI, 64, .inl fK)), (og, .inl (cI, 32, .inl fs)), (on_, .inl (cI, 32, .inl fn))] H := hP
                have hD : va_D A [(mo, .inr (8, [.int (iZ 3), .int (iZ (np : Int)), .ref ow, .ref om, .ref ok_, .ref oK, .ref og, .ref on_, .ref oh, .ref ox, .int qn, .int qf, .ref op_, .int ql])), (ow, .inl (cI, 108000, .inl fa)), (om, .inl (cI, 9, .inl fb)), (oh, .inl (cI, 10000, .inl fc)), (ok_, .inl (cI, 166400, .inl fk)), (oK, .inl (cI, 64, .inl fK)), (og, .inl (cI, 32, .inl fs)), (on_, .inl (cI, 32, .inl fn))] := hD
                show W p l e R s m args below meth c H locs _ _ Q (F0 m 153 ls [.int (iZ 0)])
                have hP9 : va_P D cls0 [(mo, .inr (8, [.int (iZ 3), .int (iZ (np : Int)), .ref ow, .ref om, .ref ok_, .ref oK, .ref og, .ref on_, .ref oh, .ref ox, .int qn, .int qf, .ref op_, .int ql])), (ow, .inl (cI, 108000, .inl fa)), (om, .inl (cI, 9, .inl fb)), (oh, .inl (cI, 10000, .inl fc)), (ok_, .inl (cI, 166400, .inl fk)), (oK, .inl (cI, 64, .inl fK)), (og, .inl (cI, 32, .inl fs)), (on_, .inl (cI, 32, .inl fn))] H := hP.sub [0, 1, 2, 3, 4, 5, 6, 7] rfl
                have hD9 : va_D A [(mo, .inr (8, [.int (iZ 3), .int (iZ (np : Int)), .ref ow, .ref om, .ref ok_, .ref oK, .ref og, .ref on_, .ref oh, .ref ox, .int qn, .int qf, .ref op_, .int ql])), (ow, .inl (cI, 108000, .inl fa)), (om, .inl (cI, 9, .inl fb)), (oh, .inl (cI, 10000, .inl fc)), (ok_, .inl (cI, 166400, .inl fk)), (oK, .inl (cI, 64, .inl fK)), (og, .inl (cI, 32, .inl fs)), (on_, .inl (cI, 32, .inl fn))] := hD.sub [0, 1, 2, 3, 4, 5, 6, 7] (by decide) rfl
                rw [hQ, ← hAe]
                refine r_i (v := (iZ 0)) K (fa, fb, fc, v9) hS d_Mo_round_153 ?_ (fun t ht hv => ?_)
                · exact ⟨rfl, w9⟩
                · exact ⟨by rw [ht]; exact hP9, va_K.moved hv hK, by rw [← hAe]; exact hD9⟩
            · refine lv_iload hx hb d_Mo_round_115 (lv_at hl 0 rfl) ?_
              refine zz_ineg hx hb d_Mo_round_117 ?_
              refine lv_goto (tgt := 123) hx hb d_Mo_round_118 (by decide) ?_
              rw [show (-((bl (tv a) : Int) - (bl (bv a) : Int) - (pb : Int) + (pb : Int)) : Int) = ((bl (tv a) - bl (bv a) : Nat) : Int) by omega]
              refine cv (n := 2) (wr := [(og, .inl (cI, 32, .inl fs)), (on_, .inl (cI, 32, .inl fn)), (ok_, .inl (cI, 166400, .inl fk)), (oK, .inl (cI, 64, .inl fK)), (oh, .inl (cI, 10000, .inl fh4))]) (w1 := (fun (u : (Nat → Int32) × (Nat → Int32)) => [(mo, .inr (8, [.int (iZ 0), .int (iZ (np : Int)), .ref ow, .ref om, .ref ok_, .ref oK, .ref og, .ref on_, .ref oh, .ref ox, .int qn, .int qf, .ref op_, .int ql])), (ow, .inl (cI, 108000, .inl u.1)), (om, .inl (cI, 9, .inl u.2))])) (As := [.int (iZ 1), .int (iZ ((bl (tv a) - bl (bv a) : Nat) : Int))]) (rest := []) K hP hD hK hS hA hl.1 (c_Mo_doubled l D mo (iZ 0) np ow om ok_ oK og on_ oh ox qn qf op_ ql fx4 fy4 cI v4 1 (bl (tv a) - bl (bv a)) H.size w4 (by decide) (by omega) (by rw [z41]; have z := nd_shl (bv a) (bl (tv a) - bl (bv a)); omega)) [4, 5, 6] [0, 1, 2, 3, 7] [0] rfl rfl rfl (by decide) (by decide) (by decide) 0 rfl rfl (big_in mw_1320 rfl) (big_in mw_10 rfl) (big_in mw_1317 rfl) (big_in mw_1319 rfl) (big_in sp_42 rfl) rfl rfl (by decide +kernel) ⟨by rw [hR]; exact Nat.le_of_ble_eq_true rfl, by rw [hR]; exact Nat.le_of_ble_eq_true rfl⟩ rfl (Nat.le_of_ble_eq_true rfl) d_Mo_round_123 ⟨by rw [hR]; exact Nat.le_of_ble_eq_true rfl, by rw [hR]; exact Nat.le_of_ble_eq_true rfl⟩ rfl (fun v u H locs hp12 hP hD hS _ => ?_)
              obtain ⟨fx5, fy5⟩ := u
              try dsimp only at hp12
              obtain ⟨rfl, w5⟩ := hp12
              have hP : va_P D cls0 [(og, .inl (cI, 32, .inl fs)), (on_, .inl (cI, 32, .inl fn)), (ok_, .inl (cI, 166400, .inl fk)), (oK, .inl (cI, 64, .inl fK)), (oh, .inl (cI, 10000, .inl fh4)), (mo, .inr (8, [.int (iZ 0), .int (iZ (np : Int)), .ref ow, .ref om, .ref ok_, .ref oK, .ref og, .ref on_, .ref oh, .ref ox, .int qn, .int qf, .ref op_, .int ql])), (ow, .inl (cI, 108000, .inl fx5)), (om, .inl (cI, 9, .inl fy5))] H := hP
              have hD : va_D A [(og, .inl (cI, 32, .inl fs)), (on_, .inl (cI, 32, .inl fn)), (ok_, .inl (cI, 166400, .inl fk)), (oK, .inl (cI, 64, .inl fK)), (oh, .inl (cI, 10000, .inl fh4)), (mo, .inr (8, [.int (iZ 0), .int (iZ (np : Int)), .ref ow, .ref om, .ref ok_, .ref oK, .ref og, .ref on_, .ref oh, .ref ox, .int qn, .int qf, .ref op_, .int ql])), (ow, .inl (cI, 108000, .inl fx5)), (om, .inl (cI, 9, .inl fy5))] := hD
              show W p l e R s m args below meth c H locs _ _ Q (F0 m 126 ls [])
              rw [z41] at w5
              obtain ⟨v5, hv5⟩ : ∃ z, z = up v4 1 (bv a * 2 ^ (bl (tv a) - bl (bv a))) := ⟨_, rfl⟩
              rw [← hv5] at w5
              have z50 : v5 0 = tv a * 2 ^ (bl (bv a) - bl (tv a)) := by rw [hv5, up_n (by decide), z40, show bl (bv a) - bl (tv a) = 0 by omega, Nat.pow_zero, Nat.mul_one]
              have z51 : v5 1 = bv a * 2 ^ (bl (tv a) - bl (bv a)) := by rw [hv5, up_s]
              refine lv_iload hx hb d_Mo_round_126 (lv_at hl 1 rfl) ?_
              refine lv_aload_n hx hb d_Mo_round_128 rfl (lv_at hl 2 rfl) ?_
              refine lv_iconst (v := iZ (0)) hx hb d_Mo_round_129 (by decide +kernel) ?_
              refine lv_iconst (v := iZ (1)) hx hb d_Mo_round_130 (by decide +kernel) ?_
              refine cv (n := 2) (wr := [(og, .inl (cI, 32, .inl fs)), (on_, .inl (cI, 32, .inl fn)), (ok_, .inl (cI, 166400, .inl fk)), (oK, .inl (cI, 64, .inl fK)), (oh, .inl (cI, 10000, .inl fh4))]) (w1 := (fun (u : Int) => [(mo, .inr (8, [.int (iZ 0), .int (iZ (np : Int)), .ref ow, .ref om, .ref ok_, .ref oK, .ref og, .ref on_, .ref oh, .ref ox, .int qn, .int qf, .ref op_, .int ql])), (ow, .inl (cI, 108000, .inl fx5)), (om, .inl (cI, 9, .inl fy5))])) (As := [.int (iZ 0), .int (iZ 1)]) (rest := [.int (iZ ((bl (tv a) : Int) - (bl (bv a) : Int) - (pb : Int)))]) K hP hD hK hS hA hl.1 (c_Mo_order l D mo (iZ 0) np ow om ok_ oK og on_ oh ox qn qf op_ ql fx5 fy5 cI v5 0 1 H.size w5 (by omega) (by omega)) [5, 6, 7] [0, 1, 2, 3, 4] [0] rfl rfl rfl (by decide) (by decide) (by decide) 0 rfl rfl (big_in mw_1270 rfl) (big_in mw_10 rfl) (big_in mw_1267 rfl) (big_in mw_1269 rfl) (big_in sp_37 rfl) rfl rfl (by decide +kernel) ⟨by rw [hR]; exact Nat.le_of_ble_eq_true rfl, by rw [hR]; exact Nat.le_of_ble_eq_true rfl⟩ rfl (Nat.le_of_ble_eq_true rfl) d_Mo_round_131 ⟨by rw [hR]; exact Nat.le_of_ble_eq_true rfl, by rw [hR]; exact Nat.le_of_ble_eq_true rfl⟩ rfl (fun v u H locs hp13 hP hD hS _ => ?_)
              obtain ⟨rc, rfl⟩ : ∃ z, z = u := ⟨_, rfl⟩
              obtain ⟨rfl, gq⟩ := hp13
              have hP : va_P D cls0 [(og, .inl (cI, 32, .inl fs)), (on_, .inl (cI, 32, .inl fn)), (ok_, .inl (cI, 166400, .inl fk)), (oK, .inl (cI, 64, .inl fK)), (oh, .inl (cI, 10000, .inl fh4)), (mo, .inr (8, [.int (iZ 0), .int (iZ (np : Int)), .ref ow, .ref om, .ref ok_, .ref oK, .ref og, .ref on_, .ref oh, .ref ox, .int qn, .int qf, .ref op_, .int ql])), (ow, .inl (cI, 108000, .inl fx5)), (om, .inl (cI, 9, .inl fy5))] H := hP
              have hD : va_D A [(og, .inl (cI, 32, .inl fs)), (on_, .inl (cI, 32, .inl fn)), (ok_, .inl (cI, 166400, .inl fk)), (oK, .inl (cI, 64, .inl fK)), (oh, .inl (cI, 10000, .inl fh4)), (mo, .inr (8, [.int (iZ 0), .int (iZ (np : Int)), .ref ow, .ref om, .ref ok_, .ref oK, .ref og, .ref on_, .ref oh, .ref ox, .int qn, .int qf, .ref op_, .int ql])), (ow, .inl (cI, 108000, .inl fx5)), (om, .inl (cI, 9, .inl fy5))] := hD
              show W p l e R s m args below meth c H locs _ _ Q (F0 m 134 ls [.int (iZ rc), .int (iZ ((bl (tv a) : Int) - (bl (bv a) : Int) - (pb : Int)))])
              rw [z50, z51] at gq
              have t0 : (rc < 0 ↔ ((tv a * 2 ^ (bl (bv a) - bl (tv a)) : Nat) : Int) < ((bv a * 2 ^ (bl (tv a) - bl (bv a)) : Nat) : Int)) ∧ (-1 ≤ rc ∧ rc ≤ 1) := by rw [gq]; exact ⟨cmpZ_lt, cmpZ_r _ _⟩
              clear gq
              have xs : (rc < 0 ∧ xE (tv a) (bv a) = (bl (tv a) : Int) - (bl (bv a) : Int) - 1) ∨ (0 ≤ rc ∧ xE (tv a) (bv a) = (bl (tv a) : Int) - (bl (bv a) : Int)) := by unfold xE; by_cases z : tv a * 2 ^ (bl (bv a) - bl (tv a)) < bv a * 2 ^ (bl (tv a) - bl (bv a)); (left; rw [if_pos z]; omega); (right; rw [if_neg z]; omega)
              have trc := t0.2
              clear t0
              refine zz_if_lt (tgt := 141) hx hb d_Mo_round_134 (by decide) (by omega) (fun c134 => ?_) (fun c134 => ?_)
              · refine lv_iconst (v := iZ (0)) hx hb d_Mo_round_141 (by decide +kernel) ?_
                refine zz_iadd hx hb d_Mo_round_142 ?_
                refine lv_istore (lv' := [(4, .int (iZ ((bl (tv a) : Int) - (bl (bv a) : Int) - (pb : Int) + 0))), (5, .int (iZ ((bl (tv a) : Int) - (bl (bv a) : Int) - (pb : Int) + (pb : Int)))), (0, .ref mo), (1, .int (iZ (to : Int))), (2, .int (iZ (a : Int))), (3, .int (iZ (pb : Int)))]) hx hb d_Mo_round_143 hl (by decide) rfl (fun ls hl => ?_)
                refine lv_aload_n hx hb d_Mo_round_145 rfl (lv_at hl 2 rfl) ?_
                refine lv_iload_n hx hb d_Mo_round_146 rfl (lv_at hl 3 rfl) ?_
                refine lv_iload_n hx hb d_Mo_round_147 rfl (lv_at hl 4 rfl) ?_
                refine lv_iload hx hb d_Mo_round_148 (lv_at hl 0 rfl) ?_
                rw [show ((bl (tv a) : Int) - (bl (bv a) : Int) - (pb : Int) + 0 : Int) = -(E : Int) by omega]
                refine cv (n := 3) (wr := []) (w1 := (fun (u : (Nat → Int32) × (Nat → Int32) × (Nat → Int32) × (Nat → Nat)) => [(mo, .inr (8, [.int (iZ 3), .int (iZ (np : Int)), .ref ow, .ref om, .ref ok_, .ref oK, .ref og, .ref on_, .ref oh, .ref ox, .int qn, .int qf, .ref op_, .int ql])), (ow, .inl (cI, 108000, .inl u.1)), (om, .inl (cI, 9, .inl u.2.1)), (oh, .inl (cI, 10000, .inl u.2.2.1)), (ok_, .inl (cI, 166400, .inl fk)), (oK, .inl (cI, 64, .inl fK)), (og, .inl (cI, 32, .inl fs)), (on_, .inl (cI, 32, .inl fn))])) (As := [.int (iZ (to : Int)), .int (iZ (a : Int)), .int (iZ (-(E : Int)))]) (rest := []) K hP hD hK hS hA hl.1 (f_Mo_multipleDn l D mo (iZ 0) np ow om ok_ oK og on_ oh ox qn qf op_ ql fx5 fy5 cI fh4 fk fK fs fn v5 tv bv sg to a E H.size w5 hMR hnd hnp J hbv t1 t2 hE hE0 hfit) [5, 6, 7, 4, 2, 3, 0, 1] [] [0] rfl rfl rfl (by decide) (by decide) (by decide) 0 rfl rfl (big_in mw_1329 rfl) (big_in mw_10 rfl) (big_in mw_1326 rfl) (big_in mw_1328 rfl) (big_in sp_44 rfl) rfl rfl (by decide +kernel) ⟨by rw [hR]; exact Nat.le_of_ble_eq_true rfl, by rw [hR]; exact Nat.le_of_ble_eq_true rfl⟩ rfl (Nat.le_of_ble_eq_true rfl) d_Mo_round_150 ⟨by rw [hR]; exact Nat.le_of_ble_eq_true rfl, by rw [hR]; exact Nat.le_of_ble_eq_true rfl⟩ rfl (fun v u H locs hp14 hP hD hS _ => ?_)
                obtain ⟨fa, fb, fc, v9⟩ := u
                try dsimp only at hp14
                obtain ⟨rfl, w9⟩ := hp14
                have hP : va_P D cls0 [(mo, .inr (8, [.int (iZ 3), .int (iZ (np : Int)), .ref ow, .ref om, .ref ok_, .ref oK, .ref og, .ref on_, .ref oh, .ref ox, .int qn, .int qf, .ref op_, .int ql])), (ow, .inl (cI, 108000, .inl fa)), (om, .inl (cI, 9, .inl fb)), (oh, .inl (cI, 10000, .inl fc)), (ok_, .inl (cI, 166400, .inl fk)), (oK, .inl (cI, 64, .inl fK)), (og, .inl (cI, 32, .inl fs)), (on_, .inl (cI, 32, .inl fn))] H := hP
                have hD : va_D A [(mo, .inr (8, [.int (iZ 3), .int (iZ (np : Int)), .ref ow, .ref om, .ref ok_, .ref oK, .ref og, .ref on_, .ref oh, .ref ox, .int qn, .int qf, .ref op_, .int ql])), (ow, .inl (cI, 108000, .inl fa)), (om, .inl (cI, 9, .inl fb)), (oh, .inl (cI, 10000, .inl fc)), (ok_, .inl (cI, 166400, .inl fk)), (oK, .inl (cI, 64, .inl fK)), (og, .inl (cI, 32, .inl fs)), (on_, .inl (cI, 32, .inl fn))] := hD
                show W p l e R s m args below meth c H locs _ _ Q (F0 m 153 ls [.int (iZ 0)])
                have hP9 : va_P D cls0 [(mo, .inr (8, [.int (iZ 3), .int (iZ (np : Int)), .ref ow, .ref om, .ref ok_, .ref oK, .ref og, .ref on_, .ref oh, .ref ox, .int qn, .int qf, .ref op_, .int ql])), (ow, .inl (cI, 108000, .inl fa)), (om, .inl (cI, 9, .inl fb)), (oh, .inl (cI, 10000, .inl fc)), (ok_, .inl (cI, 166400, .inl fk)), (oK, .inl (cI, 64, .inl fK)), (og, .inl (cI, 32, .inl fs)), (on_, .inl (cI, 32, .inl fn))] H := hP.sub [0, 1, 2, 3, 4, 5, 6, 7] rfl
                have hD9 : va_D A [(mo, .inr (8, [.int (iZ 3), .int (iZ (np : Int)), .ref ow, .ref om, .ref ok_, .ref oK, .ref og, .ref on_, .ref oh, .ref ox, .int qn, .int qf, .ref op_, .int ql])), (ow, .inl (cI, 108000, .inl fa)), (om, .inl (cI, 9, .inl fb)), (oh, .inl (cI, 10000, .inl fc)), (ok_, .inl (cI, 166400, .inl fk)), (oK, .inl (cI, 64, .inl fK)), (og, .inl (cI, 32, .inl fs)), (on_, .inl (cI, 32, .inl fn))] := hD.sub [0, 1, 2, 3, 4, 5, 6, 7] (by decide) rfl
                rw [hQ, ← hAe]
                refine r_i (v := (iZ 0)) K (fa, fb, fc, v9) hS d_Mo_round_153 ?_ (fun t ht hv => ?_)
                · exact ⟨rfl, w9⟩
                · exact ⟨by rw [ht]; exact hP9, va_K.moved hv hK, by rw [← hAe]; exact hD9⟩
              · refine lv_iconst (v := iZ (1)) hx hb d_Mo_round_137 (by decide +kernel) ?_
                refine lv_goto (tgt := 142) hx hb d_Mo_round_138 (by decide) ?_
                refine zz_iadd hx hb d_Mo_round_142 ?_
                refine lv_istore (lv' := [(4, .int (iZ ((bl (tv a) : Int) - (bl (bv a) : Int) - (pb : Int) + 1))), (5, .int (iZ ((bl (tv a) : Int) - (bl (bv a) : Int) - (pb : Int) + (pb : Int)))), (0, .ref mo), (1, .int (iZ (to : Int))), (2, .int (iZ (a : Int))), (3, .int (iZ (pb : Int)))]) hx hb d_Mo_round_143 hl (by decide) rfl (fun ls hl => ?_)
                refine lv_aload_n hx hb d_Mo_round_145 rfl (lv_at hl 2 rfl) ?_
                refine lv_iload_n hx hb d_Mo_round_146 rfl (lv_at hl 3 rfl) ?_
                refine lv_iload_n hx hb d_Mo_round_147 rfl (lv_at hl 4 rfl) ?_
                refine lv_iload hx hb d_Mo_round_148 (lv_at hl 0 rfl) ?_
                rw [show ((bl (tv a) : Int) - (bl (bv a) : Int) - (pb : Int) + 1 : Int) = -(E : Int) by omega]
                refine cv (n := 3) (wr := []) (w1 := (fun (u : (Nat → Int32) × (Nat → Int32) × (Nat → Int32) × (Nat → Nat)) => [(mo, .inr (8, [.int (iZ 3), .int (iZ (np : Int)), .ref ow, .ref om, .ref ok_, .ref oK, .ref og, .ref on_, .ref oh, .ref ox, .int qn, .int qf, .ref op_, .int ql])), (ow, .inl (cI, 108000, .inl u.1)), (om, .inl (cI, 9, .inl u.2.1)), (oh, .inl (cI, 10000, .inl u.2.2.1)), (ok_, .inl (cI, 166400, .inl fk)), (oK, .inl (cI, 64, .inl fK)), (og, .inl (cI, 32, .inl fs)), (on_, .inl (cI, 32, .inl fn))])) (As := [.int (iZ (to : Int)), .int (iZ (a : Int)), .int (iZ (-(E : Int)))]) (rest := []) K hP hD hK hS hA hl.1 (f_Mo_multipleDn l D mo (iZ 0) np ow om ok_ oK og on_ oh ox qn qf op_ ql fx5 fy5 cI fh4 fk fK fs fn v5 tv bv sg to a E H.size w5 hMR hnd hnp J hbv t1 t2 hE hE0 hfit) [5, 6, 7, 4, 2, 3, 0, 1] [] [0] rfl rfl rfl (by decide) (by decide) (by decide) 0 rfl rfl (big_in mw_1329 rfl) (big_in mw_10 rfl) (big_in mw_1326 rfl) (big_in mw_1328 rfl) (big_in sp_44 rfl) rfl rfl (by decide +kernel) ⟨by rw [hR]; exact Nat.le_of_ble_eq_true rfl, by rw [hR]; exact Nat.le_of_ble_eq_true rfl⟩ rfl (Nat.le_of_ble_eq_true rfl) d_Mo_round_150 ⟨by rw [hR]; exact Nat.le_of_ble_eq_true rfl, by rw [hR]; exact Nat.le_of_ble_eq_true rfl⟩ rfl (fun v u H locs hp15 hP hD hS _ => ?_)
                obtain ⟨fa, fb, fc, v9⟩ := u
                try dsimp only at hp15
                obtain ⟨rfl, w9⟩ := hp15
                have hP : va_P D cls0 [(mo, .inr (8, [.int (iZ 3), .int (iZ (np : Int)), .ref ow, .ref om, .ref ok_, .ref oK, .ref og, .ref on_, .ref oh, .ref ox, .int qn, .int qf, .ref op_, .int ql])), (ow, .inl (cI, 108000, .inl fa)), (om, .inl (cI, 9, .inl fb)), (oh, .inl (cI, 10000, .inl fc)), (ok_, .inl (cI, 166400, .inl fk)), (oK, .inl (cI, 64, .inl fK)), (og, .inl (cI, 32, .inl fs)), (on_, .inl (cI, 32, .inl fn))] H := hP
                have hD : va_D A [(mo, .inr (8, [.int (iZ 3), .int (iZ (np : Int)), .ref ow, .ref om, .ref ok_, .ref oK, .ref og, .ref on_, .ref oh, .ref ox, .int qn, .int qf, .ref op_, .int ql])), (ow, .inl (cI, 108000, .inl fa)), (om, .inl (cI, 9, .inl fb)), (oh, .inl (cI, 10000, .inl fc)), (ok_, .inl (cI, 166400, .inl fk)), (oK, .inl (cI, 64, .inl fK)), (og, .inl (cI, 32, .inl fs)), (on_, .inl (cI, 32, .inl fn))] := hD
                show W p l e R s m args below meth c H locs _ _ Q (F0 m 153 ls [.int (iZ 0)])
                have hP9 : va_P D cls0 [(mo, .inr (8, [.int (iZ 3), .int (iZ (np : Int)), .ref ow, .ref om, .ref ok_, .ref oK, .ref og, .ref on_, .ref oh, .ref ox, .int qn, .int qf, .ref op_, .int ql])), (ow, .inl (cI, 108000, .inl fa)), (om, .inl (cI, 9, .inl fb)), (oh, .inl (cI, 10000, .inl fc)), (ok_, .inl (cI, 166400, .inl fk)), (oK, .inl (cI, 64, .inl fK)), (og, .inl (cI, 32, .inl fs)), (on_, .inl (cI, 32, .inl fn))] H := hP.sub [0, 1, 2, 3, 4, 5, 6, 7] rfl
                have hD9 : va_D A [(mo, .inr (8, [.int (iZ 3), .int (iZ (np : Int)), .ref ow, .ref om, .ref ok_, .ref oK, .ref og, .ref on_, .ref oh, .ref ox, .int qn, .int qf, .ref op_, .int ql])), (ow, .inl (cI, 108000, .inl fa)), (om, .inl (cI, 9, .inl fb)), (oh, .inl (cI, 10000, .inl fc)), (ok_, .inl (cI, 166400, .inl fk)), (oK, .inl (cI, 64, .inl fK)), (og, .inl (cI, 32, .inl fs)), (on_, .inl (cI, 32, .inl fn))] := hD.sub [0, 1, 2, 3, 4, 5, 6, 7] (by decide) rfl
                rw [hQ, ← hAe]
                refine r_i (v := (iZ 0)) K (fa, fb, fc, v9) hS d_Mo_round_153 ?_ (fun t ht hv => ?_)
                · exact ⟨rfl, w9⟩
                · exact ⟨by rw [ht]; exact hP9, va_K.moved hv hK, by rw [← hAe]; exact hD9⟩
          · refine lv_iconst (v := iZ (0)) hx hb d_Mo_round_105 (by decide +kernel) ?_
            refine lv_goto (tgt := 110) hx hb d_Mo_round_106 (by decide) ?_
            refine lv_iload hx hb d_Mo_round_110 (lv_at hl 0 rfl) ?_
            refine zz_if_ge (tgt := 121) hx hb d_Mo_round_112 (by decide) (by omega) (fun c112 => ?_) (fun c112 => ?_)
            · refine lv_iload hx hb d_Mo_round_121 (lv_at hl 0 rfl) ?_
              rw [show ((bl (tv a) : Int) - (bl (bv a) : Int) - (pb : Int) + (pb : Int) : Int) = ((bl (bv a) - bl (tv a) : Nat) : Int) by omega]
              refine cv (n := 2) (wr := [(og, .inl (cI, 32, .inl fs)), (on_, .inl (cI, 32, .inl fn)), (ok_, .inl (cI, 166400, .inl fk)), (oK, .inl (cI, 64, .inl fK)), (oh, .inl (cI, 10000, .inl fh4))]) (w1 := (fun (u : (Nat → Int32) × (Nat → Int32)) => [(mo, .inr (8, [.int (iZ 0), .int (iZ (np : Int)), .ref ow, .ref om, .ref ok_, .ref oK, .ref og, .ref on_, .ref oh, .ref ox, .int qn, .int qf, .ref op_, .int ql])), (ow, .inl (cI, 108000, .inl u.1)), (om, .inl (cI, 9, .inl u.2))])) (As := [.int (iZ 0), .int (iZ ((bl (bv a) - bl (tv a) : Nat) : Int))]) (rest := []) K hP hD hK hS hA hl.1 (c_Mo_doubled l D mo (iZ 0) np ow om ok_ oK og on_ oh ox qn qf op_ ql fx4 fy4 cI v4 0 (bl (bv a) - bl (tv a)) H.size w4 (by decide) (by omega) (by rw [z40]; have z := nd_shl (tv a) (bl (bv a) - bl (tv a)); omega)) [4, 5, 6] [0, 1, 2, 3, 7] [0] rfl rfl rfl (by decide) (by decide) (by decide) 0 rfl rfl (big_in mw_1320 rfl) (big_in mw_10 rfl) (big_in mw_1317 rfl) (big_in mw_1319 rfl) (big_in sp_42 rfl) rfl rfl (by decide +kernel) ⟨by rw [hR]; exact Nat.le_of_ble_eq_true rfl, by rw [hR]; exact Nat.le_of_ble_eq_true rfl⟩ rfl (Nat.le_of_ble_eq_true rfl) d_Mo_round_123 ⟨by rw [hR]; exact Nat.le_of_ble_eq_true rfl, by rw [hR]; exact Nat.le_of_ble_eq_true rfl⟩ rfl (fun v u H locs hp16 hP hD hS _ => ?_)
              obtain ⟨fx5, fy5⟩ := u
              try dsimp only at hp16
              obtain ⟨rfl, w5⟩ := hp16
              have hP : va_P D cls0 [(og, .inl (cI, 32, .inl fs)), (on_, .inl (cI, 32, .inl fn)), (ok_, .inl (cI, 166400, .inl fk)), (oK, .inl (cI, 64, .inl fK)), (oh, .inl (cI, 10000, .inl fh4)), (mo, .inr (8, [.int (iZ 0), .int (iZ (np : Int)), .ref ow, .ref om, .ref ok_, .ref oK, .ref og, .ref on_, .ref oh, .ref ox, .int qn, .int qf, .ref op_, .int ql])), (ow, .inl (cI, 108000, .inl fx5)), (om, .inl (cI, 9, .inl fy5))] H := hP
              have hD : va_D A [(og, .inl (cI, 32, .inl fs)), (on_, .inl (cI, 32, .inl fn)), (ok_, .inl (cI, 166400, .inl fk)), (oK, .inl (cI, 64, .inl fK)), (oh, .inl (cI, 10000, .inl fh4)), (mo, .inr (8, [.int (iZ 0), .int (iZ (np : Int)), .ref ow, .ref om, .ref ok_, .ref oK, .ref og, .ref on_, .ref oh, .ref ox, .int qn, .int qf, .ref op_, .int ql])), (ow, .inl (cI, 108000, .inl fx5)), (om, .inl (cI, 9, .inl fy5))] := hD
              show W p l e R s m args below meth c H locs _ _ Q (F0 m 126 ls [])
              rw [z40] at w5
              obtain ⟨v5, hv5⟩ : ∃ z, z = up v4 0 (tv a * 2 ^ (bl (bv a) - bl (tv a))) := ⟨_, rfl⟩
              rw [← hv5] at w5
              have z50 : v5 0 = tv a * 2 ^ (bl (bv a) - bl (tv a)) := by rw [hv5, up_s]
              have z51 : v5 1 = bv a * 2 ^ (bl (tv a) - bl (bv a)) := by rw [hv5, up_n (by decide), z41, show bl (tv a) - bl (bv a) = 0 by omega, Nat.pow_zero, Nat.mul_one]
              refine lv_iload hx hb d_Mo_round_126 (lv_at hl 1 rfl) ?_
              refine lv_aload_n hx hb d_Mo_round_128 rfl (lv_at hl 2 rfl) ?_
              refine lv_iconst (v := iZ (0)) hx hb d_Mo_round_129 (by decide +kernel) ?_
              refine lv_iconst (v := iZ (1)) hx hb d_Mo_round_130 (by decide +kernel) ?_
              refine cv (n := 2) (wr := [(og, .inl (cI, 32, .inl fs)), (on_, .inl (cI, 32, .inl fn)), (ok_, .inl (cI, 166400, .inl fk)), (oK, .inl (cI, 64, .inl fK)), (oh, .inl (cI, 10000, .inl fh4))]) (w1 := (fun (u : Int) => [(mo, .inr (8, [.int (iZ 0), .int (iZ (np : Int)), .ref ow, .ref om, .ref ok_, .ref oK, .ref og, .ref on_, .ref oh, .ref ox, .int qn, .int qf, .ref op_, .int ql])), (ow, .inl (cI, 108000, .inl fx5)), (om, .inl (cI, 9, .inl fy5))])) (As := [.int (iZ 0), .int (iZ 1)]) (rest := [.int (iZ ((bl (tv a) : Int) - (bl (bv a) : Int) - (pb : Int)))]) K hP hD hK hS hA hl.1 (c_Mo_order l D mo (iZ 0) np ow om ok_ oK og on_ oh ox qn qf op_ ql fx5 fy5 cI v5 0 1 H.size w5 (by omega) (by omega)) [5, 6, 7] [0, 1, 2, 3, 4] [0] rfl rfl rfl (by decide) (by decide) (by decide) 0 rfl rfl (big_in mw_1270 rfl) (big_in mw_10 rfl) (big_in mw_1267 rfl) (big_in mw_1269 rfl) (big_in sp_37 rfl) rfl rfl (by decide +kernel) ⟨by rw [hR]; exact Nat.le_of_ble_eq_true rfl, by rw [hR]; exact Nat.le_of_ble_eq_true rfl⟩ rfl (Nat.le_of_ble_eq_true rfl) d_Mo_round_131 ⟨by rw [hR]; exact Nat.le_of_ble_eq_true rfl, by rw [hR]; exact Nat.le_of_ble_eq_true rfl⟩ rfl (fun v u H locs hp17 hP hD hS _ => ?_)
              obtain ⟨rc, rfl⟩ : ∃ z, z = u := ⟨_, rfl⟩
              obtain ⟨rfl, gq⟩ := hp17
              have hP : va_P D cls0 [(og, .inl (cI, 32, .inl fs)), (on_, .inl (cI, 32, .inl fn)), (ok_, .inl (cI, 166400, .inl fk)), (oK, .inl (cI, 64, .inl fK)), (oh, .inl (cI, 10000, .inl fh4)), (mo, .inr (8, [.int (iZ 0), .int (iZ (np : Int)), .ref ow, .ref om, .ref ok_, .ref oK, .ref og, .ref on_, .ref oh, .ref ox, .int qn, .int qf, .ref op_, .int ql])), (ow, .inl (cI, 108000, .inl fx5)), (om, .inl (cI, 9, .inl fy5))] H := hP
              have hD : va_D A [(og, .inl (cI, 32, .inl fs)), (on_, .inl (cI, 32, .inl fn)), (ok_, .inl (cI, 166400, .inl fk)), (oK, .inl (cI, 64, .inl fK)), (oh, .inl (cI, 10000, .inl fh4)), (mo, .inr (8, [.int (iZ 0), .int (iZ (np : Int)), .ref ow, .ref om, .ref ok_, .ref oK, .ref og, .ref on_, .ref oh, .ref ox, .int qn, .int qf, .ref op_, .int ql])), (ow, .inl (cI, 108000, .inl fx5)), (om, .inl (cI, 9, .inl fy5))] := hD
              show W p l e R s m args below meth c H locs _ _ Q (F0 m 134 ls [.int (iZ rc), .int (iZ ((bl (tv a) : Int) - (bl (bv a) : Int) - (pb : Int)))])
              rw [z50, z51] at gq
              have t0 : (rc < 0 ↔ ((tv a * 2 ^ (bl (bv a) - bl (tv a)) : Nat) : Int) < ((bv a * 2 ^ (bl (tv a) - bl (bv a)) : Nat) : Int)) ∧ (-1 ≤ rc ∧ rc ≤ 1) := by rw [gq]; exact ⟨cmpZ_lt, cmpZ_r _ _⟩
              clear gq
              have xs : (rc < 0 ∧ xE (tv a) (bv a) = (bl (tv a) : Int) - (bl (bv a) : Int) - 1) ∨ (0 ≤ rc ∧ xE (tv a) (bv a) = (bl (tv a) : Int) - (bl (bv a) : Int)) := by unfold xE; by_cases z : tv a * 2 ^ (bl (bv a) - bl (tv a)) < bv a * 2 ^ (bl (tv a) - bl (bv a)); (left; rw [if_pos z]; omega); (right; rw [if_neg z]; omega)
              have trc := t0.2
              clear t0
              refine zz_if_lt (tgt := 141) hx hb d_Mo_round_134 (by decide) (by omega) (fun c134 => ?_) (fun c134 => ?_)
              · refine lv_iconst (v := iZ (0)) hx hb d_Mo_round_141 (by decide +kernel) ?_
                refine zz_iadd hx hb d_Mo_round_142 ?_
                refine lv_istore (lv' := [(4, .int (iZ ((bl (tv a) : Int) - (bl (bv a) : Int) - (pb : Int) + 0))), (5, .int (iZ ((bl (tv a) : Int) - (bl (bv a) : Int) - (pb : Int) + (pb : Int)))), (0, .ref mo), (1, .int (iZ (to : Int))), (2, .int (iZ (a : Int))), (3, .int (iZ (pb : Int)))]) hx hb d_Mo_round_143 hl (by decide) rfl (fun ls hl => ?_)
                refine lv_aload_n hx hb d_Mo_round_145 rfl (lv_at hl 2 rfl) ?_
                refine lv_iload_n hx hb d_Mo_round_146 rfl (lv_at hl 3 rfl) ?_
                refine lv_iload_n hx hb d_Mo_round_147 rfl (lv_at hl 4 rfl) ?_
                refine lv_iload hx hb d_Mo_round_148 (lv_at hl 0 rfl) ?_
                rw [show ((bl (tv a) : Int) - (bl (bv a) : Int) - (pb : Int) + 0 : Int) = -(E : Int) by omega]
                refine cv (n := 3) (wr := []) (w1 := (fun (u : (Nat → Int32) × (Nat → Int32) × (Nat → Int32) × (Nat → Nat)) => [(mo, .inr (8, [.int (iZ 3), .int (iZ (np : Int)), .ref ow, .ref om, .ref ok_, .ref oK, .ref og, .ref on_, .ref oh, .ref ox, .int qn, .int qf, .ref op_, .int ql])), (ow, .inl (cI, 108000, .inl u.1)), (om, .inl (cI, 9, .inl u.2.1)), (oh, .inl (cI, 10000, .inl u.2.2.1)), (ok_, .inl (cI, 166400, .inl fk)), (oK, .inl (cI, 64, .inl fK)), (og, .inl (cI, 32, .inl fs)), (on_, .inl (cI, 32, .inl fn))])) (As := [.int (iZ (to : Int)), .int (iZ (a : Int)), .int (iZ (-(E : Int)))]) (rest := []) K hP hD hK hS hA hl.1 (f_Mo_multipleDn l D mo (iZ 0) np ow om ok_ oK og on_ oh ox qn qf op_ ql fx5 fy5 cI fh4 fk fK fs fn v5 tv bv sg to a E H.size w5 hMR hnd hnp J hbv t1 t2 hE hE0 hfit) [5, 6, 7, 4, 2, 3, 0, 1] [] [0] rfl rfl rfl (by decide) (by decide) (by decide) 0 rfl rfl (big_in mw_1329 rfl) (big_in mw_10 rfl) (big_in mw_1326 rfl) (big_in mw_1328 rfl) (big_in sp_44 rfl) rfl rfl (by decide +kernel) ⟨by rw [hR]; exact Nat.le_of_ble_eq_true rfl, by rw [hR]; exact Nat.le_of_ble_eq_true rfl⟩ rfl (Nat.le_of_ble_eq_true rfl) d_Mo_round_150 ⟨by rw [hR]; exact Nat.le_of_ble_eq_true rfl, by rw [hR]; exact Nat.le_of_ble_eq_true rfl⟩ rfl (fun v u H locs hp18 hP hD hS _ => ?_)
                obtain ⟨fa, fb, fc, v9⟩ := u
                try dsimp only at hp18
                obtain ⟨rfl, w9⟩ := hp18
                have hP : va_P D cls0 [(mo, .inr (8, [.int (iZ 3), .int (iZ (np : Int)), .ref ow, .ref om, .ref ok_, .ref oK, .ref og, .ref on_, .ref oh, .ref ox, .int qn, .int qf, .ref op_, .int ql])), (ow, .inl (cI, 108000, .inl fa)), (om, .inl (cI, 9, .inl fb)), (oh, .inl (cI, 10000, .inl fc)), (ok_, .inl (cI, 166400, .inl fk)), (oK, .inl (cI, 64, .inl fK)), (og, .inl (cI, 32, .inl fs)), (on_, .inl (cI, 32, .inl fn))] H := hP
                have hD : va_D A [(mo, .inr (8, [.int (iZ 3), .int (iZ (np : Int)), .ref ow, .ref om, .ref ok_, .ref oK, .ref og, .ref on_, .ref oh, .ref ox, .int qn, .int qf, .ref op_, .int ql])), (ow, .inl (cI, 108000, .inl fa)), (om, .inl (cI, 9, .inl fb)), (oh, .inl (cI, 10000, .inl fc)), (ok_, .inl (cI, 166400, .inl fk)), (oK, .inl (cI, 64, .inl fK)), (og, .inl (cI, 32, .inl fs)), (on_, .inl (cI, 32, .inl fn))] := hD
                show W p l e R s m args below meth c H locs _ _ Q (F0 m 153 ls [.int (iZ 0)])
                have hP9 : va_P D cls0 [(mo, .inr (8, [.int (iZ 3), .int (iZ (np : Int)), .ref ow, .ref om, .ref ok_, .ref oK, .ref og, .ref on_, .ref oh, .ref ox, .int qn, .int qf, .ref op_, .int ql])), (ow, .inl (cI, 108000, .inl fa)), (om, .inl (cI, 9, .inl fb)), (oh, .inl (cI, 10000, .inl fc)), (ok_, .inl (cI, 166400, .inl fk)), (oK, .inl (cI, 64, .inl fK)), (og, .inl (cI, 32, .inl fs)), (on_, .inl (cI, 32, .inl fn))] H := hP.sub [0, 1, 2, 3, 4, 5, 6, 7] rfl
                have hD9 : va_D A [(mo, .inr (8, [.int (iZ 3), .int (iZ (np : Int)), .ref ow, .ref om, .ref ok_, .ref oK, .ref og, .ref on_, .ref oh, .ref ox, .int qn, .int qf, .ref op_, .int ql])), (ow, .inl (cI, 108000, .inl fa)), (om, .inl (cI, 9, .inl fb)), (oh, .inl (cI, 10000, .inl fc)), (ok_, .inl (cI, 166400, .inl fk)), (oK, .inl (cI, 64, .inl fK)), (og, .inl (cI, 32, .inl fs)), (on_, .inl (cI, 32, .inl fn))] := hD.sub [0, 1, 2, 3, 4, 5, 6, 7] (by decide) rfl
                rw [hQ, ← hAe]
                refine r_i (v := (iZ 0)) K (fa, fb, fc, v9) hS d_Mo_round_153 ?_ (fun t ht hv => ?_)
                · exact ⟨rfl, w9⟩
                · exact ⟨by rw [ht]; exact hP9, va_K.moved hv hK, by rw [← hAe]; exact hD9⟩
              · refine lv_iconst (v := iZ (1)) hx hb d_Mo_round_137 (by decide +kernel) ?_
                refine lv_goto (tgt := 142) hx hb d_Mo_round_138 (by decide) ?_
                refine zz_iadd hx hb d_Mo_round_142 ?_
                refine lv_istore (lv' := [(4, .int (iZ ((bl (tv a) : Int) - (bl (bv a) : Int) - (pb : Int) + 1))), (5, .int (iZ ((bl (tv a) : Int) - (bl (bv a) : Int) - (pb : Int) + (pb : Int)))), (0, .ref mo), (1, .int (iZ (to : Int))), (2, .int (iZ (a : Int))), (3, .int (iZ (pb : Int)))]) hx hb d_Mo_round_143 hl (by decide) rfl (fun ls hl => ?_)
                refine lv_aload_n hx hb d_Mo_round_145 rfl (lv_at hl 2 rfl) ?_
                refine lv_iload_n hx hb d_Mo_round_146 rfl (lv_at hl 3 rfl) ?_
                refine lv_iload_n hx hb d_Mo_round_147 rfl (lv_at hl 4 rfl) ?_
                refine lv_iload hx hb d_Mo_round_148 (lv_at hl 0 rfl) ?_
                rw [show ((bl (tv a) : Int) - (bl (bv a) : Int) - (pb : Int) + 1 : Int) = -(E : Int) by omega]
                refine cv (n := 3) (wr := []) (w1 := (fun (u : (Nat → Int32) × (Nat → Int32) × (Nat → Int32) × (Nat → Nat)) => [(mo, .inr (8, [.int (iZ 3), .int (iZ (np : Int)), .ref ow, .ref om, .ref ok_, .ref oK, .ref og, .ref on_, .ref oh, .ref ox, .int qn, .int qf, .ref op_, .int ql])), (ow, .inl (cI, 108000, .inl u.1)), (om, .inl (cI, 9, .inl u.2.1)), (oh, .inl (cI, 10000, .inl u.2.2.1)), (ok_, .inl (cI, 166400, .inl fk)), (oK, .inl (cI, 64, .inl fK)), (og, .inl (cI, 32, .inl fs)), (on_, .inl (cI, 32, .inl fn))])) (As := [.int (iZ (to : Int)), .int (iZ (a : Int)), .int (iZ (-(E : Int)))]) (rest := []) K hP hD hK hS hA hl.1 (f_Mo_multipleDn l D mo (iZ 0) np ow om ok_ oK og on_ oh ox qn qf op_ ql fx5 fy5 cI fh4 fk fK fs fn v5 tv bv sg to a E H.size w5 hMR hnd hnp J hbv t1 t2 hE hE0 hfit) [5, 6, 7, 4, 2, 3, 0, 1] [] [0] rfl rfl rfl (by decide) (by decide) (by decide) 0 rfl rfl (big_in mw_1329 rfl) (big_in mw_10 rfl) (big_in mw_1326 rfl) (big_in mw_1328 rfl) (big_in sp_44 rfl) rfl rfl (by decide +kernel) ⟨by rw [hR]; exact Nat.le_of_ble_eq_true rfl, by rw [hR]; exact Nat.le_of_ble_eq_true rfl⟩ rfl (Nat.le_of_ble_eq_true rfl) d_Mo_round_150 ⟨by rw [hR]; exact Nat.le_of_ble_eq_true rfl, by rw [hR]; exact Nat.le_of_ble_eq_true rfl⟩ rfl (fun v u H locs hp19 hP hD hS _ => ?_)
                obtain ⟨fa, fb, fc, v9⟩ := u
                try dsimp only at hp19
                obtain ⟨rfl, w9⟩ := hp19
                have hP : va_P D cls0 [(mo, .inr (8, [.int (iZ 3), .int (iZ (np : Int)), .ref ow, .ref om, .ref ok_, .ref oK, .ref og, .ref on_, .ref oh, .ref ox, .int qn, .int qf, .ref op_, .int ql])), (ow, .inl (cI, 108000, .inl fa)), (om, .inl (cI, 9, .inl fb)), (oh, .inl (cI, 10000, .inl fc)), (ok_, .inl (cI, 166400, .inl fk)), (oK, .inl (cI, 64, .inl fK)), (og, .inl (cI, 32, .inl fs)), (on_, .inl (cI, 32, .inl fn))] H := hP
                have hD : va_D A [(mo, .inr (8, [.int (iZ 3), .int (iZ (np : Int)), .ref ow, .ref om, .ref ok_, .ref oK, .ref og, .ref on_, .ref oh, .ref ox, .int qn, .int qf, .ref op_, .int ql])), (ow, .inl (cI, 108000, .inl fa)), (om, .inl (cI, 9, .inl fb)), (oh, .inl (cI, 10000, .inl fc)), (ok_, .inl (cI, 166400, .inl fk)), (oK, .inl (cI, 64, .inl fK)), (og, .inl (cI, 32, .inl fs)), (on_, .inl (cI, 32, .inl fn))] := hD
                show W p l e R s m args below meth c H locs _ _ Q (F0 m 153 ls [.int (iZ 0)])
                have hP9 : va_P D cls0 [(mo, .inr (8, [.int (iZ 3), .int (iZ (np : Int)), .ref ow, .ref om, .ref ok_, .ref oK, .ref og, .ref on_, .ref oh, .ref ox, .int qn, .int qf, .ref op_, .int ql])), (ow, .inl (cI, 108000, .inl fa)), (om, .inl (cI, 9, .inl fb)), (oh, .inl (cI, 10000, .inl fc)), (ok_, .inl (cI, 166400, .inl fk)), (oK, .inl (cI, 64, .inl fK)), (og, .inl (cI, 32, .inl fs)), (on_, .inl (cI, 32, .inl fn))] H := hP.sub [0, 1, 2, 3, 4, 5, 6, 7] rfl
                have hD9 : va_D A [(mo, .inr (8, [.int (iZ 3), .int (iZ (np : Int)), .ref ow, .ref om, .ref ok_, .ref oK, .ref og, .ref on_, .ref oh, .ref ox, .int qn, .int qf, .ref op_, .int ql])), (ow, .inl (cI, 108000, .inl fa)), (om, .inl (cI, 9, .inl fb)), (oh, .inl (cI, 10000, .inl fc)), (ok_, .inl (cI, 166400, .inl fk)), (oK, .inl (cI, 64, .inl fK)), (og, .inl (cI, 32, .inl fs)), (on_, .inl (cI, 32, .inl fn))] := hD.sub [0, 1, 2, 3, 4, 5, 6, 7] (by decide) rfl
                rw [hQ, ← hAe]
                refine r_i (v := (iZ 0)) K (fa, fb, fc, v9) hS d_Mo_round_153 ?_ (fun t ht hv => ?_)
                · exact ⟨rfl, w9⟩
                · exact ⟨by rw [ht]; exact hP9, va_K.moved hv hK, by rw [← hAe]; exact hD9⟩
            · refine lv_iload hx hb d_Mo_round_115 (lv_at hl 0 rfl) ?_
              refine zz_ineg hx hb d_Mo_round_117 ?_
              refine lv_goto (tgt := 123) hx hb d_Mo_round_118 (by decide) ?_
              rw [show (-((bl (tv a) : Int) - (bl (bv a) : Int) - (pb : Int) + (pb : Int)) : Int) = ((bl (bv a) - bl (tv a) : Nat) : Int) by omega]
              refine cv (n := 2) (wr := [(og, .inl (cI, 32, .inl fs)), (on_, .inl (cI, 32, .inl fn)), (ok_, .inl (cI, 166400, .inl fk)), (oK, .inl (cI, 64, .inl fK)), (oh, .inl (cI, 10000, .inl fh4))]) (w1 := (fun (u : (Nat → Int32) × (Nat → Int32)) => [(mo, .inr (8, [.int (iZ 0), .int (iZ (np : Int)), .ref ow, .ref om, .ref ok_, .ref oK, .ref og, .ref on_, .ref oh, .ref ox, .int qn, .int qf, .ref op_, .int ql])), (ow, .inl (cI, 108000, .inl u.1)), (om, .inl (cI, 9, .inl u.2))])) (As := [.int (iZ 0), .int (iZ ((bl (bv a) - bl (tv a) : Nat) : Int))]) (rest := []) K hP hD hK hS hA hl.1 (c_Mo_doubled l D mo (iZ 0) np ow om ok_ oK og on_ oh ox qn qf op_ ql fx4 fy4 cI v4 0 (bl (bv a) - bl (tv a)) H.size w4 (by decide) (by omega) (by rw [z40]; have z := nd_shl (tv a) (bl (bv a) - bl (tv a)); omega)) [4, 5, 6] [0, 1, 2, 3, 7] [0] rfl rfl rfl (by decide) (by decide) (by decide) 0 rfl rfl (big_in mw_1320 rfl) (big_in mw_10 rfl) (big_in mw_1317 rfl) (big_in mw_1319 rfl) (big_in sp_42 rfl) rfl rfl (by decide +kernel) ⟨by rw [hR]; exact Nat.le_of_ble_eq_true rfl, by rw [hR]; exact Nat.le_of_ble_eq_true rfl⟩ rfl (Nat.le_of_ble_eq_true rfl) d_Mo_round_123 ⟨by rw [hR]; exact Nat.le_of_ble_eq_true rfl, by rw [hR]; exact Nat.le_of_ble_eq_true rfl⟩ rfl (fun v u H locs hp20 hP hD hS _ => ?_)
              obtain ⟨fx5, fy5⟩ := u
              try dsimp only at hp20
              obtain ⟨rfl, w5⟩ := hp20
              have hP : va_P D cls0 [(og, .inl (cI, 32, .inl fs)), (on_, .inl (cI, 32, .inl fn)), (ok_, .inl (cI, 166400, .inl fk)), (oK, .inl (cI, 64, .inl fK)), (oh, .inl (cI, 10000, .inl fh4)), (mo, .inr (8, [.int (iZ 0), .int (iZ (np : Int)), .ref ow, .ref om, .ref ok_, .ref oK, .ref og, .ref on_, .ref oh, .ref ox, .int qn, .int qf, .ref op_, .int ql])), (ow, .inl (cI, 108000, .inl fx5)), (om, .inl (cI, 9, .inl fy5))] H := hP
              have hD : va_D A [(og, .inl (cI, 32, .inl fs)), (on_, .inl (cI, 32, .inl fn)), (ok_, .inl (cI, 166400, .inl fk)), (oK, .inl (cI, 64, .inl fK)), (oh, .inl (cI, 10000, .inl fh4)), (mo, .inr (8, [.int (iZ 0), .int (iZ (np : Int)), .ref ow, .ref om, .ref ok_, .ref oK, .ref og, .ref on_, .ref oh, .ref ox, .int qn, .int qf, .ref op_, .int ql])), (ow, .inl (cI, 108000, .inl fx5)), (om, .inl (cI, 9, .inl fy5))] := hD
              show W p l e R s m args below meth c H locs _ _ Q (F0 m 126 ls [])
              rw [z40] at w5
              obtain ⟨v5, hv5⟩ : ∃ z, z = up v4 0 (tv a * 2 ^ (bl (bv a) - bl (tv a))) := ⟨_, rfl⟩
              rw [← hv5] at w5
              have z50 : v5 0 = tv a * 2 ^ (bl (bv a) - bl (tv a)) := by rw [hv5, up_s]
              have z51 : v5 1 = bv a * 2 ^ (bl (tv a) - bl (bv a)) := by rw [hv5, up_n (by decide), z41, show bl (tv a) - bl (bv a) = 0 by omega, Nat.pow_zero, Nat.mul_one]
              refine lv_iload hx hb d_Mo_round_126 (lv_at hl 1 rfl) ?_
              refine lv_aload_n hx hb d_Mo_round_128 rfl (lv_at hl 2 rfl) ?_
              refine lv_iconst (v := iZ (0)) hx hb d_Mo_round_129 (by decide +kernel) ?_
              refine lv_iconst (v := iZ (1)) hx hb d_Mo_round_130 (by decide +kernel) ?_
              refine cv (n := 2) (wr := [(og, .inl (cI, 32, .inl fs)), (on_, .inl (cI, 32, .inl fn)), (ok_, .inl (cI, 166400, .inl fk)), (oK, .inl (cI, 64, .inl fK)), (oh, .inl (cI, 10000, .inl fh4))]) (w1 := (fun (u : Int) => [(mo, .inr (8, [.int (iZ 0), .int (iZ (np : Int)), .ref ow, .ref om, .ref ok_, .ref oK, .ref og, .ref on_, .ref oh, .ref ox, .int qn, .int qf, .ref op_, .int ql])), (ow, .inl (cI, 108000, .inl fx5)), (om, .inl (cI, 9, .inl fy5))])) (As := [.int (iZ 0), .int (iZ 1)]) (rest := [.int (iZ ((bl (tv a) : Int) - (bl (bv a) : Int) - (pb : Int)))]) K hP hD hK hS hA hl.1 (c_Mo_order l D mo (iZ 0) np ow om ok_ oK og on_ oh ox qn qf op_ ql fx5 fy5 cI v5 0 1 H.size w5 (by omega) (by omega)) [5, 6, 7] [0, 1, 2, 3, 4] [0] rfl rfl rfl (by decide) (by decide) (by decide) 0 rfl rfl (big_in mw_1270 rfl) (big_in mw_10 rfl) (big_in mw_1267 rfl) (big_in mw_1269 rfl) (big_in sp_37 rfl) rfl rfl (by decide +kernel) ⟨by rw [hR]; exact Nat.le_of_ble_eq_true rfl, by rw [hR]; exact Nat.le_of_ble_eq_true rfl⟩ rfl (Nat.le_of_ble_eq_true rfl) d_Mo_round_131 ⟨by rw [hR]; exact Nat.le_of_ble_eq_true rfl, by rw [hR]; exact Nat.le_of_ble_eq_true rfl⟩ rfl (fun v u H locs hp21 hP hD hS _ => ?_)
              obtain ⟨rc, rfl⟩ : ∃ z, z = u := ⟨_, rfl⟩
              obtain ⟨rfl, gq⟩ := hp21
              have hP : va_P D cls0 [(og, .inl (cI, 32, .inl fs)), (on_, .inl (cI, 32, .inl fn)), (ok_, .inl (cI, 166400, .inl fk)), (oK, .inl (cI, 64, .inl fK)), (oh, .inl (cI, 10000, .inl fh4)), (mo, .inr (8, [.int (iZ 0), .int (iZ (np : Int)), .ref ow, .ref om, .ref ok_, .ref oK, .ref og, .ref on_, .ref oh, .ref ox, .int qn, .int qf, .ref op_, .int ql])), (ow, .inl (cI, 108000, .inl fx5)), (om, .inl (cI, 9, .inl fy5))] H := hP
              have hD : va_D A [(og, .inl (cI, 32, .inl fs)), (on_, .inl (cI, 32, .inl fn)), (ok_, .inl (cI, 166400, .inl fk)), (oK, .inl (cI, 64, .inl fK)), (oh, .inl (cI, 10000, .inl fh4)), (mo, .inr (8, [.int (iZ 0), .int (iZ (np : Int)), .ref ow, .ref om, .ref ok_, .ref oK, .ref og, .ref on_, .ref oh, .ref ox, .int qn, .int qf, .ref op_, .int ql])), (ow, .inl (cI, 108000, .inl fx5)), (om, .inl (cI, 9, .inl fy5))] := hD
              show W p l e R s m args below meth c H locs _ _ Q (F0 m 134 ls [.int (iZ rc), .int (iZ ((bl (tv a) : Int) - (bl (bv a) : Int) - (pb : Int)))])
              rw [z50, z51] at gq
              have t0 : (rc < 0 ↔ ((tv a * 2 ^ (bl (bv a) - bl (tv a)) : Nat) : Int) < ((bv a * 2 ^ (bl (tv a) - bl (bv a)) : Nat) : Int)) ∧ (-1 ≤ rc ∧ rc ≤ 1) := by rw [gq]; exact ⟨cmpZ_lt, cmpZ_r _ _⟩
              clear gq
              have xs : (rc < 0 ∧ xE (tv a) (bv a) = (bl (tv a) : Int) - (bl (bv a) : Int) - 1) ∨ (0 ≤ rc ∧ xE (tv a) (bv a) = (bl (tv a) : Int) - (bl (bv a) : Int)) := by unfold xE; by_cases z : tv a * 2 ^ (bl (bv a) - bl (tv a)) < bv a * 2 ^ (bl (tv a) - bl (bv a)); (left; rw [if_pos z]; omega); (right; rw [if_neg z]; omega)
              have trc := t0.2
              clear t0
              refine zz_if_lt (tgt := 141) hx hb d_Mo_round_134 (by decide) (by omega) (fun c134 => ?_) (fun c134 => ?_)
              · refine lv_iconst (v := iZ (0)) hx hb d_Mo_round_141 (by decide +kernel) ?_
                refine zz_iadd hx hb d_Mo_round_142 ?_
                refine lv_istore (lv' := [(4, .int (iZ ((bl (tv a) : Int) - (bl (bv a) : Int) - (pb : Int) + 0))), (5, .int (iZ ((bl (tv a) : Int) - (bl (bv a) : Int) - (pb : Int) + (pb : Int)))), (0, .ref mo), (1, .int (iZ (to : Int))), (2, .int (iZ (a : Int))), (3, .int (iZ (pb : Int)))]) hx hb d_Mo_round_143 hl (by decide) rfl (fun ls hl => ?_)
                refine lv_aload_n hx hb d_Mo_round_145 rfl (lv_at hl 2 rfl) ?_
                refine lv_iload_n hx hb d_Mo_round_146 rfl (lv_at hl 3 rfl) ?_
                refine lv_iload_n hx hb d_Mo_round_147 rfl (lv_at hl 4 rfl) ?_
                refine lv_iload hx hb d_Mo_round_148 (lv_at hl 0 rfl) ?_
                rw [show ((bl (tv a) : Int) - (bl (bv a) : Int) - (pb : Int) + 0 : Int) = -(E : Int) by omega]
                refine cv (n := 3) (wr := []) (w1 := (fun (u : (Nat → Int32) × (Nat → Int32) × (Nat → Int32) × (Nat → Nat)) => [(mo, .inr (8, [.int (iZ 3), .int (iZ (np : Int)), .ref ow, .ref om, .ref ok_, .ref oK, .ref og, .ref on_, .ref oh, .ref ox, .int qn, .int qf, .ref op_, .int ql])), (ow, .inl (cI, 108000, .inl u.1)), (om, .inl (cI, 9, .inl u.2.1)), (oh, .inl (cI, 10000, .inl u.2.2.1)), (ok_, .inl (cI, 166400, .inl fk)), (oK, .inl (cI, 64, .inl fK)), (og, .inl (cI, 32, .inl fs)), (on_, .inl (cI, 32, .inl fn))])) (As := [.int (iZ (to : Int)), .int (iZ (a : Int)), .int (iZ (-(E : Int)))]) (rest := []) K hP hD hK hS hA hl.1 (f_Mo_multipleDn l D mo (iZ 0) np ow om ok_ oK og on_ oh ox qn qf op_ ql fx5 fy5 cI fh4 fk fK fs fn v5 tv bv sg to a E H.size w5 hMR hnd hnp J hbv t1 t2 hE hE0 hfit) [5, 6, 7, 4, 2, 3, 0, 1] [] [0] rfl rfl rfl (by decide) (by decide) (by decide) 0 rfl rfl (big_in mw_1329 rfl) (big_in mw_10 rfl) (big_in mw_1326 rfl) (big_in mw_1328 rfl) (big_in sp_44 rfl) rfl rfl (by decide +kernel) ⟨by rw [hR]; exact Nat.le_of_ble_eq_true rfl, by rw [hR]; exact Nat.le_of_ble_eq_true rfl⟩ rfl (Nat.le_of_ble_eq_true rfl) d_Mo_round_150 ⟨by rw [hR]; exact Nat.le_of_ble_eq_true rfl, by rw [hR]; exact Nat.le_of_ble_eq_true rfl⟩ rfl (fun v u H locs hp22 hP hD hS _ => ?_)
                obtain ⟨fa, fb, fc, v9⟩ := u
                try dsimp only at hp22
                obtain ⟨rfl, w9⟩ := hp22
                have hP : va_P D cls0 [(mo, .inr (8, [.int (iZ 3), .int (iZ (np : Int)), .ref ow, .ref om, .ref ok_, .ref oK, .ref og, .ref on_, .ref oh, .ref ox, .int qn, .int qf, .ref op_, .int ql])), (ow, .inl (cI, 108000, .inl fa)), (om, .inl (cI, 9, .inl fb)), (oh, .inl (cI, 10000, .inl fc)), (ok_, .inl (cI, 166400, .inl fk)), (oK, .inl (cI, 64, .inl fK)), (og, .inl (cI, 32, .inl fs)), (on_, .inl (cI, 32, .inl fn))] H := hP
                have hD : va_D A [(mo, .inr (8, [.int (iZ 3), .int (iZ (np : Int)), .ref ow, .ref om, .ref ok_, .ref oK, .ref og, .ref on_, .ref oh, .ref ox, .int qn, .int qf, .ref op_, .int ql])), (ow, .inl (cI, 108000, .inl fa)), (om, .inl (cI, 9, .inl fb)), (oh, .inl (cI, 10000, .inl fc)), (ok_, .inl (cI, 166400, .inl fk)), (oK, .inl (cI, 64, .inl fK)), (og, .inl (cI, 32, .inl fs)), (on_, .inl (cI, 32, .inl fn))] := hD
                show W p l e R s m args below meth c H locs _ _ Q (F0 m 153 ls [.int (iZ 0)])
                have hP9 : va_P D cls0 [(mo, .inr (8, [.int (iZ 3), .int (iZ (np : Int)), .ref ow, .ref om, .ref ok_, .ref oK, .ref og, .ref on_, .ref oh, .ref ox, .int qn, .int qf, .ref op_, .int ql])), (ow, .inl (cI, 108000, .inl fa)), (om, .inl (cI, 9, .inl fb)), (oh, .inl (cI, 10000, .inl fc)), (ok_, .inl (cI, 166400, .inl fk)), (oK, .inl (cI, 64, .inl fK)), (og, .inl (cI, 32, .inl fs)), (on_, .inl (cI, 32, .inl fn))] H := hP.sub [0, 1, 2, 3, 4, 5, 6, 7] rfl
                have hD9 : va_D A [(mo, .inr (8, [.int (iZ 3), .int (iZ (np : Int)), .ref ow, .ref om, .ref ok_, .ref oK, .ref og, .ref on_, .ref oh, .ref ox, .int qn, .int qf, .ref op_, .int ql])), (ow, .inl (cI, 108000, .inl fa)), (om, .inl (cI, 9, .inl fb)), (oh, .inl (cI, 10000, .inl fc)), (ok_, .inl (cI, 166400, .inl fk)), (oK, .inl (cI, 64, .inl fK)), (og, .inl (cI, 32, .inl fs)), (on_, .inl (cI, 32, .inl fn))] := hD.sub [0, 1, 2, 3, 4, 5, 6, 7] (by decide) rfl
                rw [hQ, ← hAe]
                refine r_i (v := (iZ 0)) K (fa, fb, fc, v9) hS d_Mo_round_153 ?_ (fun t ht hv => ?_)
                · exact ⟨rfl, w9⟩
                · exact ⟨by rw [ht]; exact hP9, va_K.moved hv hK, by rw [← hAe]; exact hD9⟩
              · refine lv_iconst (v := iZ (1)) hx hb d_Mo_round_137 (by decide +kernel) ?_
                refine lv_goto (tgt := 142) hx hb d_Mo_round_138 (by decide) ?_
                refine zz_iadd hx hb d_Mo_round_142 ?_
                refine lv_istore (lv' := [(4, .int (iZ ((bl (tv a) : Int) - (bl (bv a) : Int) - (pb : Int) + 1))), (5, .int (iZ ((bl (tv a) : Int) - (bl (bv a) : Int) - (pb : Int) + (pb : Int)))), (0, .ref mo), (1, .int (iZ (to : Int))), (2, .int (iZ (a : Int))), (3, .int (iZ (pb : Int)))]) hx hb d_Mo_round_143 hl (by decide) rfl (fun ls hl => ?_)
                refine lv_aload_n hx hb d_Mo_round_145 rfl (lv_at hl 2 rfl) ?_
                refine lv_iload_n hx hb d_Mo_round_146 rfl (lv_at hl 3 rfl) ?_
                refine lv_iload_n hx hb d_Mo_round_147 rfl (lv_at hl 4 rfl) ?_
                refine lv_iload hx hb d_Mo_round_148 (lv_at hl 0 rfl) ?_
                rw [show ((bl (tv a) : Int) - (bl (bv a) : Int) - (pb : Int) + 1 : Int) = -(E : Int) by omega]
                refine cv (n := 3) (wr := []) (w1 := (fun (u : (Nat → Int32) × (Nat → Int32) × (Nat → Int32) × (Nat → Nat)) => [(mo, .inr (8, [.int (iZ 3), .int (iZ (np : Int)), .ref ow, .ref om, .ref ok_, .ref oK, .ref og, .ref on_, .ref oh, .ref ox, .int qn, .int qf, .ref op_, .int ql])), (ow, .inl (cI, 108000, .inl u.1)), (om, .inl (cI, 9, .inl u.2.1)), (oh, .inl (cI, 10000, .inl u.2.2.1)), (ok_, .inl (cI, 166400, .inl fk)), (oK, .inl (cI, 64, .inl fK)), (og, .inl (cI, 32, .inl fs)), (on_, .inl (cI, 32, .inl fn))])) (As := [.int (iZ (to : Int)), .int (iZ (a : Int)), .int (iZ (-(E : Int)))]) (rest := []) K hP hD hK hS hA hl.1 (f_Mo_multipleDn l D mo (iZ 0) np ow om ok_ oK og on_ oh ox qn qf op_ ql fx5 fy5 cI fh4 fk fK fs fn v5 tv bv sg to a E H.size w5 hMR hnd hnp J hbv t1 t2 hE hE0 hfit) [5, 6, 7, 4, 2, 3, 0, 1] [] [0] rfl rfl rfl (by decide) (by decide) (by decide) 0 rfl rfl (big_in mw_1329 rfl) (big_in mw_10 rfl) (big_in mw_1326 rfl) (big_in mw_1328 rfl) (big_in sp_44 rfl) rfl rfl (by decide +kernel) ⟨by rw [hR]; exact Nat.le_of_ble_eq_true rfl, by rw [hR]; exact Nat.le_of_ble_eq_true rfl⟩ rfl (Nat.le_of_ble_eq_true rfl) d_Mo_round_150 ⟨by rw [hR]; exact Nat.le_of_ble_eq_true rfl, by rw [hR]; exact Nat.le_of_ble_eq_true rfl⟩ rfl (fun v u H locs hp23 hP hD hS _ => ?_)
                obtain ⟨fa, fb, fc, v9⟩ := u
                try dsimp only at hp23
                obtain ⟨rfl, w9⟩ := hp23
                have hP : va_P D cls0 [(mo, .inr (8, [.int (iZ 3), .int (iZ (np : Int)), .ref ow, .ref om, .ref ok_, .ref oK, .ref og, .ref on_, .ref oh, .ref ox, .int qn, .int qf, .ref op_, .int ql])), (ow, .inl (cI, 108000, .inl fa)), (om, .inl (cI, 9, .inl fb)), (oh, .inl (cI, 10000, .inl fc)), (ok_, .inl (cI, 166400, .inl fk)), (oK, .inl (cI, 64, .inl fK)), (og, .inl (cI, 32, .inl fs)), (on_, .inl (cI, 32, .inl fn))] H := hP
                have hD : va_D A [(mo, .inr (8, [.int (iZ 3), .int (iZ (np : Int)), .ref ow, .ref om, .ref ok_, .ref oK, .ref og, .ref on_, .ref oh, .ref ox, .int qn, .int qf, .ref op_, .int ql])), (ow, .inl (cI, 108000, .inl fa)), (om, .inl (cI, 9, .inl fb)), (oh, .inl (cI, 10000, .inl fc)), (ok_, .inl (cI, 166400, .inl fk)), (oK, .inl (cI, 64, .inl fK)), (og, .inl (cI, 32, .inl fs)), (on_, .inl (cI, 32, .inl fn))] := hD
                show W p l e R s m args below meth c H locs _ _ Q (F0 m 153 ls [.int (iZ 0)])
                have hP9 : va_P D cls0 [(mo, .inr (8, [.int (iZ 3), .int (iZ (np : Int)), .ref ow, .ref om, .ref ok_, .ref oK, .ref og, .ref on_, .ref oh, .ref ox, .int qn, .int qf, .ref op_, .int ql])), (ow, .inl (cI, 108000, .inl fa)), (om, .inl (cI, 9, .inl fb)), (oh, .inl (cI, 10000, .inl fc)), (ok_, .inl (cI, 166400, .inl fk)), (oK, .inl (cI, 64, .inl fK)), (og, .inl (cI, 32, .inl fs)), (on_, .inl (cI, 32, .inl fn))] H := hP.sub [0, 1, 2, 3, 4, 5, 6, 7] rfl
                have hD9 : va_D A [(mo, .inr (8, [.int (iZ 3), .int (iZ (np : Int)), .ref ow, .ref om, .ref ok_, .ref oK, .ref og, .ref on_, .ref oh, .ref ox, .int qn, .int qf, .ref op_, .int ql])), (ow, .inl (cI, 108000, .inl fa)), (om, .inl (cI, 9, .inl fb)), (oh, .inl (cI, 10000, .inl fc)), (ok_, .inl (cI, 166400, .inl fk)), (oK, .inl (cI, 64, .inl fK)), (og, .inl (cI, 32, .inl fs)), (on_, .inl (cI, 32, .inl fn))] := hD.sub [0, 1, 2, 3, 4, 5, 6, 7] (by decide) rfl
                rw [hQ, ← hAe]
                refine r_i (v := (iZ 0)) K (fa, fb, fc, v9) hS d_Mo_round_153 ?_ (fun t ht hv => ?_)
                · exact ⟨rfl, w9⟩
                · exact ⟨by rw [ht]; exact hP9, va_K.moved hv hK, by rw [← hAe]; exact hD9⟩
        · refine lv_iconst (v := iZ (2)) hx hb d_Mo_round_31 (by decide +kernel) ?_
          refine lv_goto (tgt := 36) hx hb d_Mo_round_32 (by decide) ?_
          exfalso
          omega
    · refine lv_iconst (v := iZ (1)) hx hb d_Mo_round_15 (by decide +kernel) ?_
      refine lv_goto (tgt := 36) hx hb d_Mo_round_16 (by decide) ?_
      exfalso
      omega
set_option maxHeartbeats 4000000 in
set_option maxRecDepth 100000 in
/-- Mo_align refused with 1 -/
theorem r1_Mo_align (l : Launch) (D : va_G) (mo : Nat) (qc : Int32) (np : Nat) (ow : Nat) (om : Nat) (ok_ : Nat) (oK : Nat) (og : Nat) (on_ : Nat) (oh : Nat) (ox : Nat) (qn : Int32) (qf : Int32) (op_ : Nat) (ql : Int32) (zt : Int) (za : Int) (ze : Int) (sz : Nat) (hbad : (zt < 0 ∨ 32 ≤ zt) ∨ (za < 0 ∨ 32 ≤ za)) (hrng : -2147483648 ≤ zt ∧ zt < 2147483648 ∧ -2147483648 ≤ za ∧ za < 2147483648 ∧ -2147483648 ≤ ze ∧ ze < 2147483648) : Met l y_Mo_align (wsB y_Mo_align b_Mo_align 4 (some .int)) ({ frames := 1, cells := 0, slots := 0, locals := 21 }) (va_Pc [.ref mo, .int (iZ zt), .int (iZ za), .int (iZ ze)] (wPre D [] [(mo, .inr (8, [.int qc, .int (iZ (np : Int)), .ref ow, .ref om, .ref ok_, .ref oK, .ref og, .ref on_, .ref oh, .ref ox, .int qn, .int qf, .ref op_, .int ql]))] sz)) (va_QV (fun (v_9 : Option Value) (u_9 : Unit) => v_9 = some (.int (iZ 0))) (fun u_9 => wPost D [] [(mo, .inr (8, [.int qc, .int (iZ (np : Int)), .ref ow, .ref om, .ref ok_, .ref oK, .ref og, .ref on_, .ref oh, .ref ox, .int qn, .int qf, .ref op_, .int ql]))] [(mo, .inr (8, [.int (iZ 1), .int (iZ (np : Int)), .ref ow, .ref om, .ref ok_, .ref oK, .ref og, .ref on_, .ref oh, .ref ox, .int qn, .int qf, .ref op_, .int ql]))] sz) (va_A [(mo, .inr (8, [.int qc, .int (iZ (np : Int)), .ref ow, .ref om, .ref ok_, .ref oK, .ref og, .ref on_, .ref oh, .ref ox, .int qn, .int qf, .ref op_, .int ql]))] sz)) 0 0 (va_A [(mo, .inr (8, [.int qc, .int (iZ (np : Int)), .ref ow, .ref om, .ref ok_, .ref oK, .ref og, .ref on_, .ref oh, .ref ox, .int qn, .int qf, .ref op_, .int ql]))] sz) := by
  refine met_enter (by decide +kernel) (Nat.le_of_ble_eq_true rfl) ?_
  intro p e s m args below meth c ls A R Q H locs K hin hAe hA hR hQ hP hK hD hS hl
  obtain ⟨hx, hb, hml, hrt, hlk, hts, hown, hno⟩ := id K
  have hl : lv_has ls 4 [(0, .ref mo), (1, .int (iZ zt)), (2, .int (iZ za)), (3, .int (iZ ze))] := hl
  refine lv_aload_n hx hb d_Mo_align_0 rfl (lv_at hl 0 rfl) ?_
  refine lv_iload_n hx hb d_Mo_align_1 rfl (lv_at hl 1 rfl) ?_
  refine cs (n := 1) (wr := [(mo, .inr (8, [.int qc, .int (iZ (np : Int)), .ref ow, .ref om, .ref ok_, .ref oK, .ref og, .ref on_, .ref oh, .ref ox, .int qn, .int qf, .ref op_, .int ql]))]) (w1 := (fun (u : Int) => [])) (As := [.int (iZ zt)]) (rest := [.ref mo]) K hP hD hK hS hA hl.1 (c_Mo_isRegister l D zt H.size (by omega)) [] [0] [] rfl rfl rfl (by decide) (by decide) (by decide) (big_in mw_1172 rfl) (big_in mw_10 rfl) (big_in mw_1170 rfl) (big_in mw_1171 rfl) rfl rfl (by decide +kernel) ⟨by rw [hR]; exact Nat.le_of_ble_eq_true rfl, by rw [hR]; exact Nat.le_of_ble_eq_true rfl⟩ rfl (Nat.le_of_ble_eq_true rfl) d_Mo_align_2 ⟨by rw [hR]; exact Nat.le_of_ble_eq_true rfl, by rw [hR]; exact Nat.le_of_ble_eq_true rfl⟩ rfl (fun v u H locs hp1 hP hD hS _ => ?_)
  obtain ⟨r2, rfl⟩ : ∃ z, z = u := ⟨_, rfl⟩
  obtain ⟨rfl, p2⟩ := hp1
  have hP : va_P D cls0 [(mo, .inr (8, [.int qc, .int (iZ (np : Int)), .ref ow, .ref om, .ref ok_, .ref oK, .ref og, .ref on_, .ref oh, .ref ox, .int qn, .int qf, .ref op_, .int ql]))] H := hP
  have hD : va_D A [(mo, .inr (8, [.int qc, .int (iZ (np : Int)), .ref ow, .ref om, .ref ok_, .ref oK, .ref og, .ref on_, .ref oh, .ref ox, .int qn, .int qf, .ref op_, .int ql]))] := hD
  show W p l e R s m args below meth c H locs _ _ Q (F0 m 5 ls [.int (iZ r2), .ref mo])
  have b2 : 0 ≤ r2 ∧ r2 ≤ 1 := by omega
  refine zz_if_eq (tgt := 15) hx hb d_Mo_align_5 (by decide) (by omega) (fun c5 => ?_) (fun c5 => ?_)
  · refine lv_iconst (v := iZ (1)) hx hb d_Mo_align_15 (by decide +kernel) ?_
    refine lv_goto (tgt := 38) hx hb d_Mo_align_16 (by decide) ?_
    refine cv (n := 1) (wr := []) (w1 := (fun (u : Int) => [(mo, .inr (8, [.int (iZ 1), .int (iZ (np : Int)), .ref ow, .ref om, .ref ok_, .ref oK, .ref og, .ref on_, .ref oh, .ref ox, .int qn, .int qf, .ref op_, .int ql]))])) (As := [.int (iZ 1)]) (rest := []) K hP hD hK hS hA hl.1 (c_Mo_refuses l D mo qc np ow om ok_ oK og on_ oh ox qn qf op_ ql 1 H.size (by omega)) [0] [] [] rfl rfl rfl (by decide) (by decide) (by decide) 0 rfl rfl (big_in mw_1176 rfl) (big_in mw_10 rfl) (big_in mw_1173 rfl) (big_in mw_1175 rfl) (big_in sp_18 rfl) rfl rfl (by decide +kernel) ⟨by rw [hR]; exact Nat.le_of_ble_eq_true rfl, by rw [hR]; exact Nat.le_of_ble_eq_true rfl⟩ rfl (Nat.le_of_ble_eq_true rfl) d_Mo_align_38 ⟨by rw [hR]; exact Nat.le_of_ble_eq_true rfl, by rw [hR]; exact Nat.le_of_ble_eq_true rfl⟩ rfl (fun v u H locs hp2 hP hD hS _ => ?_)
    obtain ⟨rf, rfl⟩ : ∃ z, z = u := ⟨_, rfl⟩
    obtain ⟨rfl, prf⟩ := hp2
    have hP : va_P D cls0 [(mo, .inr (8, [.int (iZ 1), .int (iZ (np : Int)), .ref ow, .ref om, .ref ok_, .ref oK, .ref og, .ref on_, .ref oh, .ref ox, .int qn, .int qf, .ref op_, .int ql]))] H := hP
    have hD : va_D A [(mo, .inr (8, [.int (iZ 1), .int (iZ (np : Int)), .ref ow, .ref om, .ref ok_, .ref oK, .ref og, .ref on_, .ref oh, .ref ox, .int qn, .int qf, .ref op_, .int ql]))] := hD
    show W p l e R s m args below meth c H locs _ _ Q (F0 m 41 ls [.int (iZ rf)])
    refine zz_if_eq (tgt := 48) hx hb d_Mo_align_41 (by decide) (by omega) (fun c41 => False.elim (by omega)) (fun c41 => ?_)
    refine lv_iconst (v := iZ (0)) hx hb d_Mo_align_44 (by decide +kernel) ?_
    refine lv_goto (tgt := 55) hx hb d_Mo_align_45 (by decide) ?_
    have hP9 : va_P D cls0 [(mo, .inr (8, [.int (iZ 1), .int (iZ (np : Int)), .ref ow, .ref om, .ref ok_, .ref oK, .ref og, .ref on_, .ref oh, .ref ox, .int qn, .int qf, .ref op_, .int ql]))] H := hP.sub [0] rfl
    have hD9 : va_D A [(mo, .inr (8, [.int (iZ 1), .int (iZ (np : Int)), .ref ow, .ref om, .ref ok_, .ref oK, .ref og, .ref on_, .ref oh, .ref ox, .int qn, .int qf, .ref op_, .int ql]))] := hD.sub [0] (by decide) rfl
    rw [hQ, ← hAe]
    refine r_i (v := (iZ 0)) K () hS d_Mo_align_55 ?_ (fun t ht hv => ?_)
    · exact rfl
    · exact ⟨by rw [ht]; exact hP9, va_K.moved hv hK, by rw [← hAe]; exact hD9⟩
  · refine lv_iload_n hx hb d_Mo_align_8 rfl (lv_at hl 2 rfl) ?_
    refine cs (n := 1) (wr := [(mo, .inr (8, [.int qc, .int (iZ (np : Int)), .ref ow, .ref om, .ref ok_, .ref oK, .ref og, .ref on_, .ref oh, .ref ox, .int qn, .int qf, .ref op_, .int ql]))]) (w1 := (fun (u : Int) => [])) (As := [.int (iZ za)]) (rest := [.ref mo]) K hP hD hK hS hA hl.1 (c_Mo_isRegister l D za H.size (by omega)) [] [0] [] rfl rfl rfl (by decide) (by decide) (by decide) (big_in mw_1172 rfl) (big_in mw_10 rfl) (big_in mw_1170 rfl) (big_in mw_1171 rfl) rfl rfl (by decide +kernel) ⟨by rw [hR]; exact Nat.le_of_ble_eq_true rfl, by rw [hR]; exact Nat.le_of_ble_eq_true rfl⟩ rfl (Nat.le_of_ble_eq_true rfl) d_Mo_align_9 ⟨by rw [hR]; exact Nat.le_of_ble_eq_true rfl, by rw [hR]; exact Nat.le_of_ble_eq_true rfl⟩ rfl (fun v u H locs hp3 hP hD hS _ => ?_)
    obtain ⟨r9, rfl⟩ : ∃ z, z = u := ⟨_, rfl⟩
    obtain ⟨rfl, p9⟩ := hp3
    have hP : va_P D cls0 [(mo, .inr (8, [.int qc, .int (iZ (np : Int)), .ref ow, .ref om, .ref ok_, .ref oK, .ref og, .ref on_, .ref oh, .ref ox, .int qn, .int qf, .ref op_, .int ql]))] H := hP
    have hD : va_D A [(mo, .inr (8, [.int qc, .int (iZ (np : Int)), .ref ow, .ref om, .ref ok_, .ref oK, .ref og, .ref on_, .ref oh, .ref ox, .int qn, .int qf, .ref op_, .int ql]))] := hD
    show W p l e R s m args below meth c H locs _ _ Q (F0 m 12 ls [.int (iZ r9), .ref mo])
    have b9 : 0 ≤ r9 ∧ r9 ≤ 1 := by omega
    refine zz_if_ne (tgt := 19) hx hb d_Mo_align_12 (by decide) (by omega) (fun c12 => ?_) (fun c12 => ?_)
    · refine lv_iload_n hx hb d_Mo_align_19 rfl (lv_at hl 3 rfl) ?_
      refine lv_sipush (v := iZ (-4000)) hx hb d_Mo_align_20 (by decide +kernel) ?_
      refine zz_icmp_lt (tgt := 33) hx hb d_Mo_align_23 (by decide) (by omega) (by omega) (fun c23 => ?_) (fun c23 => ?_)
      · refine lv_iconst (v := iZ (2)) hx hb d_Mo_align_33 (by decide +kernel) ?_
        refine lv_goto (tgt := 38) hx hb d_Mo_align_34 (by decide) ?_
        exfalso
        omega
      · refine lv_iload_n hx hb d_Mo_align_26 rfl (lv_at hl 3 rfl) ?_
        refine lv_sipush (v := iZ (4000)) hx hb d_Mo_align_27 (by decide +kernel) ?_
        refine zz_icmp_le (tgt := 37) hx hb d_Mo_align_30 (by decide) (by omega) (by omega) (fun c30 => ?_) (fun c30 => ?_)
        · refine lv_iconst (v := iZ (0)) hx hb d_Mo_align_37 (by decide +kernel) ?_
          exfalso
          omega
        · refine lv_iconst (v := iZ (2)) hx hb d_Mo_align_33 (by decide +kernel) ?_
          refine lv_goto (tgt := 38) hx hb d_Mo_align_34 (by decide) ?_
          exfalso
          omega
    · refine lv_iconst (v := iZ (1)) hx hb d_Mo_align_15 (by decide +kernel) ?_
      refine lv_goto (tgt := 38) hx hb d_Mo_align_16 (by decide) ?_
      refine cv (n := 1) (wr := []) (w1 := (fun (u : Int) => [(mo, .inr (8, [.int (iZ 1), .int (iZ (np : Int)), .ref ow, .ref om, .ref ok_, .ref oK, .ref og, .ref on_, .ref oh, .ref ox, .int qn, .int qf, .ref op_, .int ql]))])) (As := [.int (iZ 1)]) (rest := []) K hP hD hK hS hA hl.1 (c_Mo_refuses l D mo qc np ow om ok_ oK og on_ oh ox qn qf op_ ql 1 H.size (by omega)) [0] [] [] rfl rfl rfl (by decide) (by decide) (by decide) 0 rfl rfl (big_in mw_1176 rfl) (big_in mw_10 rfl) (big_in mw_1173 rfl) (big_in mw_1175 rfl) (big_in sp_18 rfl) rfl rfl (by decide +kernel) ⟨by rw [hR]; exact Nat.le_of_ble_eq_true rfl, by rw [hR]; exact Nat.le_of_ble_eq_true rfl⟩ rfl (Nat.le_of_ble_eq_true rfl) d_Mo_align_38 ⟨by rw [hR]; exact Nat.le_of_ble_eq_true rfl, by rw [hR]; exact Nat.le_of_ble_eq_true rfl⟩ rfl (fun v u H locs hp4 hP hD hS _ => ?_)
      obtain ⟨rf, rfl⟩ : ∃ z, z = u := ⟨_, rfl⟩
      obtain ⟨rfl, prf⟩ := hp4
      have hP : va_P D cls0 [(mo, .inr (8, [.int (iZ 1), .int (iZ (np : Int)), .ref ow, .ref om, .ref ok_, .ref oK, .ref og, .ref on_, .ref oh, .ref ox, .int qn, .int qf, .ref op_, .int ql]))] H := hP
      have hD : va_D A [(mo, .inr (8, [.int (iZ 1), .int (iZ (np : Int)), .ref ow, .ref om, .ref ok_, .ref oK, .ref og, .ref on_, .ref oh, .ref ox, .int qn, .int qf, .ref op_, .int ql]))] := hD
      show W p l e R s m args below meth c H locs _ _ Q (F0 m 41 ls [.int (iZ rf)])
      refine zz_if_eq (tgt := 48) hx hb d_Mo_align_41 (by decide) (by omega) (fun c41 => False.elim (by omega)) (fun c41 => ?_)
      refine lv_iconst (v := iZ (0)) hx hb d_Mo_align_44 (by decide +kernel) ?_
      refine lv_goto (tgt := 55) hx hb d_Mo_align_45 (by decide) ?_
      have hP9 : va_P D cls0 [(mo, .inr (8, [.int (iZ 1), .int (iZ (np : Int)), .ref ow, .ref om, .ref ok_, .ref oK, .ref og, .ref on_, .ref oh, .ref ox, .int qn, .int qf, .ref op_, .int ql]))] H := hP.sub [0] rfl
      have hD9 : va_D A [(mo, .inr (8, [.int (iZ 1), .int (iZ (np : Int)), .ref ow, .ref om, .ref ok_, .ref oK, .ref og, .ref on_, .ref oh, .ref ox, .int qn, .int qf, .ref op_, .int ql]))] := hD.sub [0] (by decide) rfl
      rw [hQ, ← hAe]
      refine r_i (v := (iZ 0)) K () hS d_Mo_align_55 ?_ (fun t ht hv => ?_)
      · exact rfl
      · exact ⟨by rw [ht]; exact hP9, va_K.moved hv hK, by rw [← hAe]; exact hD9⟩
set_option maxHeartbeats 4000000 in
set_option maxRecDepth 100000 in
/-- Mo_align refused with 2 -/
theorem r2_Mo_align (l : Launch) (D : va_G) (mo : Nat) (qc : Int32) (np : Nat) (ow : Nat) (om : Nat) (ok_ : Nat) (oK : Nat) (og : Nat) (on_ : Nat) (oh : Nat) (ox : Nat) (qn : Int32) (qf : Int32) (op_ : Nat) (ql : Int32) (to : Nat) (a : Nat) (ze : Int) (sz : Nat) (t1 : to < 32) (t2 : a < 32) (hze : (ze < -4000 ∨ 4000 < ze) ∧ -2147483648 ≤ ze ∧ ze < 2147483648) : Met l y_Mo_align (wsB y_Mo_align b_Mo_align 4 (some .int)) ({ frames := 1, cells := 0, slots := 0, locals := 21 }) (va_Pc [.ref mo, .int (iZ (to : Int)), .int (iZ (a : Int)), .int (iZ ze)] (wPre D [] [(mo, .inr (8, [.int qc, .int (iZ (np : Int)), .ref ow, .ref om, .ref ok_, .ref oK, .ref og, .ref on_, .ref oh, .ref ox, .int qn, .int qf, .ref op_, .int ql]))] sz)) (va_QV (fun (v_9 : Option Value) (u_9 : Unit) => v_9 = some (.int (iZ 0))) (fun u_9 => wPost D [] [(mo, .inr (8, [.int qc, .int (iZ (np : Int)), .ref ow, .ref om, .ref ok_, .ref oK, .ref og, .ref on_, .ref oh, .ref ox, .int qn, .int qf, .ref op_, .int ql]))] [(mo, .inr (8, [.int (iZ 2), .int (iZ (np : Int)), .ref ow, .ref om, .ref ok_, .ref oK, .ref og, .ref on_, .ref oh, .ref ox, .int qn, .int qf, .ref op_, .int ql]))] sz) (va_A [(mo, .inr (8, [.int qc, .int (iZ (np : Int)), .ref ow, .ref om, .ref ok_, .ref oK, .ref og, .ref on_, .ref oh, .ref ox, .int qn, .int qf, .ref op_, .int ql]))] sz)) 0 0 (va_A [(mo, .inr (8, [.int qc, .int (iZ (np : Int)), .ref ow, .ref om, .ref ok_, .ref oK, .ref og, .ref on_, .ref oh, .ref ox, .int qn, .int qf, .ref op_, .int ql]))] sz) := by
  refine met_enter (by decide +kernel) (Nat.le_of_ble_eq_true rfl) ?_
  intro p e s m args below meth c ls A R Q H locs K hin hAe hA hR hQ hP hK hD hS hl
  obtain ⟨hx, hb, hml, hrt, hlk, hts, hown, hno⟩ := id K
  have hl : lv_has ls 4 [(0, .ref mo), (1, .int (iZ (to : Int))), (2, .int (iZ (a : Int))), (3, .int (iZ ze))] := hl
  refine lv_aload_n hx hb d_Mo_align_0 rfl (lv_at hl 0 rfl) ?_
  refine lv_iload_n hx hb d_Mo_align_1 rfl (lv_at hl 1 rfl) ?_
  refine cs (n := 1) (wr := [(mo, .inr (8, [.int qc, .int (iZ (np : Int)), .ref ow, .ref om, .ref ok_, .ref oK, .ref og, .ref on_, .ref oh, .ref ox, .int qn, .int qf, .ref op_, .int ql]))]) (w1 := (fun (u : Int) => [])) (As := [.int (iZ (to : Int))]) (rest := [.ref mo]) K hP hD hK hS hA hl.1 (c_Mo_isRegister l D (to : Int) H.size (by omega)) [] [0] [] rfl rfl rfl (by decide) (by decide) (by decide) (big_in mw_1172 rfl) (big_in mw_10 rfl) (big_in mw_1170 rfl) (big_in mw_1171 rfl) rfl rfl (by decide +kernel) ⟨by rw [hR]; exact Nat.le_of_ble_eq_true rfl, by rw [hR]; exact Nat.le_of_ble_eq_true rfl⟩ rfl (Nat.le_of_ble_eq_true rfl) d_Mo_align_2 ⟨by rw [hR]; exact Nat.le_of_ble_eq_true rfl, by rw [hR]; exact Nat.le_of_ble_eq_true rfl⟩ rfl (fun v u H locs hp1 hP hD hS _ => ?_)
  obtain ⟨r2, rfl⟩ : ∃ z, z = u := ⟨_, rfl⟩
  obtain ⟨rfl, p2⟩ := hp1
  have hP : va_P D cls0 [(mo, .inr (8, [.int qc, .int (iZ (np : Int)), .ref ow, .ref om, .ref ok_, .ref oK, .ref og, .ref on_, .ref oh, .ref ox, .int qn, .int qf, .ref op_, .int ql]))] H := hP
  have hD : va_D A [(mo, .inr (8, [.int qc, .int (iZ (np : Int)), .ref ow, .ref om, .ref ok_, .ref oK, .ref og, .ref on_, .ref oh, .ref ox, .int qn, .int qf, .ref op_, .int ql]))] := hD
  show W p l e R s m args below meth c H locs _ _ Q (F0 m 5 ls [.int (iZ r2), .ref mo])
  have b2 : 0 ≤ r2 ∧ r2 ≤ 1 := by omega
  refine zz_if_eq (tgt := 15) hx hb d_Mo_align_5 (by decide) (by omega) (fun c5 => ?_) (fun c5 => ?_)
  · refine lv_iconst (v := iZ (1)) hx hb d_Mo_align_15 (by decide +kernel) ?_
    refine lv_goto (tgt := 38) hx hb d_Mo_align_16 (by decide) ?_
    exfalso
    omega
  · refine lv_iload_n hx hb d_Mo_align_8 rfl (lv_at hl 2 rfl) ?_
    refine cs (n := 1) (wr := [(mo, .inr (8, [.int qc, .int (iZ (np : Int)), .ref ow, .ref om, .ref ok_, .ref oK, .ref og, .ref on_, .ref oh, .ref ox, .int qn, .int qf, .ref op_, .int ql]))]) (w1 := (fun (u : Int) => [])) (As := [.int (iZ (a : Int))]) (rest := [.ref mo]) K hP hD hK hS hA hl.1 (c_Mo_isRegister l D (a : Int) H.size (by omega)) [] [0] [] rfl rfl rfl (by decide) (by decide) (by decide) (big_in mw_1172 rfl) (big_in mw_10 rfl) (big_in mw_1170 rfl) (big_in mw_1171 rfl) rfl rfl (by decide +kernel) ⟨by rw [hR]; exact Nat.le_of_ble_eq_true rfl, by rw [hR]; exact Nat.le_of_ble_eq_true rfl⟩ rfl (Nat.le_of_ble_eq_true rfl) d_Mo_align_9 ⟨by rw [hR]; exact Nat.le_of_ble_eq_true rfl, by rw [hR]; exact Nat.le_of_ble_eq_true rfl⟩ rfl (fun v u H locs hp2 hP hD hS _ => ?_)
    obtain ⟨r9, rfl⟩ : ∃ z, z = u := ⟨_, rfl⟩
    obtain ⟨rfl, p9⟩ := hp2
    have hP : va_P D cls0 [(mo, .inr (8, [.int qc, .int (iZ (np : Int)), .ref ow, .ref om, .ref ok_, .ref oK, .ref og, .ref on_, .ref oh, .ref ox, .int qn, .int qf, .ref op_, .int ql]))] H := hP
    have hD : va_D A [(mo, .inr (8, [.int qc, .int (iZ (np : Int)), .ref ow, .ref om, .ref ok_, .ref oK, .ref og, .ref on_, .ref oh, .ref ox, .int qn, .int qf, .ref op_, .int ql]))] := hD
    show W p l e R s m args below meth c H locs _ _ Q (F0 m 12 ls [.int (iZ r9), .ref mo])
    have b9 : 0 ≤ r9 ∧ r9 ≤ 1 := by omega
    refine zz_if_ne (tgt := 19) hx hb d_Mo_align_12 (by decide) (by omega) (fun c12 => ?_) (fun c12 => ?_)
    · refine lv_iload_n hx hb d_Mo_align_19 rfl (lv_at hl 3 rfl) ?_
      refine lv_sipush (v := iZ (-4000)) hx hb d_Mo_align_20 (by decide +kernel) ?_
      refine zz_icmp_lt (tgt := 33) hx hb d_Mo_align_23 (by decide) (by omega) (by omega) (fun c23 => ?_) (fun c23 => ?_)
      · refine lv_iconst (v := iZ (2)) hx hb d_Mo_align_33 (by decide +kernel) ?_
        refine lv_goto (tgt := 38) hx hb d_Mo_align_34 (by decide) ?_
        refine cv (n := 1) (wr := []) (w1 := (fun (u : Int) => [(mo, .inr (8, [.int (iZ 2), .int (iZ (np : Int)), .ref ow, .ref om, .ref ok_, .ref oK, .ref og, .ref on_, .ref oh, .ref ox, .int qn, .int qf, .ref op_, .int ql]))])) (As := [.int (iZ 2)]) (rest := []) K hP hD hK hS hA hl.1 (c_Mo_refuses l D mo qc np ow om ok_ oK og on_ oh ox qn qf op_ ql 2 H.size (by omega)) [0] [] [] rfl rfl rfl (by decide) (by decide) (by decide) 0 rfl rfl (big_in mw_1176 rfl) (big_in mw_10 rfl) (big_in mw_1173 rfl) (big_in mw_1175 rfl) (big_in sp_18 rfl) rfl rfl (by decide +kernel) ⟨by rw [hR]; exact Nat.le_of_ble_eq_true rfl, by rw [hR]; exact Nat.le_of_ble_eq_true rfl⟩ rfl (Nat.le_of_ble_eq_true rfl) d_Mo_align_38 ⟨by rw [hR]; exact Nat.le_of_ble_eq_true rfl, by rw [hR]; exact Nat.le_of_ble_eq_true rfl⟩ rfl (fun v u H locs hp3 hP hD hS _ => ?_)
        obtain ⟨rf, rfl⟩ : ∃ z, z = u := ⟨_, rfl⟩
        obtain ⟨rfl, prf⟩ := hp3
        have hP : va_P D cls0 [(mo, .inr (8, [.int (iZ 2), .int (iZ (np : Int)), .ref ow, .ref om, .ref ok_, .ref oK, .ref og, .ref on_, .ref oh, .ref ox, .int qn, .int qf, .ref op_, .int ql]))] H := hP
        have hD : va_D A [(mo, .inr (8, [.int (iZ 2), .int (iZ (np : Int)), .ref ow, .ref om, .ref ok_, .ref oK, .ref og, .ref on_, .ref oh, .ref ox, .int qn, .int qf, .ref op_, .int ql]))] := hD
        show W p l e R s m args below meth c H locs _ _ Q (F0 m 41 ls [.int (iZ rf)])
        refine zz_if_eq (tgt := 48) hx hb d_Mo_align_41 (by decide) (by omega) (fun c41 => False.elim (by omega)) (fun c41 => ?_)
        refine lv_iconst (v := iZ (0)) hx hb d_Mo_align_44 (by decide +kernel) ?_
        refine lv_goto (tgt := 55) hx hb d_Mo_align_45 (by decide) ?_
        have hP9 : va_P D cls0 [(mo, .inr (8, [.int (iZ 2), .int (iZ (np : Int)), .ref ow, .ref om, .ref ok_, .ref oK, .ref og, .ref on_, .ref oh, .ref ox, .int qn, .int qf, .ref op_, .int ql]))] H := hP.sub [0] rfl
        have hD9 : va_D A [(mo, .inr (8, [.int (iZ 2), .int (iZ (np : Int)), .ref ow, .ref om, .ref ok_, .ref oK, .ref og, .ref on_, .ref oh, .ref ox, .int qn, .int qf, .ref op_, .int ql]))] := hD.sub [0] (by decide) rfl
        rw [hQ, ← hAe]
        refine r_i (v := (iZ 0)) K () hS d_Mo_align_55 ?_ (fun t ht hv => ?_)
        · exact rfl
        · exact ⟨by rw [ht]; exact hP9, va_K.moved hv hK, by rw [← hAe]; exact hD9⟩
      · refine lv_iload_n hx hb d_Mo_align_26 rfl (lv_at hl 3 rfl) ?_
        refine lv_sipush (v := iZ (4000)) hx hb d_Mo_align_27 (by decide +kernel) ?_
        refine zz_icmp_le (tgt := 37) hx hb d_Mo_align_30 (by decide) (by omega) (by omega) (fun c30 => ?_) (fun c30 => ?_)
        · refine lv_iconst (v := iZ (0)) hx hb d_Mo_align_37 (by decide +kernel) ?_
          exfalso
          omega
        · refine lv_iconst (v := iZ (2)) hx hb d_Mo_align_33 (by decide +kernel) ?_
          refine lv_goto (tgt := 38) hx hb d_Mo_align_34 (by decide) ?_
          refine cv (n := 1) (wr := []) (w1 := (fun (u : Int) => [(mo, .inr (8, [.int (iZ 2), .int (iZ (np : Int)), .ref ow, .ref om, .ref ok_, .ref oK, .ref og, .ref on_, .ref oh, .ref ox, .int qn, .int qf, .ref op_, .int ql]))])) (As := [.int (iZ 2)]) (rest := []) K hP hD hK hS hA hl.1 (c_Mo_refuses l D mo qc np ow om ok_ oK og on_ oh ox qn qf op_ ql 2 H.size (by omega)) [0] [] [] rfl rfl rfl (by decide) (by decide) (by decide) 0 rfl rfl (big_in mw_1176 rfl) (big_in mw_10 rfl) (big_in mw_1173 rfl) (big_in mw_1175 rfl) (big_in sp_18 rfl) rfl rfl (by decide +kernel) ⟨by rw [hR]; exact Nat.le_of_ble_eq_true rfl, by rw [hR]; exact Nat.le_of_ble_eq_true rfl⟩ rfl (Nat.le_of_ble_eq_true rfl) d_Mo_align_38 ⟨by rw [hR]; exact Nat.le_of_ble_eq_true rfl, by rw [hR]; exact Nat.le_of_ble_eq_true rfl⟩ rfl (fun v u H locs hp4 hP hD hS _ => ?_)
          obtain ⟨rf, rfl⟩ : ∃ z, z = u := ⟨_, rfl⟩
          obtain ⟨rfl, prf⟩ := hp4
          have hP : va_P D cls0 [(mo, .inr (8, [.int (iZ 2), .int (iZ (np : Int)), .ref ow, .ref om, .ref ok_, .ref oK, .ref og, .ref on_, .ref oh, .ref ox, .int qn, .int qf, .ref op_, .int ql]))] H := hP
          have hD : va_D A [(mo, .inr (8, [.int (iZ 2), .int (iZ (np : Int)), .ref ow, .ref om, .ref ok_, .ref oK, .ref og, .ref on_, .ref oh, .ref ox, .int qn, .int qf, .ref op_, .int ql]))] := hD
          show W p l e R s m args below meth c H locs _ _ Q (F0 m 41 ls [.int (iZ rf)])
          refine zz_if_eq (tgt := 48) hx hb d_Mo_align_41 (by decide) (by omega) (fun c41 => False.elim (by omega)) (fun c41 => ?_)
          refine lv_iconst (v := iZ (0)) hx hb d_Mo_align_44 (by decide +kernel) ?_
          refine lv_goto (tgt := 55) hx hb d_Mo_align_45 (by decide) ?_
          have hP9 : va_P D cls0 [(mo, .inr (8, [.int (iZ 2), .int (iZ (np : Int)), .ref ow, .ref om, .ref ok_, .ref oK, .ref og, .ref on_, .ref oh, .ref ox, .int qn, .int qf, .ref op_, .int ql]))] H := hP.sub [0] rfl
          have hD9 : va_D A [(mo, .inr (8, [.int (iZ 2), .int (iZ (np : Int)), .ref ow, .ref om, .ref ok_, .ref oK, .ref og, .ref on_, .ref oh, .ref ox, .int qn, .int qf, .ref op_, .int ql]))] := hD.sub [0] (by decide) rfl
          rw [hQ, ← hAe]
          refine r_i (v := (iZ 0)) K () hS d_Mo_align_55 ?_ (fun t ht hv => ?_)
          · exact rfl
          · exact ⟨by rw [ht]; exact hP9, va_K.moved hv hK, by rw [← hAe]; exact hD9⟩
    · refine lv_iconst (v := iZ (1)) hx hb d_Mo_align_15 (by decide +kernel) ?_
      refine lv_goto (tgt := 38) hx hb d_Mo_align_16 (by decide) ?_
      exfalso
      omega
set_option maxHeartbeats 4000000 in
set_option maxRecDepth 100000 in
/-- Mo_round refused with 1 -/
theorem r1_Mo_round (l : Launch) (D : va_G) (mo : Nat) (qc : Int32) (np : Nat) (ow : Nat) (om : Nat) (ok_ : Nat) (oK : Nat) (og : Nat) (on_ : Nat) (oh : Nat) (ox : Nat) (qn : Int32) (qf : Int32) (op_ : Nat) (ql : Int32) (zt : Int) (za : Int) (ze : Int) (sz : Nat) (hbad : (zt < 0 ∨ 32 ≤ zt) ∨ (za < 0 ∨ 32 ≤ za)) (hrng : -2147483648 ≤ zt ∧ zt < 2147483648 ∧ -2147483648 ≤ za ∧ za < 2147483648 ∧ -2147483648 ≤ ze ∧ ze < 2147483648) : Met l y_Mo_round (wsB y_Mo_round b_Mo_round 6 (some .int)) ({ frames := 1, cells := 0, slots := 0, locals := 21 }) (va_Pc [.ref mo, .int (iZ zt), .int (iZ za), .int (iZ ze)] (wPre D [] [(mo, .inr (8, [.int qc, .int (iZ (np : Int)), .ref ow, .ref om, .ref ok_, .ref oK, .ref og, .ref on_, .ref oh, .ref ox, .int qn, .int qf, .ref op_, .int ql]))] sz)) (va_QV (fun (v_9 : Option Value) (u_9 : Unit) => v_9 = some (.int (iZ 0))) (fun u_9 => wPost D [] [(mo, .inr (8, [.int qc, .int (iZ (np : Int)), .ref ow, .ref om, .ref ok_, .ref oK, .ref og, .ref on_, .ref oh, .ref ox, .int qn, .int qf, .ref op_, .int ql]))] [(mo, .inr (8, [.int (iZ 1), .int (iZ (np : Int)), .ref ow, .ref om, .ref ok_, .ref oK, .ref og, .ref on_, .ref oh, .ref ox, .int qn, .int qf, .ref op_, .int ql]))] sz) (va_A [(mo, .inr (8, [.int qc, .int (iZ (np : Int)), .ref ow, .ref om, .ref ok_, .ref oK, .ref og, .ref on_, .ref oh, .ref ox, .int qn, .int qf, .ref op_, .int ql]))] sz)) 0 0 (va_A [(mo, .inr (8, [.int qc, .int (iZ (np : Int)), .ref ow, .ref om, .ref ok_, .ref oK, .ref og, .ref on_, .ref oh, .ref ox, .int qn, .int qf, .ref op_, .int ql]))] sz) := by
  refine met_enter (by decide +kernel) (Nat.le_of_ble_eq_true rfl) ?_
  intro p e s m args below meth c ls A R Q H locs K hin hAe hA hR hQ hP hK hD hS hl
  obtain ⟨hx, hb, hml, hrt, hlk, hts, hown, hno⟩ := id K
  have hl : lv_has ls 6 [(0, .ref mo), (1, .int (iZ zt)), (2, .int (iZ za)), (3, .int (iZ ze))] := hl
  refine lv_aload_n hx hb d_Mo_round_0 rfl (lv_at hl 0 rfl) ?_
  refine lv_iload_n hx hb d_Mo_round_1 rfl (lv_at hl 1 rfl) ?_
  refine cs (n := 1) (wr := [(mo, .inr (8, [.int qc, .int (iZ (np : Int)), .ref ow, .ref om, .ref ok_, .ref oK, .ref og, .ref on_, .ref oh, .ref ox, .int qn, .int qf, .ref op_, .int ql]))]) (w1 := (fun (u : Int) => [])) (As := [.int (iZ zt)]) (rest := [.ref mo]) K hP hD hK hS hA hl.1 (c_Mo_isRegister l D zt H.size (by omega)) [] [0] [] rfl rfl rfl (by decide) (by decide) (by decide) (big_in mw_1172 rfl) (big_in mw_10 rfl) (big_in mw_1170 rfl) (big_in mw_1171 rfl) rfl rfl (by decide +kernel) ⟨by rw [hR]; exact Nat.le_of_ble_eq_true rfl, by rw [hR]; exact Nat.le_of_ble_eq_true rfl⟩ rfl (Nat.le_of_ble_eq_true rfl) d_Mo_round_2 ⟨by rw [hR]; exact Nat.le_of_ble_eq_true rfl, by rw [hR]; exact Nat.le_of_ble_eq_true rfl⟩ rfl (fun v u H locs hp1 hP hD hS _ => ?_)
  obtain ⟨r2, rfl⟩ : ∃ z, z = u := ⟨_, rfl⟩
  obtain ⟨rfl, p2⟩ := hp1
  have hP : va_P D cls0 [(mo, .inr (8, [.int qc, .int (iZ (np : Int)), .ref ow, .ref om, .ref ok_, .ref oK, .ref og, .ref on_, .ref oh, .ref ox, .int qn, .int qf, .ref op_, .int ql]))] H := hP
  have hD : va_D A [(mo, .inr (8, [.int qc, .int (iZ (np : Int)), .ref ow, .ref om, .ref ok_, .ref oK, .ref og, .ref on_, .ref oh, .ref ox, .int qn, .int qf, .ref op_, .int ql]))] := hD
  show W p l e R s m args below meth c H locs _ _ Q (F0 m 5 ls [.int (iZ r2), .ref mo])
  have b2 : 0 ≤ r2 ∧ r2 ≤ 1 := by omega
  refine zz_if_eq (tgt := 15) hx hb d_Mo_round_5 (by decide) (by omega) (fun c5 => ?_) (fun c5 => ?_)
  · refine lv_iconst (v := iZ (1)) hx hb d_Mo_round_15 (by decide +kernel) ?_
    refine lv_goto (tgt := 36) hx hb d_Mo_round_16 (by decide) ?_
    refine cv (n := 1) (wr := []) (w1 := (fun (u : Int) => [(mo, .inr (8, [.int (iZ 1), .int (iZ (np : Int)), .ref ow, .ref om, .ref ok_, .ref oK, .ref og, .ref on_, .ref oh, .ref ox, .int qn, .int qf, .ref op_, .int ql]))])) (As := [.int (iZ 1)]) (rest := []) K hP hD hK hS hA hl.1 (c_Mo_refuses l D mo qc np ow om ok_ oK og on_ oh ox qn qf op_ ql 1 H.size (by omega)) [0] [] [] rfl rfl rfl (by decide) (by decide) (by decide) 0 rfl rfl (big_in mw_1176 rfl) (big_in mw_10 rfl) (big_in mw_1173 rfl) (big_in mw_1175 rfl) (big_in sp_18 rfl) rfl rfl (by decide +kernel) ⟨by rw [hR]; exact Nat.le_of_ble_eq_true rfl, by rw [hR]; exact Nat.le_of_ble_eq_true rfl⟩ rfl (Nat.le_of_ble_eq_true rfl) d_Mo_round_36 ⟨by rw [hR]; exact Nat.le_of_ble_eq_true rfl, by rw [hR]; exact Nat.le_of_ble_eq_true rfl⟩ rfl (fun v u H locs hp2 hP hD hS _ => ?_)
    obtain ⟨rf, rfl⟩ : ∃ z, z = u := ⟨_, rfl⟩
    obtain ⟨rfl, prf⟩ := hp2
    have hP : va_P D cls0 [(mo, .inr (8, [.int (iZ 1), .int (iZ (np : Int)), .ref ow, .ref om, .ref ok_, .ref oK, .ref og, .ref on_, .ref oh, .ref ox, .int qn, .int qf, .ref op_, .int ql]))] H := hP
    have hD : va_D A [(mo, .inr (8, [.int (iZ 1), .int (iZ (np : Int)), .ref ow, .ref om, .ref ok_, .ref oK, .ref og, .ref on_, .ref oh, .ref ox, .int qn, .int qf, .ref op_, .int ql]))] := hD
    show W p l e R s m args below meth c H locs _ _ Q (F0 m 39 ls [.int (iZ rf)])
    refine zz_if_eq (tgt := 44) hx hb d_Mo_round_39 (by decide) (by omega) (fun c39 => False.elim (by omega)) (fun c39 => ?_)
    refine lv_iconst (v := iZ (0)) hx hb d_Mo_round_42 (by decide +kernel) ?_
    have hP9 : va_P D cls0 [(mo, .inr (8, [.int (iZ 1), .int (iZ (np : Int)), .ref ow, .ref om, .ref ok_, .ref oK, .ref og, .ref on_, .ref oh, .ref ox, .int qn, .int qf, .ref op_, .int ql]))] H := hP.sub [0] rfl
    have hD9 : va_D A [(mo, .inr (8, [.int (iZ 1), .int (iZ (np : Int)), .ref ow, .ref om, .ref ok_, .ref oK, .ref og, .ref on_, .ref oh, .ref ox, .int qn, .int qf, .ref op_, .int ql]))] := hD.sub [0] (by decide) rfl
    rw [hQ, ← hAe]
    refine r_i (v := (iZ 0)) K () hS d_Mo_round_43 ?_ (fun t ht hv => ?_)
    · exact rfl
    · exact ⟨by rw [ht]; exact hP9, va_K.moved hv hK, by rw [← hAe]; exact hD9⟩
  · refine lv_iload_n hx hb d_Mo_round_8 rfl (lv_at hl 2 rfl) ?_
    refine cs (n := 1) (wr := [(mo, .inr (8, [.int qc, .int (iZ (np : Int)), .ref ow, .ref om, .ref ok_, .ref oK, .ref og, .ref on_, .ref oh, .ref ox, .int qn, .int qf, .ref op_, .int ql]))]) (w1 := (fun (u : Int) => [])) (As := [.int (iZ za)]) (rest := [.ref mo]) K hP hD hK hS hA hl.1 (c_Mo_isRegister l D za H.size (by omega)) [] [0] [] rfl rfl rfl (by decide) (by decide) (by decide) (big_in mw_1172 rfl) (big_in mw_10 rfl) (big_in mw_1170 rfl) (big_in mw_1171 rfl) rfl rfl (by decide +kernel) ⟨by rw [hR]; exact Nat.le_of_ble_eq_true rfl, by rw [hR]; exact Nat.le_of_ble_eq_true rfl⟩ rfl (Nat.le_of_ble_eq_true rfl) d_Mo_round_9 ⟨by rw [hR]; exact Nat.le_of_ble_eq_true rfl, by rw [hR]; exact Nat.le_of_ble_eq_true rfl⟩ rfl (fun v u H locs hp3 hP hD hS _ => ?_)
    obtain ⟨r9, rfl⟩ : ∃ z, z = u := ⟨_, rfl⟩
    obtain ⟨rfl, p9⟩ := hp3
    have hP : va_P D cls0 [(mo, .inr (8, [.int qc, .int (iZ (np : Int)), .ref ow, .ref om, .ref ok_, .ref oK, .ref og, .ref on_, .ref oh, .ref ox, .int qn, .int qf, .ref op_, .int ql]))] H := hP
    have hD : va_D A [(mo, .inr (8, [.int qc, .int (iZ (np : Int)), .ref ow, .ref om, .ref ok_, .ref oK, .ref og, .ref on_, .ref oh, .ref ox, .int qn, .int qf, .ref op_, .int ql]))] := hD
    show W p l e R s m args below meth c H locs _ _ Q (F0 m 12 ls [.int (iZ r9), .ref mo])
    have b9 : 0 ≤ r9 ∧ r9 ≤ 1 := by omega
    refine zz_if_ne (tgt := 19) hx hb d_Mo_round_12 (by decide) (by omega) (fun c12 => ?_) (fun c12 => ?_)
    · refine lv_iload_n hx hb d_Mo_round_19 rfl (lv_at hl 3 rfl) ?_
      refine lv_iconst (v := iZ (1)) hx hb d_Mo_round_20 (by decide +kernel) ?_
      refine zz_icmp_lt (tgt := 31) hx hb d_Mo_round_21 (by decide) (by omega) (by omega) (fun c21 => ?_) (fun c21 => ?_)
      · refine lv_iconst (v := iZ (2)) hx hb d_Mo_round_31 (by decide +kernel) ?_
        refine lv_goto (tgt := 36) hx hb d_Mo_round_32 (by decide) ?_
        exfalso
        omega
      · refine lv_iload_n hx hb d_Mo_round_24 rfl (lv_at hl 3 rfl) ?_
        refine lv_sipush (v := iZ (1024)) hx hb d_Mo_round_25 (by decide +kernel) ?_
        refine zz_icmp_le (tgt := 35) hx hb d_Mo_round_28 (by decide) (by omega) (by omega) (fun c28 => ?_) (fun c28 => ?_)
        · refine lv_iconst (v := iZ (0)) hx hb d_Mo_round_35 (by decide +kernel) ?_
          exfalso
          omega
        · refine lv_iconst (v := iZ (2)) hx hb d_Mo_round_31 (by decide +kernel) ?_
          refine lv_goto (tgt := 36) hx hb d_Mo_round_32 (by decide) ?_
          exfalso
          omega
    · refine lv_iconst (v := iZ (1)) hx hb d_Mo_round_15 (by decide +kernel) ?_
      refine lv_goto (tgt := 36) hx hb d_Mo_round_16 (by decide) ?_
      refine cv (n := 1) (wr := []) (w1 := (fun (u : Int) => [(mo, .inr (8, [.int (iZ 1), .int (iZ (np : Int)), .ref ow, .ref om, .ref ok_, .ref oK, .ref og, .ref on_, .ref oh, .ref ox, .int qn, .int qf, .ref op_, .int ql]))])) (As := [.int (iZ 1)]) (rest := []) K hP hD hK hS hA hl.1 (c_Mo_refuses l D mo qc np ow om ok_ oK og on_ oh ox qn qf op_ ql 1 H.size (by omega)) [0] [] [] rfl rfl rfl (by decide) (by decide) (by decide) 0 rfl rfl (big_in mw_1176 rfl) (big_in mw_10 rfl) (big_in mw_1173 rfl) (big_in mw_1175 rfl) (big_in sp_18 rfl) rfl rfl (by decide +kernel) ⟨by rw [hR]; exact Nat.le_of_ble_eq_true rfl, by rw [hR]; exact Nat.le_of_ble_eq_true rfl⟩ rfl (Nat.le_of_ble_eq_true rfl) d_Mo_round_36 ⟨by rw [hR]; exact Nat.le_of_ble_eq_true rfl, by rw [hR]; exact Nat.le_of_ble_eq_true rfl⟩ rfl (fun v u H locs hp4 hP hD hS _ => ?_)
      obtain ⟨rf, rfl⟩ : ∃ z, z = u := ⟨_, rfl⟩
      obtain ⟨rfl, prf⟩ := hp4
      have hP : va_P D cls0 [(mo, .inr (8, [.int (iZ 1), .int (iZ (np : Int)), .ref ow, .ref om, .ref ok_, .ref oK, .ref og, .ref on_, .ref oh, .ref ox, .int qn, .int qf, .ref op_, .int ql]))] H := hP
      have hD : va_D A [(mo, .inr (8, [.int (iZ 1), .int (iZ (np : Int)), .ref ow, .ref om, .ref ok_, .ref oK, .ref og, .ref on_, .ref oh, .ref ox, .int qn, .int qf, .ref op_, .int ql]))] := hD
      show W p l e R s m args below meth c H locs _ _ Q (F0 m 39 ls [.int (iZ rf)])
      refine zz_if_eq (tgt := 44) hx hb d_Mo_round_39 (by decide) (by omega) (fun c39 => False.elim (by omega)) (fun c39 => ?_)
      refine lv_iconst (v := iZ (0)) hx hb d_Mo_round_42 (by decide +kernel) ?_
      have hP9 : va_P D cls0 [(mo, .inr (8, [.int (iZ 1), .int (iZ (np : Int)), .ref ow, .ref om, .ref ok_, .ref oK, .ref og, .ref on_, .ref oh, .ref ox, .int qn, .int qf, .ref op_, .int ql]))] H := hP.sub [0] rfl
      have hD9 : va_D A [(mo, .inr (8, [.int (iZ 1), .int (iZ (np : Int)), .ref ow, .ref om, .ref ok_, .ref oK, .ref og, .ref on_, .ref oh, .ref ox, .int qn, .int qf, .ref op_, .int ql]))] := hD.sub [0] (by decide) rfl
      rw [hQ, ← hAe]
      refine r_i (v := (iZ 0)) K () hS d_Mo_round_43 ?_ (fun t ht hv => ?_)
      · exact rfl
      · exact ⟨by rw [ht]; exact hP9, va_K.moved hv hK, by rw [← hAe]; exact hD9⟩
set_option maxHeartbeats 4000000 in
set_option maxRecDepth 100000 in
/-- Mo_round refused with 2 -/
theorem r2_Mo_round (l : Launch) (D : va_G) (mo : Nat) (qc : Int32) (np : Nat) (ow : Nat) (om : Nat) (ok_ : Nat) (oK : Nat) (og : Nat) (on_ : Nat) (oh : Nat) (ox : Nat) (qn : Int32) (qf : Int32) (op_ : Nat) (ql : Int32) (to : Nat) (a : Nat) (ze : Int) (sz : Nat) (t1 : to < 32) (t2 : a < 32) (hze : (ze < 1 ∨ 1024 < ze) ∧ -2147483648 ≤ ze ∧ ze < 2147483648) : Met l y_Mo_round (wsB y_Mo_round b_Mo_round 6 (some .int)) ({ frames := 1, cells := 0, slots := 0, locals := 21 }) (va_Pc [.ref mo, .int (iZ (to : Int)), .int (iZ (a : Int)), .int (iZ ze)] (wPre D [] [(mo, .inr (8, [.int qc, .int (iZ (np : Int)), .ref ow, .ref om, .ref ok_, .ref oK, .ref og, .ref on_, .ref oh, .ref ox, .int qn, .int qf, .ref op_, .int ql]))] sz)) (va_QV (fun (v_9 : Option Value) (u_9 : Unit) => v_9 = some (.int (iZ 0))) (fun u_9 => wPost D [] [(mo, .inr (8, [.int qc, .int (iZ (np : Int)), .ref ow, .ref om, .ref ok_, .ref oK, .ref og, .ref on_, .ref oh, .ref ox, .int qn, .int qf, .ref op_, .int ql]))] [(mo, .inr (8, [.int (iZ 2), .int (iZ (np : Int)), .ref ow, .ref om, .ref ok_, .ref oK, .ref og, .ref on_, .ref oh, .ref ox, .int qn, .int qf, .ref op_, .int ql]))] sz) (va_A [(mo, .inr (8, [.int qc, .int (iZ (np : Int)), .ref ow, .ref om, .ref ok_, .ref oK, .ref og, .ref on_, .ref oh, .ref ox, .int qn, .int qf, .ref op_, .int ql]))] sz)) 0 0 (va_A [(mo, .inr (8, [.int qc, .int (iZ (np : Int)), .ref ow, .ref om, .ref ok_, .ref oK, .ref og, .ref on_, .ref oh, .ref ox, .int qn, .int qf, .ref op_, .int ql]))] sz) := by
  refine met_enter (by decide +kernel) (Nat.le_of_ble_eq_true rfl) ?_
  intro p e s m args below meth c ls A R Q H locs K hin hAe hA hR hQ hP hK hD hS hl
  obtain ⟨hx, hb, hml, hrt, hlk, hts, hown, hno⟩ := id K
  have hl : lv_has ls 6 [(0, .ref mo), (1, .int (iZ (to : Int))), (2, .int (iZ (a : Int))), (3, .int (iZ ze))] := hl
  refine lv_aload_n hx hb d_Mo_round_0 rfl (lv_at hl 0 rfl) ?_
  refine lv_iload_n hx hb d_Mo_round_1 rfl (lv_at hl 1 rfl) ?_
  refine cs (n := 1) (wr := [(mo, .inr (8, [.int qc, .int (iZ (np : Int)), .ref ow, .ref om, .ref ok_, .ref oK, .ref og, .ref on_, .ref oh, .ref ox, .int qn, .int qf, .ref op_, .int ql]))]) (w1 := (fun (u : Int) => [])) (As := [.int (iZ (to : Int))]) (rest := [.ref mo]) K hP hD hK hS hA hl.1 (c_Mo_isRegister l D (to : Int) H.size (by omega)) [] [0] [] rfl rfl rfl (by decide) (by decide) (by decide) (big_in mw_1172 rfl) (big_in mw_10 rfl) (big_in mw_1170 rfl) (big_in mw_1171 rfl) rfl rfl (by decide +kernel) ⟨by rw [hR]; exact Nat.le_of_ble_eq_true rfl, by rw [hR]; exact Nat.le_of_ble_eq_true rfl⟩ rfl (Nat.le_of_ble_eq_true rfl) d_Mo_round_2 ⟨by rw [hR]; exact Nat.le_of_ble_eq_true rfl, by rw [hR]; exact Nat.le_of_ble_eq_true rfl⟩ rfl (fun v u H locs hp1 hP hD hS _ => ?_)
  obtain ⟨r2, rfl⟩ : ∃ z, z = u := ⟨_, rfl⟩
  obtain ⟨rfl, p2⟩ := hp1
  have hP : va_P D cls0 [(mo, .inr (8, [.int qc, .int (iZ (np : Int)), .ref ow, .ref om, .ref ok_, .ref oK, .ref og, .ref on_, .ref oh, .ref ox, .int qn, .int qf, .ref op_, .int ql]))] H := hP
  have hD : va_D A [(mo, .inr (8, [.int qc, .int (iZ (np : Int)), .ref ow, .ref om, .ref ok_, .ref oK, .ref og, .ref on_, .ref oh, .ref ox, .int qn, .int qf, .ref op_, .int ql]))] := hD
  show W p l e R s m args below meth c H locs _ _ Q (F0 m 5 ls [.int (iZ r2), .ref mo])
  have b2 : 0 ≤ r2 ∧ r2 ≤ 1 := by omega
  refine zz_if_eq (tgt := 15) hx hb d_Mo_round_5 (by decide) (by omega) (fun c5 => ?_) (fun c5 => ?_)
  · refine lv_iconst (v := iZ (1)) hx hb d_Mo_round_15 (by decide +kernel) ?_
    refine lv_goto (tgt := 36) hx hb d_Mo_round_16 (by decide) ?_
    exfalso
    omega
  · refine lv_iload_n hx hb d_Mo_round_8 rfl (lv_at hl 2 rfl) ?_
    refine cs (n := 1) (wr := [(mo, .inr (8, [.int qc, .int (iZ (np : Int)), .ref ow, .ref om, .ref ok_, .ref oK, .ref og, .ref on_, .ref oh, .ref ox, .int qn, .int qf, .ref op_, .int ql]))]) (w1 := (fun (u : Int) => [])) (As := [.int (iZ (a : Int))]) (rest := [.ref mo]) K hP hD hK hS hA hl.1 (c_Mo_isRegister l D (a : Int) H.size (by omega)) [] [0] [] rfl rfl rfl (by decide) (by decide) (by decide) (big_in mw_1172 rfl) (big_in mw_10 rfl) (big_in mw_1170 rfl) (big_in mw_1171 rfl) rfl rfl (by decide +kernel) ⟨by rw [hR]; exact Nat.le_of_ble_eq_true rfl, by rw [hR]; exact Nat.le_of_ble_eq_true rfl⟩ rfl (Nat.le_of_ble_eq_true rfl) d_Mo_round_9 ⟨by rw [hR]; exact Nat.le_of_ble_eq_true rfl, by rw [hR]; exact Nat.le_of_ble_eq_true rfl⟩ rfl (fun v u H locs hp2 hP hD hS _ => ?_)
    obtain ⟨r9, rfl⟩ : ∃ z, z = u := ⟨_, rfl⟩
    obtain ⟨rfl, p9⟩ := hp2
    have hP : va_P D cls0 [(mo, .inr (8, [.int qc, .int (iZ (np : Int)), .ref ow, .ref om, .ref ok_, .ref oK, .ref og, .ref on_, .ref oh, .ref ox, .int qn, .int qf, .ref op_, .int ql]))] H := hP
    have hD : va_D A [(mo, .inr (8, [.int qc, .int (iZ (np : Int)), .ref ow, .ref om, .ref ok_, .ref oK, .ref og, .ref on_, .ref oh, .ref ox, .int qn, .int qf, .ref op_, .int ql]))] := hD
    show W p l e R s m args below meth c H locs _ _ Q (F0 m 12 ls [.int (iZ r9), .ref mo])
    have b9 : 0 ≤ r9 ∧ r9 ≤ 1 := by omega
    refine zz_if_ne (tgt := 19) hx hb d_Mo_round_12 (by decide) (by omega) (fun c12 => ?_) (fun c12 => ?_)
    · refine lv_iload_n hx hb d_Mo_round_19 rfl (lv_at hl 3 rfl) ?_
      refine lv_iconst (v := iZ (1)) hx hb d_Mo_round_20 (by decide +kernel) ?_
      refine zz_icmp_lt (tgt := 31) hx hb d_Mo_round_21 (by decide) (by omega) (by omega) (fun c21 => ?_) (fun c21 => ?_)
      · refine lv_iconst (v := iZ (2)) hx hb d_Mo_round_31 (by decide +kernel) ?_
        refine lv_goto (tgt := 36) hx hb d_Mo_round_32 (by decide) ?_
        refine cv (n := 1) (wr := []) (w1 := (fun (u : Int) => [(mo, .inr (8, [.int (iZ 2), .int (iZ (np : Int)), .ref ow, .ref om, .ref ok_, .ref oK, .ref og, .ref on_, .ref oh, .ref ox, .int qn, .int qf, .ref op_, .int ql]))])) (As := [.int (iZ 2)]) (rest := []) K hP hD hK hS hA hl.1 (c_Mo_refuses l D mo qc np ow om ok_ oK og on_ oh ox qn qf op_ ql 2 H.size (by omega)) [0] [] [] rfl rfl rfl (by decide) (by decide) (by decide) 0 rfl rfl (big_in mw_1176 rfl) (big_in mw_10 rfl) (big_in mw_1173 rfl) (big_in mw_1175 rfl) (big_in sp_18 rfl) rfl rfl (by decide +kernel) ⟨by rw [hR]; exact Nat.le_of_ble_eq_true rfl, by rw [hR]; exact Nat.le_of_ble_eq_true rfl⟩ rfl (Nat.le_of_ble_eq_true rfl) d_Mo_round_36 ⟨by rw [hR]; exact Nat.le_of_ble_eq_true rfl, by rw [hR]; exact Nat.le_of_ble_eq_true rfl⟩ rfl (fun v u H locs hp3 hP hD hS _ => ?_)
        obtain ⟨rf, rfl⟩ : ∃ z, z = u := ⟨_, rfl⟩
        obtain ⟨rfl, prf⟩ := hp3
        have hP : va_P D cls0 [(mo, .inr (8, [.int (iZ 2), .int (iZ (np : Int)), .ref ow, .ref om, .ref ok_, .ref oK, .ref og, .ref on_, .ref oh, .ref ox, .int qn, .int qf, .ref op_, .int ql]))] H := hP
        have hD : va_D A [(mo, .inr (8, [.int (iZ 2), .int (iZ (np : Int)), .ref ow, .ref om, .ref ok_, .ref oK, .ref og, .ref on_, .ref oh, .ref ox, .int qn, .int qf, .ref op_, .int ql]))] := hD
        show W p l e R s m args below meth c H locs _ _ Q (F0 m 39 ls [.int (iZ rf)])
        refine zz_if_eq (tgt := 44) hx hb d_Mo_round_39 (by decide) (by omega) (fun c39 => False.elim (by omega)) (fun c39 => ?_)
        refine lv_iconst (v := iZ (0)) hx hb d_Mo_round_42 (by decide +kernel) ?_
        have hP9 : va_P D cls0 [(mo, .inr (8, [.int (iZ 2), .int (iZ (np : Int)), .ref ow, .ref om, .ref ok_, .ref oK, .ref og, .ref on_, .ref oh, .ref ox, .int qn, .int qf, .ref op_, .int ql]))] H := hP.sub [0] rfl
        have hD9 : va_D A [(mo, .inr (8, [.int (iZ 2), .int (iZ (np : Int)), .ref ow, .ref om, .ref ok_, .ref oK, .ref og, .ref on_, .ref oh, .ref ox, .int qn, .int qf, .ref op_, .int ql]))] := hD.sub [0] (by decide) rfl
        rw [hQ, ← hAe]
        refine r_i (v := (iZ 0)) K () hS d_Mo_round_43 ?_ (fun t ht hv => ?_)
        · exact rfl
        · exact ⟨by rw [ht]; exact hP9, va_K.moved hv hK, by rw [← hAe]; exact hD9⟩
      · refine lv_iload_n hx hb d_Mo_round_24 rfl (lv_at hl 3 rfl) ?_
        refine lv_sipush (v := iZ (1024)) hx hb d_Mo_round_25 (by decide +kernel) ?_
        refine zz_icmp_le (tgt := 35) hx hb d_Mo_round_28 (by decide) (by omega) (by omega) (fun c28 => ?_) (fun c28 => ?_)
        · refine lv_iconst (v := iZ (0)) hx hb d_Mo_round_35 (by decide +kernel) ?_
          exfalso
          omega
        · refine lv_iconst (v := iZ (2)) hx hb d_Mo_round_31 (by decide +kernel) ?_
          refine lv_goto (tgt := 36) hx hb d_Mo_round_32 (by decide) ?_
          refine cv (n := 1) (wr := []) (w1 := (fun (u : Int) => [(mo, .inr (8, [.int (iZ 2), .int (iZ (np : Int)), .ref ow, .ref om, .ref ok_, .ref oK, .ref og, .ref on_, .ref oh, .ref ox, .int qn, .int qf, .ref op_, .int ql]))])) (As := [.int (iZ 2)]) (rest := []) K hP hD hK hS hA hl.1 (c_Mo_refuses l D mo qc np ow om ok_ oK og on_ oh ox qn qf op_ ql 2 H.size (by omega)) [0] [] [] rfl rfl rfl (by decide) (by decide) (by decide) 0 rfl rfl (big_in mw_1176 rfl) (big_in mw_10 rfl) (big_in mw_1173 rfl) (big_in mw_1175 rfl) (big_in sp_18 rfl) rfl rfl (by decide +kernel) ⟨by rw [hR]; exact Nat.le_of_ble_eq_true rfl, by rw [hR]; exact Nat.le_of_ble_eq_true rfl⟩ rfl (Nat.le_of_ble_eq_true rfl) d_Mo_round_36 ⟨by rw [hR]; exact Nat.le_of_ble_eq_true rfl, by rw [hR]; exact Nat.le_of_ble_eq_true rfl⟩ rfl (fun v u H locs hp4 hP hD hS _ => ?_)
          obtain ⟨rf, rfl⟩ : ∃ z, z = u := ⟨_, rfl⟩
          obtain ⟨rfl, prf⟩ := hp4
          have hP : va_P D cls0 [(mo, .inr (8, [.int (iZ 2), .int (iZ (np : Int)), .ref ow, .ref om, .ref ok_, .ref oK, .ref og, .ref on_, .ref oh, .ref ox, .int qn, .int qf, .ref op_, .int ql]))] H := hP
          have hD : va_D A [(mo, .inr (8, [.int (iZ 2), .int (iZ (np : Int)), .ref ow, .ref om, .ref ok_, .ref oK, .ref og, .ref on_, .ref oh, .ref ox, .int qn, .int qf, .ref op_, .int ql]))] := hD
          show W p l e R s m args below meth c H locs _ _ Q (F0 m 39 ls [.int (iZ rf)])
          refine zz_if_eq (tgt := 44) hx hb d_Mo_round_39 (by decide) (by omega) (fun c39 => False.elim (by omega)) (fun c39 => ?_)
          refine lv_iconst (v := iZ (0)) hx hb d_Mo_round_42 (by decide +kernel) ?_
          have hP9 : va_P D cls0 [(mo, .inr (8, [.int (iZ 2), .int (iZ (np : Int)), .ref ow, .ref om, .ref ok_, .ref oK, .ref og, .ref on_, .ref oh, .ref ox, .int qn, .int qf, .ref op_, .int ql]))] H := hP.sub [0] rfl
          have hD9 : va_D A [(mo, .inr (8, [.int (iZ 2), .int (iZ (np : Int)), .ref ow, .ref om, .ref ok_, .ref oK, .ref og, .ref on_, .ref oh, .ref ox, .int qn, .int qf, .ref op_, .int ql]))] := hD.sub [0] (by decide) rfl
          rw [hQ, ← hAe]
          refine r_i (v := (iZ 0)) K () hS d_Mo_round_43 ?_ (fun t ht hv => ?_)
          · exact rfl
          · exact ⟨by rw [ht]; exact hP9, va_K.moved hv hK, by rw [← hAe]; exact hD9⟩
    · refine lv_iconst (v := iZ (1)) hx hb d_Mo_round_15 (by decide +kernel) ?_
      refine lv_goto (tgt := 36) hx hb d_Mo_round_16 (by decide) ?_
      exfalso
      omega
set_option maxHeartbeats 4000000 in
set_option maxRecDepth 100000 in
theorem c_Mo_round0 (l : Launch) (D : va_G) (mo : Nat) (qc : Int32) (np : Nat) (ow : Nat) (om : Nat) (ok_ : Nat) (oK : Nat) (og : Nat) (on_ : Nat) (oh : Nat) (ox : Nat) (qn : Int32) (qf : Int32) (op_ : Nat) (ql : Int32) (fw : Nat → Int32) (fm : Nat → Int32) (cI : ClassId) (fh : Nat → Int32) (fk : Nat → Int32) (fK : Nat → Int32) (fs : Nat → Int32) (fn : Nat → Int32) (val : Nat → Nat) (tv : Nat → Nat) (bv : Nat → Nat) (sg : Nat → Int) (to : Nat) (a : Nat) (pb : Nat) (sz : Nat) (hW : WB fw fm val) (hMR : MoR fk fK fs fn tv bv sg) (hnd : ndS tv bv 32 ≤ np) (hnp : np ≤ 1024) (J : RgC tv bv sg) (hbv : ∀ r, r < 32 → 0 < bv r) (t1 : to < 32) (t2 : a < 32) (hpb : 0 < pb ∧ pb ≤ 1024) (hs0 : sg a = 0) (hfit : ndS tv bv 32 + (lm (tv a) + lm (bv a)) ≤ np + (lm (tv to) + lm (bv to))) : Met l y_Mo_round (wsB y_Mo_round b_Mo_round 6 (some .int)) ({ frames := 5, cells := 0, slots := 0, locals := 115 }) (va_Pc [.ref mo, .int (iZ (to : Int)), .int (iZ (a : Int)), .int (iZ (pb : Int))] (wPre D [(cI, .int)] [(mo, .inr (8, [.int qc, .int (iZ (np : Int)), .ref ow, .ref om, .ref ok_, .ref oK, .ref og, .ref on_, .ref oh, .ref ox, .int qn, .int qf, .ref op_, .int ql])), (ow, .inl (cI, 108000, .inl fw)), (om, .inl (cI, 9, .inl fm)), (oh, .inl (cI, 10000, .inl fh)), (ok_, .inl (cI, 166400, .inl fk)), (oK, .inl (cI, 64, .inl fK)), (og, .inl (cI, 32, .inl fs)), (on_, .inl (cI, 32, .inl fn))] sz)) (va_QV (fun (v_9 : Option Value) (u_9 : (Nat → Int32) × (Nat → Int32) × (Nat → Int32) × (Nat → Int32) × (Nat → Int32) × (Nat → Int32) × (Nat → Int32) × (Nat → Nat)) => v_9 = some (.int (iZ ((lm (tv a) : Int) + (lm (bv a) : Int)))) ∧ (WB u_9.1 u_9.2.1 u_9.2.2.2.2.2.2.2) ∧ (MoR u_9.2.2.2.1 u_9.2.2.2.2.1 u_9.2.2.2.2.2.1 u_9.2.2.2.2.2.2.1 (up tv to (tv a)) (up bv to (bv a)) (up sg to (if tv a = 0 then 0 else sg a)))) (fun u_9 => wPost D [(cI, .int)] [(mo, .inr (8, [.int qc, .int (iZ (np : Int)), .ref ow, .ref om, .ref ok_, .ref oK, .ref og, .ref on_, .ref oh, .ref ox, .int qn, .int qf, .ref op_, .int ql])), (ow, .inl (cI, 108000, .inl fw)), (om, .inl (cI, 9, .inl fm)), (oh, .inl (cI, 10000, .inl fh)), (ok_, .inl (cI, 166400, .inl fk)), (oK, .inl (cI, 64, .inl fK)), (og, .inl (cI, 32, .inl fs)), (on_, .inl (cI, 32, .inl fn))] [(mo, .inr (8, [.int (iZ 0), .int (iZ (np : Int)), .ref ow, .ref om, .ref ok_, .ref oK, .ref og, .ref on_, .ref oh, .ref ox, .int qn, .int qf, .ref op_, .int ql])), (ow, .inl (cI, 108000, .inl u_9.1)), (om, .inl (cI, 9, .inl u_9.2.1)), (oh, .inl (cI, 10000, .inl u_9.2.2.1)), (ok_, .inl (cI, 166400, .inl u_9.2.2.2.1)), (oK, .inl (cI, 64, .inl u_9.2.2.2.2.1)), (og, .inl (cI, 32, .inl u_9.2.2.2.2.2.1)), (on_, .inl (cI, 32, .inl u_9.2.2.2.2.2.2.1))] sz) (va_A [(mo, .inr (8, [.int qc, .int (iZ (np : Int)), .ref ow, .ref om, .ref ok_, .ref oK, .ref og, .ref on_, .ref oh, .ref ox, .int qn, .int qf, .ref op_, .int ql])), (ow, .inl (cI, 108000, .inl fw)), (om, .inl (cI, 9, .inl fm)), (oh, .inl (cI, 10000, .inl fh)), (ok_, .inl (cI, 166400, .inl fk)), (oK, .inl (cI, 64, .inl fK)), (og, .inl (cI, 32, .inl fs)), (on_, .inl (cI, 32, .inl fn))] sz)) 0 0 (va_A [(mo, .inr (8, [.int qc, .int (iZ (np : Int)), .ref ow, .ref om, .ref ok_, .ref oK, .ref og, .ref on_, .ref oh, .ref ox, .int qn, .int qf, .ref op_, .int ql])), (ow, .inl (cI, 108000, .inl fw)), (om, .inl (cI, 9, .inl fm)), (oh, .inl (cI, 10000, .inl fh)), (ok_, .inl (cI, 166400, .inl fk)), (oK, .inl (cI, 64, .inl fK)), (og, .inl (cI, 32, .inl fs)), (on_, .inl (cI, 32, .inl fn))] sz) := by
  refine met_enter (by decide +kernel) (Nat.le_of_ble_eq_true rfl) ?_
  intro p e s m args below meth c ls A R Q H locs K hin hAe hA hR hQ hP hK hD hS hl
  obtain ⟨hx, hb, hml, hrt, hlk, hts, hown, hno⟩ := id K
  have hl : lv_has ls 6 [(0, .ref mo), (1, .int (iZ (to : Int))), (2, .int (iZ (a : Int))), (3, .int (iZ (pb : Int)))] := hl
  refine lv_aload_n hx hb d_Mo_round_0 rfl (lv_at hl 0 rfl) ?_
  refine lv_iload_n hx hb d_Mo_round_1 rfl (lv_at hl 1 rfl) ?_
  refine cs (n := 1) (wr := [(mo, .inr (8, [.int qc, .int (iZ (np : Int)), .ref ow, .ref om, .ref ok_, .ref oK, .ref og, .ref on_, .ref oh, .ref ox, .int qn, .int qf, .ref op_, .int ql])), (ow, .inl (cI, 108000, .inl fw)), (om, .inl (cI, 9, .inl fm)), (oh, .inl (cI, 10000, .inl fh)), (ok_, .inl (cI, 166400, .inl fk)), (oK, .inl (cI, 64, .inl fK)), (og, .inl (cI, 32, .inl fs)), (on_, .inl (cI, 32, .inl fn))]) (w1 := (fun (u : Int) => [])) (As := [.int (iZ (to : Int))]) (rest := [.ref mo]) K hP hD hK hS hA hl.1 (c_Mo_isRegister l D (to : Int) H.size (by omega)) [] [0, 1, 2, 3, 4, 5, 6, 7] [] rfl rfl rfl (by decide) (by decide) (by decide) (big_in mw_1172 rfl) (big_in mw_10 rfl) (big_in mw_1170 rfl) (big_in mw_1171 rfl) rfl rfl (by decide +kernel) ⟨by rw [hR]; exact Nat.le_of_ble_eq_true rfl, by rw [hR]; exact Nat.le_of_ble_eq_true rfl⟩ rfl (Nat.le_of_ble_eq_true rfl) d_Mo_round_2 ⟨by rw [hR]; exact Nat.le_of_ble_eq_true rfl, by rw [hR]; exact Nat.le_of_ble_eq_true rfl⟩ rfl (fun v u H locs hp1 hP hD hS _ => ?_)
  obtain ⟨r2, rfl⟩ : ∃ z, z = u := ⟨_, rfl⟩
  obtain ⟨rfl, p2⟩ := hp1
  have hP : va_P D cls0 [(mo, .inr (8, [.int qc, .int (iZ (np : Int)), .ref ow, .ref om, .ref ok_, .ref oK, .ref og, .ref on_, .ref oh, .ref ox, .int qn, .int qf, .ref op_, .int ql])), (ow, .inl (cI, 108000, .inl fw)), (om, .inl (cI, 9, .inl fm)), (oh, .inl (cI, 10000, .inl fh)), (ok_, .inl (cI, 166400, .inl fk)), (oK, .inl (cI, 64, .inl fK)), (og, .inl (cI, 32, .inl fs)), (on_, .inl (cI, 32, .inl fn))] H := hP
  have hD : va_D A [(mo, .inr (8, [.int qc, .int (iZ (np : Int)), .ref ow, .ref om, .ref ok_, .ref oK, .ref og, .ref on_, .ref oh, .ref ox, .int qn, .int qf, .ref op_, .int ql])), (ow, .inl (cI, 108000, .inl fw)), (om, .inl (cI, 9, .inl fm)), (oh, .inl (cI, 10000, .inl fh)), (ok_, .inl (cI, 166400, .inl fk)), (oK, .inl (cI, 64, .inl fK)), (og, .inl (cI, 32, .inl fs)), (on_, .inl (cI, 32, .inl fn))] := hD
  show W p l e R s m args below meth c H locs _ _ Q (F0 m 5 ls [.int (iZ r2), .ref mo])
  have b2 : 0 ≤ r2 ∧ r2 ≤ 1 := by omega
  refine zz_if_eq (tgt := 15) hx hb d_Mo_round_5 (by decide) (by omega) (fun c5 => ?_) (fun c5 => ?_)
  · refine lv_iconst (v := iZ (1)) hx hb d_Mo_round_15 (by decide +kernel) ?_
    refine lv_goto (tgt := 36) hx hb d_Mo_round_16 (by decide) ?_
    exfalso
    omega
  · refine lv_iload_n hx hb d_Mo_round_8 rfl (lv_at hl 2 rfl) ?_
    refine cs (n := 1) (wr := [(mo, .inr (8, [.int qc, .int (iZ (np : Int)), .ref ow, .ref om, .ref ok_, .ref oK, .ref og, .ref on_, .ref oh, .ref ox, .int qn, .int qf, .ref op_, .int ql])), (ow, .inl (cI, 108000, .inl fw)), (om, .inl (cI, 9, .inl fm)), (oh, .inl (cI, 10000, .inl fh)), (ok_, .inl (cI, 166400, .inl fk)), (oK, .inl (cI, 64, .inl fK)), (og, .inl (cI, 32, .inl fs)), (on_, .inl (cI, 32, .inl fn))]) (w1 := (fun (u : Int) => [])) (As := [.int (iZ (a : Int))]) (rest := [.ref mo]) K hP hD hK hS hA hl.1 (c_Mo_isRegister l D (a : Int) H.size (by omega)) [] [0, 1, 2, 3, 4, 5, 6, 7] [] rfl rfl rfl (by decide) (by decide) (by decide) (big_in mw_1172 rfl) (big_in mw_10 rfl) (big_in mw_1170 rfl) (big_in mw_1171 rfl) rfl rfl (by decide +kernel) ⟨by rw [hR]; exact Nat.le_of_ble_eq_true rfl, by rw [hR]; exact Nat.le_of_ble_eq_true rfl⟩ rfl (Nat.le_of_ble_eq_true rfl) d_Mo_round_9 ⟨by rw [hR]; exact Nat.le_of_ble_eq_true rfl, by rw [hR]; exact Nat.le_of_ble_eq_true rfl⟩ rfl (fun v u H locs hp2 hP hD hS _ => ?_)
    obtain ⟨r9, rfl⟩ : ∃ z, z = u := ⟨_, rfl⟩
    obtain ⟨rfl, p9⟩ := hp2
    have hP : va_P D cls0 [(mo, .inr (8, [.int qc, .int (iZ (np : Int)), .ref ow, .ref om, .ref ok_, .ref oK, .ref og, .ref on_, .ref oh, .ref ox, .int qn, .int qf, .ref op_, .int ql])), (ow, .inl (cI, 108000, .inl fw)), (om, .inl (cI, 9, .inl fm)), (oh, .inl (cI, 10000, .inl fh)), (ok_, .inl (cI, 166400, .inl fk)), (oK, .inl (cI, 64, .inl fK)), (og, .inl (cI, 32, .inl fs)), (on_, .inl (cI, 32, .inl fn))] H := hP
    have hD : va_D A [(mo, .inr (8, [.int qc, .int (iZ (np : Int)), .ref ow, .ref om, .ref ok_, .ref oK, .ref og, .ref on_, .ref oh, .ref ox, .int qn, .int qf, .ref op_, .int ql])), (ow, .inl (cI, 108000, .inl fw)), (om, .inl (cI, 9, .inl fm)), (oh, .inl (cI, 10000, .inl fh)), (ok_, .inl (cI, 166400, .inl fk)), (oK, .inl (cI, 64, .inl fK)), (og, .inl (cI, 32, .inl fs)), (on_, .inl (cI, 32, .inl fn))] := hD
    show W p l e R s m args below meth c H locs _ _ Q (F0 m 12 ls [.int (iZ r9), .ref mo])
    have b9 : 0 ≤ r9 ∧ r9 ≤ 1 := by omega
    refine zz_if_ne (tgt := 19) hx hb d_Mo_round_12 (by decide) (by omega) (fun c12 => ?_) (fun c12 => ?_)
    · refine lv_iload_n hx hb d_Mo_round_19 rfl (lv_at hl 3 rfl) ?_
      refine lv_iconst (v := iZ (1)) hx hb d_Mo_round_20 (by decide +kernel) ?_
      refine zz_icmp_lt (tgt := 31) hx hb d_Mo_round_21 (by decide) (by omega) (by omega) (fun c21 => ?_) (fun c21 => ?_)
      · refine lv_iconst (v := iZ (2)) hx hb d_Mo_round_31 (by decide +kernel) ?_
        refine lv_goto (tgt := 36) hx hb d_Mo_round_32 (by decide) ?_
        exfalso
        omega
      · refine lv_iload_n hx hb d_Mo_round_24 rfl (lv_at hl 3 rfl) ?_
        refine lv_sipush (v := iZ (1024)) hx hb d_Mo_round_25 (by decide +kernel) ?_
        refine zz_icmp_le (tgt := 35) hx hb d_Mo_round_28 (by decide) (by omega) (by omega) (fun c28 => ?_) (fun c28 => ?_)
        · refine lv_iconst (v := iZ (0)) hx hb d_Mo_round_35 (by decide +kernel) ?_
          refine cv (n := 1) (wr := [(ow, .inl (cI, 108000, .inl fw)), (om, .inl (cI, 9, .inl fm)), (oh, .inl (cI, 10000, .inl fh)), (ok_, .inl (cI, 166400, .inl fk)), (oK, .inl (cI, 64, .inl fK)), (og, .inl (cI, 32, .inl fs)), (on_, .inl (cI, 32, .inl fn))]) (w1 := (fun (u : Int) => [(mo, .inr (8, [.int (iZ 0), .int (iZ (np : Int)), .ref ow, .ref om, .ref ok_, .ref oK, .ref og, .ref on_, .ref oh, .ref ox, .int qn, .int qf, .ref op_, .int ql]))])) (As := [.int (iZ 0)]) (rest := []) K hP hD hK hS hA hl.1 (c_Mo_refuses l D mo qc np ow om ok_ oK og on_ oh ox qn qf op_ ql 0 H.size (by omega)) [0] [1, 2, 3, 4, 5, 6, 7] [] rfl rfl rfl (by decide) (by decide) (by decide) 0 rfl rfl (big_in mw_1176 rfl) (big_in mw_10 rfl) (big_in mw_1173 rfl) (big_in mw_1175 rfl) (big_in sp_18 rfl) rfl rfl (by decide +kernel) ⟨by rw [hR]; exact Nat.le_of_ble_eq_true rfl, by rw [hR]; exact Nat.le_of_ble_eq_true rfl⟩ rfl (Nat.le_of_ble_eq_true rfl) d_Mo_round_36 ⟨by rw [hR]; exact Nat.le_of_ble_eq_true rfl, by rw [hR]; exact Nat.le_of_ble_eq_true rfl⟩ rfl (fun v u H locs hp3 hP hD hS _ => ?_)
          obtain ⟨rf, rfl⟩ : ∃ z, z = u := ⟨_, rfl⟩
          obtain ⟨rfl, prf⟩ := hp3
          have hP : va_P D cls0 [(ow, .inl (cI, 108000, .inl fw)), (om, .inl (cI, 9, .inl fm)), (oh, .inl (cI, 10000, .inl fh)), (ok_, .inl (cI, 166400, .inl fk)), (oK, .inl (cI, 64, .inl fK)), (og, .inl (cI, 32, .inl fs)), (on_, .inl (cI, 32, .inl fn)), (mo, .inr (8, [.int (iZ 0), .int (iZ (np : Int)), .ref ow, .ref om, .ref ok_, .ref oK, .ref og, .ref on_, .ref oh, .ref ox, .int qn, .int qf, .ref op_, .int ql]))] H := hP
          have hD : va_D A [(ow, .inl (cI, 108000, .inl fw)), (om, .inl (cI, 9, .inl fm)), (oh, .inl (cI, 10000, .inl fh)), (ok_, .inl (cI, 166400, .inl fk)), (oK, .inl (cI, 64, .inl fK)), (og, .inl (cI, 32, .inl fs)), (on_, .inl (cI, 32, .inl fn)), (mo, .inr (8, [.int (iZ 0), .int (iZ (np : Int)), .ref ow, .ref om, .ref ok_, .ref oK, .ref og, .ref on_, .ref oh, .ref ox, .int qn, .int qf, .ref op_, .int ql]))] := hD
          show W p l e R s m args below meth c H locs _ _ Q (F0 m 39 ls [.int (iZ rf)])
          refine zz_if_eq (tgt := 44) hx hb d_Mo_round_39 (by decide) (by omega) (fun c39 => ?_) (fun c39 => False.elim (by omega))
          refine lv_aload_n hx hb d_Mo_round_44 rfl (lv_at hl 0 rfl) ?_
          refine va_get (D := D) (ci := 8) (v := .ref og) (C := R_Mo) (T := F_Mo) (N := 14) hx hb hts i_Mo hown hK hP 7 rfl rfl 6 (by decide) (hts _ (big_in mw_1121 rfl)) (fun _ h9 => h9) rfl d_Mo_round_45 ?_
          refine lv_iload_n hx hb d_Mo_round_48 rfl (lv_at hl 2 rfl) ?_
          refine zz_iald hx hb hK hP 5 0 rfl rfl (a) (by omega) (by omega) (by omega) d_Mo_round_49 ?_
          rw [hMR.2.1 a (by omega)]
          refine zz_if_ne (tgt := 60) hx hb d_Mo_round_50 (by decide) (by omega) (fun c50 => False.elim (by omega)) (fun c50 => ?_)
          refine lv_aload_n hx hb d_Mo_round_53 rfl (lv_at hl 0 rfl) ?_
          refine lv_iload_n hx hb d_Mo_round_54 rfl (lv_at hl 1 rfl) ?_
          refine lv_iload_n hx hb d_Mo_round_55 rfl (lv_at hl 2 rfl) ?_
          refine cv (n := 2) (wr := []) (w1 := (fun (u : (Nat → Int32) × (Nat → Int32) × (Nat → Int32) × (Nat → Int32) × (Nat → Int32) × (Nat → Int32) × (Nat → Int32) × (Nat → Nat)) => [(mo, .inr (8, [.int (iZ 0), .int (iZ (np : Int)), .ref ow, .ref om, .ref ok_, .ref oK, .ref og, .ref on_, .ref oh, .ref ox, .int qn, .int qf, .ref op_, .int ql])), (ow, .inl (cI, 108000, .inl u.1)), (om, .inl (cI, 9, .inl u.2.1)), (oh, .inl (cI, 10000, .inl u.2.2.1)), (ok_, .inl (cI, 166400, .inl u.2.2.2.1)), (oK, .inl (cI, 64, .inl u.2.2.2.2.1)), (og, .inl (cI, 32, .inl u.2.2.2.2.2.1)), (on_, .inl (cI, 32, .inl u.2.2.2.2.2.2.1))])) (As := [.int (iZ (to : Int)), .int (iZ (a : Int))]) (rest := []) K hP hD hK hS hA hl.1 (c_Mo_copy l D mo (iZ 0) np ow om ok_ oK og on_ oh ox qn qf op_ ql fw fm cI fh fk fK fs fn val tv bv sg to a H.size hW hMR hnd hnp J hbv t1 t2 hfit) [7, 0, 1, 2, 3, 4, 5, 6] [] [0] rfl rfl rfl (by decide) (by decide) (by decide) 0 rfl rfl (big_in mw_1234 rfl) (big_in mw_10 rfl) (big_in mw_1316 rfl) (big_in mw_1232 rfl) (big_in mw_1233 rfl) rfl rfl (by decide +kernel) ⟨by rw [hR]; exact Nat.le_of_ble_eq_true rfl, by rw [hR]; exact Nat.le_of_ble_eq_true rfl⟩ rfl (Nat.le_of_ble_eq_true rfl) d_Mo_round_56 ⟨by rw [hR]; exact Nat.le_of_ble_eq_true rfl, by rw [hR]; exact Nat.le_of_ble_eq_true rfl⟩ rfl (fun v u H locs hp4 hP hD hS _ => ?_)
          obtain ⟨fa, fb, fc, fd, fe, ff, fg, v9⟩ := u
          try dsimp only at hp4
          obtain ⟨rfl, w9, q9⟩ := hp4
          have hP : va_P D cls0 [(mo, .inr (8, [.int (iZ 0), .int (iZ (np : Int)), .ref ow, .ref om, .ref ok_, .ref oK, .ref og, .ref on_, .ref oh, .ref ox, .int qn, .int qf, .ref op_, .int ql])), (ow, .inl (cI, 108000, .inl fa)), (om, .inl (cI, 9, .inl fb)), (oh, .inl (cI, 10000, .inl fc)), (ok_, .inl (cI, 166400, .inl fd)), (oK, .inl (cI, 64, .inl fe)), (og, .inl (cI, 32, .inl ff)), (on_, .inl (cI, 32, .inl fg))] H := hP
          have hD : va_D A [(mo, .inr (8, [.int (iZ 0), .int (iZ (np : Int)), .ref ow, .ref om, .ref ok_, .ref oK, .ref og, .ref on_, .ref oh, .ref ox, .int qn, .int qf, .ref op_, .int ql])), (ow, .inl (cI, 108000, .inl fa)), (om, .inl (cI, 9, .inl fb)), (oh, .inl (cI, 10000, .inl fc)), (ok_, .inl (cI, 166400, .inl fd)), (oK, .inl (cI, 64, .inl fe)), (og, .inl (cI, 32, .inl ff)), (on_, .inl (cI, 32, .inl fg))] := hD
          show W p l e R s m args below meth c H locs _ _ Q (F0 m 59 ls [.int (iZ ((lm (tv a) : Int) + (lm (bv a) : Int)))])
          have hP9 : va_P D cls0 [(mo, .inr (8, [.int (iZ 0), .int (iZ (np : Int)), .ref ow, .ref om, .ref ok_, .ref oK, .ref og, .ref on_, .ref oh, .ref ox, .int qn, .int qf, .ref op_, .int ql])), (ow, .inl (cI, 108000, .inl fa)), (om, .inl (cI, 9, .inl fb)), (oh, .inl (cI, 10000, .inl fc)), (ok_, .inl (cI, 166400, .inl fd)), (oK, .inl (cI, 64, .inl fe)), (og, .inl (cI, 32, .inl ff)), (on_, .inl (cI, 32, .inl fg))] H := hP.sub [0, 1, 2, 3, 4, 5, 6, 7] rfl
          have hD9 : va_D A [(mo, .inr (8, [.int (iZ 0), .int (iZ (np : Int)), .ref ow, .ref om, .ref ok_, .ref oK, .ref og, .ref on_, .ref oh, .ref ox, .int qn, .int qf, .ref op_, .int ql])), (ow, .inl (cI, 108000, .inl fa)), (om, .inl (cI, 9, .inl fb)), (oh, .inl (cI, 10000, .inl fc)), (ok_, .inl (cI, 166400, .inl fd)), (oK, .inl (cI, 64, .inl fe)), (og, .inl (cI, 32, .inl ff)), (on_, .inl (cI, 32, .inl fg))] := hD.sub [0, 1, 2, 3, 4, 5, 6, 7] (by decide) rfl
          rw [hQ, ← hAe]
          refine r_i (v := (iZ ((lm (tv a) : Int) + (lm (bv a) : Int)))) K (fa, fb, fc, fd, fe, ff, fg, v9) hS d_Mo_round_59 ?_ (fun t ht hv => ?_)
          · exact ⟨rfl, w9, q9⟩
          · exact ⟨by rw [ht]; exact hP9, va_K.moved hv hK, by rw [← hAe]; exact hD9⟩
        · refine lv_iconst (v := iZ (2)) hx hb d_Mo_round_31 (by decide +kernel) ?_
          refine lv_goto (tgt := 36) hx hb d_Mo_round_32 (by decide) ?_
          exfalso
          omega
    · refine lv_iconst (v := iZ (1)) hx hb d_Mo_round_15 (by decide +kernel) ?_
      refine lv_goto (tgt := 36) hx hb d_Mo_round_16 (by decide) ?_
      exfalso
      omega
set_option maxHeartbeats 4000000 in
set_option maxRecDepth 100000 in
theorem f_Mo_round0 (l : Launch) (D : va_G) (mo : Nat) (qc : Int32) (np : Nat) (ow : Nat) (om : Nat) (ok_ : Nat) (oK : Nat) (og : Nat) (on_ : Nat) (oh : Nat) (ox : Nat) (qn : Int32) (qf : Int32) (op_ : Nat) (ql : Int32) (fw : Nat → Int32) (fm : Nat → Int32) (cI : ClassId) (fh : Nat → Int32) (fk : Nat → Int32) (fK : Nat → Int32) (fs : Nat → Int32) (fn : Nat → Int32) (val : Nat → Nat) (tv : Nat → Nat) (bv : Nat → Nat) (sg : Nat → Int) (to : Nat) (a : Nat) (pb : Nat) (sz : Nat) (hW : WB fw fm val) (hMR : MoR fk fK fs fn tv bv sg) (hnd : ndS tv bv 32 ≤ np) (hnp : np ≤ 1024) (J : RgC tv bv sg) (hbv : ∀ r, r < 32 → 0 < bv r) (t1 : to < 32) (t2 : a < 32) (hpb : 0 < pb ∧ pb ≤ 1024) (hs0 : sg a = 0) (hfit : np + (lm (tv to) + lm (bv to)) < ndS tv bv 32 + (lm (tv a) + lm (bv a))) : Met l y_Mo_round (wsB y_Mo_round b_Mo_round 6 (some .int)) ({ frames := 5, cells := 0, slots := 0, locals := 115 }) (va_Pc [.ref mo, .int (iZ (to : Int)), .int (iZ (a : Int)), .int (iZ (pb : Int))] (wPre D [(cI, .int)] [(mo, .inr (8, [.int qc, .int (iZ (np : Int)), .ref ow, .ref om, .ref ok_, .ref oK, .ref og, .ref on_, .ref oh, .ref ox, .int qn, .int qf, .ref op_, .int ql])), (ow, .inl (cI, 108000, .inl fw)), (om, .inl (cI, 9, .inl fm)), (oh, .inl (cI, 10000, .inl fh)), (ok_, .inl (cI, 166400, .inl fk)), (oK, .inl (cI, 64, .inl fK)), (og, .inl (cI, 32, .inl fs)), (on_, .inl (cI, 32, .inl fn))] sz)) (va_QV (fun (v_9 : Option Value) (u_9 : (Nat → Int32) × (Nat → Int32) × (Nat → Int32) × (Nat → Nat)) => v_9 = some (.int (iZ 0)) ∧ (WB u_9.1 u_9.2.1 u_9.2.2.2)) (fun u_9 => wPost D [(cI, .int)] [(mo, .inr (8, [.int qc, .int (iZ (np : Int)), .ref ow, .ref om, .ref ok_, .ref oK, .ref og, .ref on_, .ref oh, .ref ox, .int qn, .int qf, .ref op_, .int ql])), (ow, .inl (cI, 108000, .inl fw)), (om, .inl (cI, 9, .inl fm)), (oh, .inl (cI, 10000, .inl fh)), (ok_, .inl (cI, 166400, .inl fk)), (oK, .inl (cI, 64, .inl fK)), (og, .inl (cI, 32, .inl fs)), (on_, .inl (cI, 32, .inl fn))] [(mo, .inr (8, [.int (iZ 2), .int (iZ (np : Int)), .ref ow, .ref om, .ref ok_, .ref oK, .ref og, .ref on_, .ref oh, .ref ox, .int qn, .int qf, .ref op_, .int ql])), (ow, .inl (cI, 108000, .inl u_9.1)), (om, .inl (cI, 9, .inl u_9.2.1)), (oh, .inl (cI, 10000, .inl u_9.2.2.1)), (ok_, .inl (cI, 166400, .inl fk)), (oK, .inl (cI, 64, .inl fK)), (og, .inl (cI, 32, .inl fs)), (on_, .inl (cI, 32, .inl fn))] sz) (va_A [(mo, .inr (8, [.int qc, .int (iZ (np : Int)), .ref ow, .ref om, .ref ok_, .ref oK, .ref og, .ref on_, .ref oh, .ref ox, .int qn, .int qf, .ref op_, .int ql])), (ow, .inl (cI, 108000, .inl fw)), (om, .inl (cI, 9, .inl fm)), (oh, .inl (cI, 10000, .inl fh)), (ok_, .inl (cI, 166400, .inl fk)), (oK, .inl (cI, 64, .inl fK)), (og, .inl (cI, 32, .inl fs)), (on_, .inl (cI, 32, .inl fn))] sz)) 0 0 (va_A [(mo, .inr (8, [.int qc, .int (iZ (np : Int)), .ref ow, .ref om, .ref ok_, .ref oK, .ref og, .ref on_, .ref oh, .ref ox, .int qn, .int qf, .ref op_, .int ql])), (ow, .inl (cI, 108000, .inl fw)), (om, .inl (cI, 9, .inl fm)), (oh, .inl (cI, 10000, .inl fh)), (ok_, .inl (cI, 166400, .inl fk)), (oK, .inl (cI, 64, .inl fK)), (og, .inl (cI, 32, .inl fs)), (on_, .inl (cI, 32, .inl fn))] sz) := by
  refine met_enter (by decide +kernel) (Nat.le_of_ble_eq_true rfl) ?_
  intro p e s m args below meth c ls A R Q H locs K hin hAe hA hR hQ hP hK hD hS hl
  obtain ⟨hx, hb, hml, hrt, hlk, hts, hown, hno⟩ := id K
  have hl : lv_has ls 6 [(0, .ref mo), (1, .int (iZ (to : Int))), (2, .int (iZ (a : Int))), (3, .int (iZ (pb : Int)))] := hl
  refine lv_aload_n hx hb d_Mo_round_0 rfl (lv_at hl 0 rfl) ?_
  refine lv_iload_n hx hb d_Mo_round_1 rfl (lv_at hl 1 rfl) ?_
  refine cs (n := 1) (wr := [(mo, .inr (8, [.int qc, .int (iZ (np : Int)), .ref ow, .ref om, .ref ok_, .ref oK, .ref og, .ref on_, .ref oh, .ref ox, .int qn, .int qf, .ref op_, .int ql])), (ow, .inl (cI, 108000, .inl fw)), (om, .inl (cI, 9, .inl fm)), (oh, .inl (cI, 10000, .inl fh)), (ok_, .inl (cI, 166400, .inl fk)), (oK, .inl (cI, 64, .inl fK)), (og, .inl (cI, 32, .inl fs)), (on_, .inl (cI, 32, .inl fn))]) (w1 := (fun (u : Int) => [])) (As := [.int (iZ (to : Int))]) (rest := [.ref mo]) K hP hD hK hS hA hl.1 (c_Mo_isRegister l D (to : Int) H.size (by omega)) [] [0, 1, 2, 3, 4, 5, 6, 7] [] rfl rfl rfl (by decide) (by decide) (by decide) (big_in mw_1172 rfl) (big_in mw_10 rfl) (big_in mw_1170 rfl) (big_in mw_1171 rfl) rfl rfl (by decide +kernel) ⟨by rw [hR]; exact Nat.le_of_ble_eq_true rfl, by rw [hR]; exact Nat.le_of_ble_eq_true rfl⟩ rfl (Nat.le_of_ble_eq_true rfl) d_Mo_round_2 ⟨by rw [hR]; exact Nat.le_of_ble_eq_true rfl, by rw [hR]; exact Nat.le_of_ble_eq_true rfl⟩ rfl (fun v u H locs hp1 hP hD hS _ => ?_)
  obtain ⟨r2, rfl⟩ : ∃ z, z = u := ⟨_, rfl⟩
  obtain ⟨rfl, p2⟩ := hp1
  have hP : va_P D cls0 [(mo, .inr (8, [.int qc, .int (iZ (np : Int)), .ref ow, .ref om, .ref ok_, .ref oK, .ref og, .ref on_, .ref oh, .ref ox, .int qn, .int qf, .ref op_, .int ql])), (ow, .inl (cI, 108000, .inl fw)), (om, .inl (cI, 9, .inl fm)), (oh, .inl (cI, 10000, .inl fh)), (ok_, .inl (cI, 166400, .inl fk)), (oK, .inl (cI, 64, .inl fK)), (og, .inl (cI, 32, .inl fs)), (on_, .inl (cI, 32, .inl fn))] H := hP
  have hD : va_D A [(mo, .inr (8, [.int qc, .int (iZ (np : Int)), .ref ow, .ref om, .ref ok_, .ref oK, .ref og, .ref on_, .ref oh, .ref ox, .int qn, .int qf, .ref op_, .int ql])), (ow, .inl (cI, 108000, .inl fw)), (om, .inl (cI, 9, .inl fm)), (oh, .inl (cI, 10000, .inl fh)), (ok_, .inl (cI, 166400, .inl fk)), (oK, .inl (cI, 64, .inl fK)), (og, .inl (cI, 32, .inl fs)), (on_, .inl (cI, 32, .inl fn))] := hD
  show W p l e R s m args below meth c H locs _ _ Q (F0 m 5 ls [.int (iZ r2), .ref mo])
  have b2 : 0 ≤ r2 ∧ r2 ≤ 1 := by omega
  refine zz_if_eq (tgt := 15) hx hb d_Mo_round_5 (by decide) (by omega) (fun c5 => ?_) (fun c5 => ?_)
  · refine lv_iconst (v := iZ (1)) hx hb d_Mo_round_15 (by decide +kernel) ?_
    refine lv_goto (tgt := 36) hx hb d_Mo_round_16 (by decide) ?_
    exfalso
    omega
  · refine lv_iload_n hx hb d_Mo_round_8 rfl (lv_at hl 2 rfl) ?_
    refine cs (n := 1) (wr := [(mo, .inr (8, [.int qc, .int (iZ (np : Int)), .ref ow, .ref om, .ref ok_, .ref oK, .ref og, .ref on_, .ref oh, .ref ox, .int qn, .int qf, .ref op_, .int ql])), (ow, .inl (cI, 108000, .inl fw)), (om, .inl (cI, 9, .inl fm)), (oh, .inl (cI, 10000, .inl fh)), (ok_, .inl (cI, 166400, .inl fk)), (oK, .inl (cI, 64, .inl fK)), (og, .inl (cI, 32, .inl fs)), (on_, .inl (cI, 32, .inl fn))]) (w1 := (fun (u : Int) => [])) (As := [.int (iZ (a : Int))]) (rest := [.ref mo]) K hP hD hK hS hA hl.1 (c_Mo_isRegister l D (a : Int) H.size (by omega)) [] [0, 1, 2, 3, 4, 5, 6, 7] [] rfl rfl rfl (by decide) (by decide) (by decide) (big_in mw_1172 rfl) (big_in mw_10 rfl) (big_in mw_1170 rfl) (big_in mw_1171 rfl) rfl rfl (by decide +kernel) ⟨by rw [hR]; exact Nat.le_of_ble_eq_true rfl, by rw [hR]; exact Nat.le_of_ble_eq_true rfl⟩ rfl (Nat.le_of_ble_eq_true rfl) d_Mo_round_9 ⟨by rw [hR]; exact Nat.le_of_ble_eq_true rfl, by rw [hR]; exact Nat.le_of_ble_eq_true rfl⟩ rfl (fun v u H locs hp2 hP hD hS _ => ?_)
    obtain ⟨r9, rfl⟩ : ∃ z, z = u := ⟨_, rfl⟩
    obtain ⟨rfl, p9⟩ := hp2
    have hP : va_P D cls0 [(mo, .inr (8, [.int qc, .int (iZ (np : Int)), .ref ow, .ref om, .ref ok_, .ref oK, .ref og, .ref on_, .ref oh, .ref ox, .int qn, .int qf, .ref op_, .int ql])), (ow, .inl (cI, 108000, .inl fw)), (om, .inl (cI, 9, .inl fm)), (oh, .inl (cI, 10000, .inl fh)), (ok_, .inl (cI, 166400, .inl fk)), (oK, .inl (cI, 64, .inl fK)), (og, .inl (cI, 32, .inl fs)), (on_, .inl (cI, 32, .inl fn))] H := hP
    have hD : va_D A [(mo, .inr (8, [.int qc, .int (iZ (np : Int)), .ref ow, .ref om, .ref ok_, .ref oK, .ref og, .ref on_, .ref oh, .ref ox, .int qn, .int qf, .ref op_, .int ql])), (ow, .inl (cI, 108000, .inl fw)), (om, .inl (cI, 9, .inl fm)), (oh, .inl (cI, 10000, .inl fh)), (ok_, .inl (cI, 166400, .inl fk)), (oK, .inl (cI, 64, .inl fK)), (og, .inl (cI, 32, .inl fs)), (on_, .inl (cI, 32, .inl fn))] := hD
    show W p l e R s m args below meth c H locs _ _ Q (F0 m 12 ls [.int (iZ r9), .ref mo])
    have b9 : 0 ≤ r9 ∧ r9 ≤ 1 := by omega
    refine zz_if_ne (tgt := 19) hx hb d_Mo_round_12 (by decide) (by omega) (fun c12 => ?_) (fun c12 => ?_)
    · refine lv_iload_n hx hb d_Mo_round_19 rfl (lv_at hl 3 rfl) ?_
      refine lv_iconst (v := iZ (1)) hx hb d_Mo_round_20 (by decide +kernel) ?_
      refine zz_icmp_lt (tgt := 31) hx hb d_Mo_round_21 (by decide) (by omega) (by omega) (fun c21 => ?_) (fun c21 => ?_)
      · refine lv_iconst (v := iZ (2)) hx hb d_Mo_round_31 (by decide +kernel) ?_
        refine lv_goto (tgt := 36) hx hb d_Mo_round_32 (by decide) ?_
        exfalso
        omega
      · refine lv_iload_n hx hb d_Mo_round_24 rfl (lv_at hl 3 rfl) ?_
        refine lv_sipush (v := iZ (1024)) hx hb d_Mo_round_25 (by decide +kernel) ?_
        refine zz_icmp_le (tgt := 35) hx hb d_Mo_round_28 (by decide) (by omega) (by omega) (fun c28 => ?_) (fun c28 => ?_)
        · refine lv_iconst (v := iZ (0)) hx hb d_Mo_round_35 (by decide +kernel) ?_
          refine cv (n := 1) (wr := [(ow, .inl (cI, 108000, .inl fw)), (om, .inl (cI, 9, .inl fm)), (oh, .inl (cI, 10000, .inl fh)), (ok_, .inl (cI, 166400, .inl fk)), (oK, .inl (cI, 64, .inl fK)), (og, .inl (cI, 32, .inl fs)), (on_, .inl (cI, 32, .inl fn))]) (w1 := (fun (u : Int) => [(mo, .inr (8, [.int (iZ 0), .int (iZ (np : Int)), .ref ow, .ref om, .ref ok_, .ref oK, .ref og, .ref on_, .ref oh, .ref ox, .int qn, .int qf, .ref op_, .int ql]))])) (As := [.int (iZ 0)]) (rest := []) K hP hD hK hS hA hl.1 (c_Mo_refuses l D mo qc np ow om ok_ oK og on_ oh ox qn qf op_ ql 0 H.size (by omega)) [0] [1, 2, 3, 4, 5, 6, 7] [] rfl rfl rfl (by decide) (by decide) (by decide) 0 rfl rfl (big_in mw_1176 rfl) (big_in mw_10 rfl) (big_in mw_1173 rfl) (big_in mw_1175 rfl) (big_in sp_18 rfl) rfl rfl (by decide +kernel) ⟨by rw [hR]; exact Nat.le_of_ble_eq_true rfl, by rw [hR]; exact Nat.le_of_ble_eq_true rfl⟩ rfl (Nat.le_of_ble_eq_true rfl) d_Mo_round_36 ⟨by rw [hR]; exact Nat.le_of_ble_eq_true rfl, by rw [hR]; exact Nat.le_of_ble_eq_true rfl⟩ rfl (fun v u H locs hp3 hP hD hS _ => ?_)
          obtain ⟨rf, rfl⟩ : ∃ z, z = u := ⟨_, rfl⟩
          obtain ⟨rfl, prf⟩ := hp3
          have hP : va_P D cls0 [(ow, .inl (cI, 108000, .inl fw)), (om, .inl (cI, 9, .inl fm)), (oh, .inl (cI, 10000, .inl fh)), (ok_, .inl (cI, 166400, .inl fk)), (oK, .inl (cI, 64, .inl fK)), (og, .inl (cI, 32, .inl fs)), (on_, .inl (cI, 32, .inl fn)), (mo, .inr (8, [.int (iZ 0), .int (iZ (np : Int)), .ref ow, .ref om, .ref ok_, .ref oK, .ref og, .ref on_, .ref oh, .ref ox, .int qn, .int qf, .ref op_, .int ql]))] H := hP
          have hD : va_D A [(ow, .inl (cI, 108000, .inl fw)), (om, .inl (cI, 9, .inl fm)), (oh, .inl (cI, 10000, .inl fh)), (ok_, .inl (cI, 166400, .inl fk)), (oK, .inl (cI, 64, .inl fK)), (og, .inl (cI, 32, .inl fs)), (on_, .inl (cI, 32, .inl fn)), (mo, .inr (8, [.int (iZ 0), .int (iZ (np : Int)), .ref ow, .ref om, .ref ok_, .ref oK, .ref og, .ref on_, .ref oh, .ref ox, .int qn, .int qf, .ref op_, .int ql]))] := hD
          show W p l e R s m args below meth c H locs _ _ Q (F0 m 39 ls [.int (iZ rf)])
          refine zz_if_eq (tgt := 44) hx hb d_Mo_round_39 (by decide) (by omega) (fun c39 => ?_) (fun c39 => False.elim (by omega))
          refine lv_aload_n hx hb d_Mo_round_44 rfl (lv_at hl 0 rfl) ?_
          refine va_get (D := D) (ci := 8) (v := .ref og) (C := R_Mo) (T := F_Mo) (N := 14) hx hb hts i_Mo hown hK hP 7 rfl rfl 6 (by decide) (hts _ (big_in mw_1121 rfl)) (fun _ h9 => h9) rfl d_Mo_round_45 ?_
          refine lv_iload_n hx hb d_Mo_round_48 rfl (lv_at hl 2 rfl) ?_
          refine zz_iald hx hb hK hP 5 0 rfl rfl (a) (by omega) (by omega) (by omega) d_Mo_round_49 ?_
          rw [hMR.2.1 a (by omega)]
          refine zz_if_ne (tgt := 60) hx hb d_Mo_round_50 (by decide) (by omega) (fun c50 => False.elim (by omega)) (fun c50 => ?_)
          refine lv_aload_n hx hb d_Mo_round_53 rfl (lv_at hl 0 rfl) ?_
          refine lv_iload_n hx hb d_Mo_round_54 rfl (lv_at hl 1 rfl) ?_
          refine lv_iload_n hx hb d_Mo_round_55 rfl (lv_at hl 2 rfl) ?_
          refine cv (n := 2) (wr := []) (w1 := (fun (u : (Nat → Int32) × (Nat → Int32) × (Nat → Int32) × (Nat → Nat)) => [(mo, .inr (8, [.int (iZ 2), .int (iZ (np : Int)), .ref ow, .ref om, .ref ok_, .ref oK, .ref og, .ref on_, .ref oh, .ref ox, .int qn, .int qf, .ref op_, .int ql])), (ow, .inl (cI, 108000, .inl u.1)), (om, .inl (cI, 9, .inl u.2.1)), (oh, .inl (cI, 10000, .inl u.2.2.1)), (ok_, .inl (cI, 166400, .inl fk)), (oK, .inl (cI, 64, .inl fK)), (og, .inl (cI, 32, .inl fs)), (on_, .inl (cI, 32, .inl fn))])) (As := [.int (iZ (to : Int)), .int (iZ (a : Int))]) (rest := []) K hP hD hK hS hA hl.1 (f_Mo_copy l D mo (iZ 0) np ow om ok_ oK og on_ oh ox qn qf op_ ql fw fm cI fh fk fK fs fn val tv bv sg to a H.size hW hMR hnd hnp J hbv t1 t2 hfit) [7, 0, 1, 2, 3, 4, 5, 6] [] [0] rfl rfl rfl (by decide) (by decide) (by decide) 0 rfl rfl (big_in mw_1234 rfl) (big_in mw_10 rfl) (big_in mw_1316 rfl) (big_in mw_1232 rfl) (big_in mw_1233 rfl) rfl rfl (by decide +kernel) ⟨by rw [hR]; exact Nat.le_of_ble_eq_true rfl, by rw [hR]; exact Nat.le_of_ble_eq_true rfl⟩ rfl (Nat.le_of_ble_eq_true rfl) d_Mo_round_56 ⟨by rw [hR]; exact Nat.le_of_ble_eq_true rfl, by rw [hR]; exact Nat.le_of_ble_eq_true rfl⟩ rfl (fun v u H locs hp4 hP hD hS _ => ?_)
          obtain ⟨fa, fb, fc, v9⟩ := u
          try dsimp only at hp4
          obtain ⟨rfl, w9⟩ := hp4
          have hP : va_P D cls0 [(mo, .inr (8, [.int (iZ 2), .int (iZ (np : Int)), .ref ow, .ref om, .ref ok_, .ref oK, .ref og, .ref on_, .ref oh, .ref ox, .int qn, .int qf, .ref op_, .int ql])), (ow, .inl (cI, 108000, .inl fa)), (om, .inl (cI, 9, .inl fb)), (oh, .inl (cI, 10000, .inl fc)), (ok_, .inl (cI, 166400, .inl fk)), (oK, .inl (cI, 64, .inl fK)), (og, .inl (cI, 32, .inl fs)), (on_, .inl (cI, 32, .inl fn))] H := hP
          have hD : va_D A [(mo, .inr (8, [.int (iZ 2), .int (iZ (np : Int)), .ref ow, .ref om, .ref ok_, .ref oK, .ref og, .ref on_, .ref oh, .ref ox, .int qn, .int qf, .ref op_, .int ql])), (ow, .inl (cI, 108000, .inl fa)), (om, .inl (cI, 9, .inl fb)), (oh, .inl (cI, 10000, .inl fc)), (ok_, .inl (cI, 166400, .inl fk)), (oK, .inl (cI, 64, .inl fK)), (og, .inl (cI, 32, .inl fs)), (on_, .inl (cI, 32, .inl fn))] := hD
          show W p l e R s m args below meth c H locs _ _ Q (F0 m 59 ls [.int (iZ 0)])
          have hP9 : va_P D cls0 [(mo, .inr (8, [.int (iZ 2), .int (iZ (np : Int)), .ref ow, .ref om, .ref ok_, .ref oK, .ref og, .ref on_, .ref oh, .ref ox, .int qn, .int qf, .ref op_, .int ql])), (ow, .inl (cI, 108000, .inl fa)), (om, .inl (cI, 9, .inl fb)), (oh, .inl (cI, 10000, .inl fc)), (ok_, .inl (cI, 166400, .inl fk)), (oK, .inl (cI, 64, .inl fK)), (og, .inl (cI, 32, .inl fs)), (on_, .inl (cI, 32, .inl fn))] H := hP.sub [0, 1, 2, 3, 4, 5, 6, 7] rfl
          have hD9 : va_D A [(mo, .inr (8, [.int (iZ 2), .int (iZ (np : Int)), .ref ow, .ref om, .ref ok_, .ref oK, .ref og, .ref on_, .ref oh, .ref ox, .int qn, .int qf, .ref op_, .int ql])), (ow, .inl (cI, 108000, .inl fa)), (om, .inl (cI, 9, .inl fb)), (oh, .inl (cI, 10000, .inl fc)), (ok_, .inl (cI, 166400, .inl fk)), (oK, .inl (cI, 64, .inl fK)), (og, .inl (cI, 32, .inl fs)), (on_, .inl (cI, 32, .inl fn))] := hD.sub [0, 1, 2, 3, 4, 5, 6, 7] (by decide) rfl
          rw [hQ, ← hAe]
          refine r_i (v := (iZ 0)) K (fa, fb, fc, v9) hS d_Mo_round_59 ?_ (fun t ht hv => ?_)
          · exact ⟨rfl, w9⟩
          · exact ⟨by rw [ht]; exact hP9, va_K.moved hv hK, by rw [← hAe]; exact hD9⟩
        · refine lv_iconst (v := iZ (2)) hx hb d_Mo_round_31 (by decide +kernel) ?_
          refine lv_goto (tgt := 36) hx hb d_Mo_round_32 (by decide) ?_
          exfalso
          omega
    · refine lv_iconst (v := iZ (1)) hx hb d_Mo_round_15 (by decide +kernel) ?_
      refine lv_goto (tgt := 36) hx hb d_Mo_round_16 (by decide) ?_
      exfalso
      omega
