/-- the sign of a fraction as the reference has it -/
def sgS (n d : Int) : Int := if (n < 0 ↔ d < 0) then 1 else -1
set_option maxHeartbeats 4000000 in
set_option maxRecDepth 100000 in
/-- set(r, n, d) -/
theorem c_Mo_set (l : Launch) (D : va_G) (mo : Nat) (qc : Int32) (np : Nat) (ow : Nat) (om : Nat) (ok_ : Nat) (oK : Nat) (og : Nat) (on_ : Nat) (oh : Nat) (ox : Nat) (qn : Int32) (qf : Int32) (op_ : Nat) (ql : Int32) (fw : Nat → Int32) (fm : Nat → Int32) (cI : ClassId) (fh : Nat → Int32) (fk : Nat → Int32) (fK : Nat → Int32) (fs : Nat → Int32) (fn : Nat → Int32) (val : Nat → Nat) (tv : Nat → Nat) (bv : Nat → Nat) (sg : Nat → Int) (to : Nat) (zn : Int) (zd : Int) (sz : Nat) (hW : WB fw fm val) (hMR : MoR fk fK fs fn tv bv sg) (hnd : ndS tv bv 32 ≤ np) (hnp : np ≤ 1024) (J : RgC tv bv sg) (hbv : ∀ r, r < 32 → 0 < bv r) (t1 : to < 32) (hzn : -9223372036854775808 ≤ zn ∧ zn < 9223372036854775808) (hzd : -9223372036854775808 ≤ zd ∧ zd < 9223372036854775808) (hd0 : zd ≠ 0) (hfit : ndS tv bv 32 + (lm (rdN (zn.natAbs) (zd.natAbs)) + lm (rdD (zn.natAbs) (zd.natAbs))) ≤ np + (lm (tv to) + lm (bv to))) : Met l y_Mo_set (wsB y_Mo_set b_Mo_set 6 (some .int)) ({ frames := 5, cells := 0, slots := 0, locals := 125 }) (va_Pc [.ref mo, .int (iZ (to : Int)), .long (lZ zn), .long (lZ zd)] (wPre D [(cI, .int)] [(mo, .inr (8, [.int qc, .int (iZ (np : Int)), .ref ow, .ref om, .ref ok_, .ref oK, .ref og, .ref on_, .ref oh, .ref ox, .int qn, .int qf, .ref op_, .int ql])), (ow, .inl (cI, 108000, .inl fw)), (om, .inl (cI, 9, .inl fm)), (oh, .inl (cI, 10000, .inl fh)), (ok_, .inl (cI, 166400, .inl fk)), (oK, .inl (cI, 64, .inl fK)), (og, .inl (cI, 32, .inl fs)), (on_, .inl (cI, 32, .inl fn))] sz)) (va_QV (fun (v_9 : Option Value) (u_9 : (Nat → Int32) × (Nat → Int32) × (Nat → Int32) × (Nat → Int32) × (Nat → Int32) × (Nat → Int32) × (Nat → Int32) × (Nat → Nat)) => v_9 = some (.int (iZ ((lm (rdN (zn.natAbs) (zd.natAbs)) : Int) + (lm (rdD (zn.natAbs) (zd.natAbs)) : Int)))) ∧ (WB u_9.1 u_9.2.1 u_9.2.2.2.2.2.2.2) ∧ (MoR u_9.2.2.2.1 u_9.2.2.2.2.1 u_9.2.2.2.2.2.1 u_9.2.2.2.2.2.2.1 (up tv to (rdN (zn.natAbs) (zd.natAbs))) (up bv to (rdD (zn.natAbs) (zd.natAbs))) (up sg to (if rdN (zn.natAbs) (zd.natAbs) = 0 then 0 else sgS zn zd)))) (fun u_9 => wPost D [(cI, .int)] [(mo, .inr (8, [.int qc, .int (iZ (np : Int)), .ref ow, .ref om, .ref ok_, .ref oK, .ref og, .ref on_, .ref oh, .ref ox, .int qn, .int qf, .ref op_, .int ql])), (ow, .inl (cI, 108000, .inl fw)), (om, .inl (cI, 9, .inl fm)), (oh, .inl (cI, 10000, .inl fh)), (ok_, .inl (cI, 166400, .inl fk)), (oK, .inl (cI, 64, .inl fK)), (og, .inl (cI, 32, .inl fs)), (on_, .inl (cI, 32, .inl fn))] [(mo, .inr (8, [.int (iZ 0), .int (iZ (np : Int)), .ref ow, .ref om, .ref ok_, .ref oK, .ref og, .ref on_, .ref oh, .ref ox, .int qn, .int qf, .ref op_, .int ql])), (ow, .inl (cI, 108000, .inl u_9.1)), (om, .inl (cI, 9, .inl u_9.2.1)), (oh, .inl (cI, 10000, .inl u_9.2.2.1)), (ok_, .inl (cI, 166400, .inl u_9.2.2.2.1)), (oK, .inl (cI, 64, .inl u_9.2.2.2.2.1)), (og, .inl (cI, 32, .inl u_9.2.2.2.2.2.1)), (on_, .inl (cI, 32, .inl u_9.2.2.2.2.2.2.1))] sz) (va_A [(mo, .inr (8, [.int qc, .int (iZ (np : Int)), .ref ow, .ref om, .ref ok_, .ref oK, .ref og, .ref on_, .ref oh, .ref ox, .int qn, .int qf, .ref op_, .int ql])), (ow, .inl (cI, 108000, .inl fw)), (om, .inl (cI, 9, .inl fm)), (oh, .inl (cI, 10000, .inl fh)), (ok_, .inl (cI, 166400, .inl fk)), (oK, .inl (cI, 64, .inl fK)), (og, .inl (cI, 32, .inl fs)), (on_, .inl (cI, 32, .inl fn))] sz)) 0 0 (va_A [(mo, .inr (8, [.int qc, .int (iZ (np : Int)), .ref ow, .ref om, .ref ok_, .ref oK, .ref og, .ref on_, .ref oh, .ref ox, .int qn, .int qf, .ref op_, .int ql])), (ow, .inl (cI, 108000, .inl fw)), (om, .inl (cI, 9, .inl fm)), (oh, .inl (cI, 10000, .inl fh)), (ok_, .inl (cI, 166400, .inl fk)), (oK, .inl (cI, 64, .inl fK)), (og, .inl (cI, 32, .inl fs)), (on_, .inl (cI, 32, .inl fn))] sz) := by
  refine met_enter (by decide +kernel) (Nat.le_of_ble_eq_true rfl) ?_
  intro p e s m args below meth c ls A R Q H locs K hin hAe hA hR hQ hP hK hD hS hl
  obtain ⟨hx, hb, hml, hrt, hlk, hts, hown, hno⟩ := id K
  have hl : lv_has ls 6 [(0, .ref mo), (1, .int (iZ (to : Int))), (2, .long (lZ zn)), (4, .long (lZ zd))] := hl
  have hlr : ∀ q, q < 32 → lm (tv q) + lm (bv q) ≤ 1024 := fun q hq => by have z := ndS_le (tv := tv) (bv := bv) hq; omega
  have hnt : ∀ q, q < 32 → nd (tv q) ≤ 2600 := fun q hq => by have z := nd_lm (v := tv q) (L := 1024) (by have y := hlr q hq; omega); omega
  have hnb : ∀ q, q < 32 → nd (bv q) ≤ 2600 := fun q hq => by have z := nd_lm (v := bv q) (L := 1024) (by have y := hlr q hq; omega); omega
  refine lv_aload_n hx hb d_Mo_set_0 rfl (lv_at hl 0 rfl) ?_
  refine lv_iload_n hx hb d_Mo_set_1 rfl (lv_at hl 1 rfl) ?_
  refine cs (n := 1) (wr := [(mo, .inr (8, [.int qc, .int (iZ (np : Int)), .ref ow, .ref om, .ref ok_, .ref oK, .ref og, .ref on_, .ref oh, .ref ox, .int qn, .int qf, .ref op_, .int ql])), (ow, .inl (cI, 108000, .inl fw)), (om, .inl (cI, 9, .inl fm)), (oh, .inl (cI, 10000, .inl fh)), (ok_, .inl (cI, 166400, .inl fk)), (oK, .inl (cI, 64, .inl fK)), (og, .inl (cI, 32, .inl fs)), (on_, .inl (cI, 32, .inl fn))]) (w1 := (fun (u : Int) => [])) (As := [.int (iZ (to : Int))]) (rest := [.ref mo]) K hP hD hK hS hA hl.1 (c_Mo_isRegister l D (to : Int) H.size (by omega)) [] [0, 1, 2, 3, 4, 5, 6, 7] [] rfl rfl rfl (by decide) (by decide) (by decide) (big_in mw_1172 rfl) (big_in mw_10 rfl) (big_in mw_1170 rfl) (big_in mw_1171 rfl) rfl rfl (by decide +kernel) ⟨by rw [hR]; exact Nat.le_of_ble_eq_true rfl, by rw [hR]; exact Nat.le_of_ble_eq_true rfl⟩ rfl (Nat.le_of_ble_eq_true rfl) d_Mo_set_2 ⟨by rw [hR]; exact Nat.le_of_ble_eq_true rfl, by rw [hR]; exact Nat.le_of_ble_eq_true rfl⟩ rfl (fun v u H locs hp1 hP hD hS _ => ?_)
  obtain ⟨r2, rfl⟩ : ∃ z, z = u := ⟨_, rfl⟩
  obtain ⟨rfl, p2⟩ := hp1
  have hP : va_P D cls0 [(mo, .inr (8, [.int qc, .int (iZ (np : Int)), .ref ow, .ref om, .ref ok_, .ref oK, .ref og, .ref on_, .ref oh, .ref ox, .int qn, .int qf, .ref op_, .int ql])), (ow, .inl (cI, 108000, .inl fw)), (om, .inl (cI, 9, .inl fm)), (oh, .inl (cI, 10000, .inl fh)), (ok_, .inl (cI, 166400, .inl fk)), (oK, .inl (cI, 64, .inl fK)), (og, .inl (cI, 32, .inl fs)), (on_, .inl (cI, 32, .inl fn))] H := hP
  have hD : va_D A [(mo, .inr (8, [.int qc, .int (iZ (np : Int)), .ref ow, .ref om, .ref ok_, .ref oK, .ref og, .ref on_, .ref oh, .ref ox, .int qn, .int qf, .ref op_, .int ql])), (ow, .inl (cI, 108000, .inl fw)), (om, .inl (cI, 9, .inl fm)), (oh, .inl (cI, 10000, .inl fh)), (ok_, .inl (cI, 166400, .inl fk)), (oK, .inl (cI, 64, .inl fK)), (og, .inl (cI, 32, .inl fs)), (on_, .inl (cI, 32, .inl fn))] := hD
  show W p l e R s m args below meth c H locs _ _ Q (F0 m 5 ls [.int (iZ r2), .ref mo])
  have b2 : 0 ≤ r2 ∧ r2 ≤ 1 := by omega
  refine zz_if_ne (tgt := 12) hx hb d_Mo_set_5 (by decide) (by omega) (fun c5 => ?_) (fun c5 => ?_)
  · refine lv_lload hx hb d_Mo_set_12 (lv_at hl 3 rfl) ?_
    refine lv_lconst (v := lZ (0)) hx hb d_Mo_set_14 (by decide +kernel) ?_
    refine zz_lcmp_ne (tgt := 23) hx hb d_Mo_set_15 d_Mo_set_16 (by decide) (by omega) (by omega) (fun c15 => ?_) (fun c15 => ?_)
    · refine lv_iconst (v := iZ (0)) hx hb d_Mo_set_23 (by decide +kernel) ?_
      refine cv (n := 1) (wr := [(ow, .inl (cI, 108000, .inl fw)), (om, .inl (cI, 9, .inl fm)), (oh, .inl (cI, 10000, .inl fh)), (ok_, .inl (cI, 166400, .inl fk)), (oK, .inl (cI, 64, .inl fK)), (og, .inl (cI, 32, .inl fs)), (on_, .inl (cI, 32, .inl fn))]) (w1 := (fun (u : Int) => [(mo, .inr (8, [.int (iZ 0), .int (iZ (np : Int)), .ref ow, .ref om, .ref ok_, .ref oK, .ref og, .ref on_, .ref oh, .ref ox, .int qn, .int qf, .ref op_, .int ql]))])) (As := [.int (iZ 0)]) (rest := []) K hP hD hK hS hA hl.1 (c_Mo_refuses l D mo qc np ow om ok_ oK og on_ oh ox qn qf op_ ql 0 H.size (by omega)) [0] [1, 2, 3, 4, 5, 6, 7] [] rfl rfl rfl (by decide) (by decide) (by decide) 0 rfl rfl (big_in mw_1176 rfl) (big_in mw_10 rfl) (big_in mw_1173 rfl) (big_in mw_1175 rfl) (big_in sp_18 rfl) rfl rfl (by decide +kernel) ⟨by rw [hR]; exact Nat.le_of_ble_eq_true rfl, by rw [hR]; exact Nat.le_of_ble_eq_true rfl⟩ rfl (Nat.le_of_ble_eq_true rfl) d_Mo_set_24 ⟨by rw [hR]; exact Nat.le_of_ble_eq_true rfl, by rw [hR]; exact Nat.le_of_ble_eq_true rfl⟩ rfl (fun v u H locs hp2 hP hD hS _ => ?_)
      obtain ⟨rf, rfl⟩ : ∃ z, z = u := ⟨_, rfl⟩
      obtain ⟨rfl, prf⟩ := hp2
      have hP : va_P D cls0 [(ow, .inl (cI, 108000, .inl fw)), (om, .inl (cI, 9, .inl fm)), (oh, .inl (cI, 10000, .inl fh)), (ok_, .inl (cI, 166400, .inl fk)), (oK, .inl (cI, 64, .inl fK)), (og, .inl (cI, 32, .inl fs)), (on_, .inl (cI, 32, .inl fn)), (mo, .inr (8, [.int (iZ 0), .int (iZ (np : Int)), .ref ow, .ref om, .ref ok_, .ref oK, .ref og, .ref on_, .ref oh, .ref ox, .int qn, .int qf, .ref op_, .int ql]))] H := hP
      have hD : va_D A [(ow, .inl (cI, 108000, .inl fw)), (om, .inl (cI, 9, .inl fm)), (oh, .inl (cI, 10000, .inl fh)), (ok_, .inl (cI, 166400, .inl fk)), (oK, .inl (cI, 64, .inl fK)), (og, .inl (cI, 32, .inl fs)), (on_, .inl (cI, 32, .inl fn)), (mo, .inr (8, [.int (iZ 0), .int (iZ (np : Int)), .ref ow, .ref om, .ref ok_, .ref oK, .ref og, .ref on_, .ref oh, .ref ox, .int qn, .int qf, .ref op_, .int ql]))] := hD
      show W p l e R s m args below meth c H locs _ _ Q (F0 m 27 ls [.int (iZ rf)])
      refine zz_if_eq (tgt := 32) hx hb d_Mo_set_27 (by decide) (by omega) (fun c27 => ?_) (fun c27 => False.elim (by omega))
      refine lv_aload_n hx hb d_Mo_set_32 rfl (lv_at hl 0 rfl) ?_
      refine lv_iconst (v := iZ (0)) hx hb d_Mo_set_33 (by decide +kernel) ?_
      refine lv_lload_n hx hb d_Mo_set_34 rfl (lv_at hl 2 rfl) ?_
      refine cv (n := 2) (wr := [(oh, .inl (cI, 10000, .inl fh)), (ok_, .inl (cI, 166400, .inl fk)), (oK, .inl (cI, 64, .inl fK)), (og, .inl (cI, 32, .inl fs)), (on_, .inl (cI, 32, .inl fn))]) (w1 := (fun (u : (Nat → Int32) × (Nat → Int32)) => [(mo, .inr (8, [.int (iZ 0), .int (iZ (np : Int)), .ref ow, .ref om, .ref ok_, .ref oK, .ref og, .ref on_, .ref oh, .ref ox, .int qn, .int qf, .ref op_, .int ql])), (ow, .inl (cI, 108000, .inl u.1)), (om, .inl (cI, 9, .inl u.2))])) (As := [.int (iZ 0), .long (lZ zn)]) (rest := []) K hP hD hK hS hA hl.1 (c_Mo_setLong l D mo (iZ 0) np ow om ok_ oK og on_ oh ox qn qf op_ ql fw fm cI val 0 zn H.size hW (by omega) (by omega)) [7, 0, 1] [2, 3, 4, 5, 6] [0] rfl rfl rfl (by decide) (by decide) (by decide) 0 rfl rfl (big_in mw_1180 rfl) (big_in mw_10 rfl) (big_in mw_1177 rfl) (big_in mw_1179 rfl) (big_in sp_19 rfl) rfl rfl (by decide +kernel) ⟨by rw [hR]; exact Nat.le_of_ble_eq_true rfl, by rw [hR]; exact Nat.le_of_ble_eq_true rfl⟩ rfl (Nat.le_of_ble_eq_true rfl) d_Mo_set_35 ⟨by rw [hR]; exact Nat.le_of_ble_eq_true rfl, by rw [hR]; exact Nat.le_of_ble_eq_true rfl⟩ rfl (fun v u H locs hp3 hP hD hS _ => ?_)
      obtain ⟨fx1, fy1⟩ := u
      try dsimp only at hp3
      obtain ⟨rfl, w1⟩ := hp3
      have hP : va_P D cls0 [(oh, .inl (cI, 10000, .inl fh)), (ok_, .inl (cI, 166400, .inl fk)), (oK, .inl (cI, 64, .inl fK)), (og, .inl (cI, 32, .inl fs)), (on_, .inl (cI, 32, .inl fn)), (mo, .inr (8, [.int (iZ 0), .int (iZ (np : Int)), .ref ow, .ref om, .ref ok_, .ref oK, .ref og, .ref on_, .ref oh, .ref ox, .int qn, .int qf, .ref op_, .int ql])), (ow, .inl (cI, 108000, .inl fx1)), (om, .inl (cI, 9, .inl fy1))] H := hP
      have hD : va_D A [(oh, .inl (cI, 10000, .inl fh)), (ok_, .inl (cI, 166400, .inl fk)), (oK, .inl (cI, 64, .inl fK)), (og, .inl (cI, 32, .inl fs)), (on_, .inl (cI, 32, .inl fn)), (mo, .inr (8, [.int (iZ 0), .int (iZ (np : Int)), .ref ow, .ref om, .ref ok_, .ref oK, .ref og, .ref on_, .ref oh, .ref ox, .int qn, .int qf, .ref op_, .int ql])), (ow, .inl (cI, 108000, .inl fx1)), (om, .inl (cI, 9, .inl fy1))] := hD
      show W p l e R s m args below meth c H locs _ _ Q (F0 m 38 ls [])
      obtain ⟨v1, hv1⟩ : ∃ x, x = up val 0 (zn.natAbs) := ⟨_, rfl⟩
      rw [← hv1] at w1
      refine lv_aload_n hx hb d_Mo_set_38 rfl (lv_at hl 0 rfl) ?_
      refine lv_iconst (v := iZ (1)) hx hb d_Mo_set_39 (by decide +kernel) ?_
      refine lv_lload hx hb d_Mo_set_40 (lv_at hl 3 rfl) ?_
      refine cv (n := 2) (wr := [(oh, .inl (cI, 10000, .inl fh)), (ok_, .inl (cI, 166400, .inl fk)), (oK, .inl (cI, 64, .inl fK)), (og, .inl (cI, 32, .inl fs)), (on_, .inl (cI, 32, .inl fn))]) (w1 := (fun (u : (Nat → Int32) × (Nat → Int32)) => [(mo, .inr (8, [.int (iZ 0), .int (iZ (np : Int)), .ref ow, .ref om, .ref ok_, .ref oK, .ref og, .ref on_, .ref oh, .ref ox, .int qn, .int qf, .ref op_, .int ql])), (ow, .inl (cI, 108000, .inl u.1)), (om, .inl (cI, 9, .inl u.2))])) (As := [.int (iZ 1), .long (lZ zd)]) (rest := []) K hP hD hK hS hA hl.1 (c_Mo_setLong l D mo (iZ 0) np ow om ok_ oK og on_ oh ox qn qf op_ ql fx1 fy1 cI v1 1 zd H.size w1 (by omega) (by omega)) [5, 6, 7] [0, 1, 2, 3, 4] [0] rfl rfl rfl (by decide) (by decide) (by decide) 0 rfl rfl (big_in mw_1180 rfl) (big_in mw_10 rfl) (big_in mw_1177 rfl) (big_in mw_1179 rfl) (big_in sp_19 rfl) rfl rfl (by decide +kernel) ⟨by rw [hR]; exact Nat.le_of_ble_eq_true rfl, by rw [hR]; exact Nat.le_of_ble_eq_true rfl⟩ rfl (Nat.le_of_ble_eq_true rfl) d_Mo_set_42 ⟨by rw [hR]; exact Nat.le_of_ble_eq_true rfl, by rw [hR]; exact Nat.le_of_ble_eq_true rfl⟩ rfl (fun v u H locs hp4 hP hD hS _ => ?_)
      obtain ⟨fx2, fy2⟩ := u
      try dsimp only at hp4
      obtain ⟨rfl, w2⟩ := hp4
      have hP : va_P D cls0 [(oh, .inl (cI, 10000, .inl fh)), (ok_, .inl (cI, 166400, .inl fk)), (oK, .inl (cI, 64, .inl fK)), (og, .inl (cI, 32, .inl fs)), (on_, .inl (cI, 32, .inl fn)), (mo, .inr (8, [.int (iZ 0), .int (iZ (np : Int)), .ref ow, .ref om, .ref ok_, .ref oK, .ref og, .ref on_, .ref oh, .ref ox, .int qn, .int qf, .ref op_, .int ql])), (ow, .inl (cI, 108000, .inl fx2)), (om, .inl (cI, 9, .inl fy2))] H := hP
      have hD : va_D A [(oh, .inl (cI, 10000, .inl fh)), (ok_, .inl (cI, 166400, .inl fk)), (oK, .inl (cI, 64, .inl fK)), (og, .inl (cI, 32, .inl fs)), (on_, .inl (cI, 32, .inl fn)), (mo, .inr (8, [.int (iZ 0), .int (iZ (np : Int)), .ref ow, .ref om, .ref ok_, .ref oK, .ref og, .ref on_, .ref oh, .ref ox, .int qn, .int qf, .ref op_, .int ql])), (ow, .inl (cI, 108000, .inl fx2)), (om, .inl (cI, 9, .inl fy2))] := hD
      show W p l e R s m args below meth c H locs _ _ Q (F0 m 45 ls [])
      obtain ⟨v2, hv2⟩ : ∃ x, x = up v1 1 (zd.natAbs) := ⟨_, rfl⟩
      rw [← hv2] at w2
      have e0 : v2 0 = zn.natAbs := by rw [hv2, up_n (by decide), hv1, up_s]
      have e1 : v2 1 = zd.natAbs := by rw [hv2, up_s]
      have bn : lm zn.natAbs ≤ 4800 := Nat.le_trans (lm_le.mpr (show zn.natAbs < pB 2 from Nat.lt_of_le_of_lt (show zn.natAbs ≤ 9223372036854775808 by omega) (by decide))) (by decide)
      have bd : lm zd.natAbs ≤ 4800 := Nat.le_trans (lm_le.mpr (show zd.natAbs < pB 2 from Nat.lt_of_le_of_lt (show zd.natAbs ≤ 9223372036854775808 by omega) (by decide))) (by decide)
      refine lv_aload_n hx hb d_Mo_set_45 rfl (lv_at hl 0 rfl) ?_
      refine lv_iload_n hx hb d_Mo_set_46 rfl (lv_at hl 1 rfl) ?_
      refine lv_lload_n hx hb d_Mo_set_47 rfl (lv_at hl 2 rfl) ?_
      refine lv_lconst (v := lZ (0)) hx hb d_Mo_set_48 (by decide +kernel) ?_
      refine zz_lcmp_ge (tgt := 57) hx hb d_Mo_set_49 d_Mo_set_50 (by decide) (by omega) (by omega) (fun c49 => ?_) (fun c49 => ?_)
      · refine lv_iconst (v := iZ (0)) hx hb d_Mo_set_57 (by decide +kernel) ?_
        refine lv_lload hx hb d_Mo_set_58 (lv_at hl 3 rfl) ?_
        refine lv_lconst (v := lZ (0)) hx hb d_Mo_set_60 (by decide +kernel) ?_
        refine zz_lcmp_ge (tgt := 69) hx hb d_Mo_set_61 d_Mo_set_62 (by decide) (by omega) (by omega) (fun c61 => ?_) (fun c61 => ?_)
        · refine lv_iconst (v := iZ (0)) hx hb d_Mo_set_69 (by decide +kernel) ?_
          refine zz_icmp_ne (tgt := 77) hx hb d_Mo_set_70 (by decide) (by omega) (by omega) (fun c70 => ?_) (fun c70 => ?_)
          · refine lv_iconst (v := iZ (-1)) hx hb d_Mo_set_77 (by decide +kernel) ?_
            refine lv_iconst (v := iZ (3)) hx hb d_Mo_set_78 (by decide +kernel) ?_
            refine cv (n := 3) (wr := []) (w1 := (fun (u : (Nat → Int32) × (Nat → Int32) × (Nat → Int32) × (Nat → Int32) × (Nat → Int32) × (Nat → Int32) × (Nat → Int32) × (Nat → Nat)) => [(mo, .inr (8, [.int (iZ 0), .int (iZ (np : Int)), .ref ow, .ref om, .ref ok_, .ref oK, .ref og, .ref on_, .ref oh, .ref ox, .int qn, .int qf, .ref op_, .int ql])), (ow, .inl (cI, 108000, .inl u.1)), (om, .inl (cI, 9, .inl u.2.1)), (oh, .inl (cI, 10000, .inl u.2.2.1)), (ok_, .inl (cI, 166400, .inl u.2.2.2.1)), (oK, .inl (cI, 64, .inl u.2.2.2.2.1)), (og, .inl (cI, 32, .inl u.2.2.2.2.2.1)), (on_, .inl (cI, 32, .inl u.2.2.2.2.2.2.1))])) (As := [.int (iZ (to : Int)), .int (iZ (-1)), .int (iZ 3)]) (rest := []) K hP hD hK hS hA hl.1 (c_Mo_put l D mo (iZ 0) np ow om ok_ oK og on_ oh ox qn qf op_ ql fx2 fy2 cI fh fk fK fs fn v2 tv bv sg to (-1) 3 H.size w2 hMR (by omega) hnd hnp (by omega) (by decide) (by rw [e1]; omega) (by rw [e0]; exact bn) (by rw [e1]; exact bd) (by rw [e0, e1]; exact hfit)) [5, 6, 7, 0, 1, 2, 3, 4] [] [0] rfl rfl rfl (by decide) (by decide) (by decide) 0 rfl rfl (big_in mw_1185 rfl) (big_in mw_10 rfl) (big_in mw_1182 rfl) (big_in mw_1184 rfl) (big_in sp_20 rfl) rfl rfl (by decide +kernel) ⟨by rw [hR]; exact Nat.le_of_ble_eq_true rfl, by rw [hR]; exact Nat.le_of_ble_eq_true rfl⟩ rfl (Nat.le_of_ble_eq_true rfl) d_Mo_set_79 ⟨by rw [hR]; exact Nat.le_of_ble_eq_true rfl, by rw [hR]; exact Nat.le_of_ble_eq_true rfl⟩ rfl (fun v u H locs hp5 hP hD hS _ => ?_)
            obtain ⟨fa, fb, fc, fd, fe, ff, fg, v9⟩ := u
            try dsimp only at hp5
            obtain ⟨rfl, w9, q9⟩ := hp5
            have hP : va_P D cls0 [(mo, .inr (8, [.int (iZ 0), .int (iZ (np : Int)), .ref ow, .ref om, .ref ok_, .ref oK, .ref og, .ref on_, .ref oh, .ref ox, .int qn, .int qf, .ref op_, .int ql])), (ow, .inl (cI, 108000, .inl fa)), (om, .inl (cI, 9, .inl fb)), (oh, .inl (cI, 10000, .inl fc)), (ok_, .inl (cI, 166400, .inl fd)), (oK, .inl (cI, 64, .inl fe)), (og, .inl (cI, 32, .inl ff)), (on_, .inl (cI, 32, .inl fg))] H := hP
            have hD : va_D A [(mo, .inr (8, [.int (iZ 0), .int (iZ (np : Int)), .ref ow, .ref om, .ref ok_, .ref oK, .ref og, .ref on_, .ref oh, .ref ox, .int qn, .int qf, .ref op_, .int ql])), (ow, .inl (cI, 108000, .inl fa)), (om, .inl (cI, 9, .inl fb)), (oh, .inl (cI, 10000, .inl fc)), (ok_, .inl (cI, 166400, .inl fd)), (oK, .inl (cI, 64, .inl fe)), (og, .inl (cI, 32, .inl ff)), (on_, .inl (cI, 32, .inl fg))] := hD
            show W p l e R s m args below meth c H locs _ _ Q (F0 m 82 ls [.int (iZ ((lm (rdN (v2 0) (v2 1)) : Int) + (lm (rdD (v2 0) (v2 1)) : Int)))])
            rw [e0, e1]
            rw [e0, e1] at q9
            have hP9 : va_P D cls0 [(mo, .inr (8, [.int (iZ 0), .int (iZ (np : Int)), .ref ow, .ref om, .ref ok_, .ref oK, .ref og, .ref on_, .ref oh, .ref ox, .int qn, .int qf, .ref op_, .int ql])), (ow, .inl (cI, 108000, .inl fa)), (om, .inl (cI, 9, .inl fb)), (oh, .inl (cI, 10000, .inl fc)), (ok_, .inl (cI, 166400, .inl fd)), (oK, .inl (cI, 64, .inl fe)), (og, .inl (cI, 32, .inl ff)), (on_, .inl (cI, 32, .inl fg))] H := hP.sub [0, 1, 2, 3, 4, 5, 6, 7] rfl
            have hD9 : va_D A [(mo, .inr (8, [.int (iZ 0), .int (iZ (np : Int)), .ref ow, .ref om, .ref ok_, .ref oK, .ref og, .ref on_, .ref oh, .ref ox, .int qn, .int qf, .ref op_, .int ql])), (ow, .inl (cI, 108000, .inl fa)), (om, .inl (cI, 9, .inl fb)), (oh, .inl (cI, 10000, .inl fc)), (ok_, .inl (cI, 166400, .inl fd)), (oK, .inl (cI, 64, .inl fe)), (og, .inl (cI, 32, .inl ff)), (on_, .inl (cI, 32, .inl fg))] := hD.sub [0, 1, 2, 3, 4, 5, 6, 7] (by decide) rfl
            rw [hQ, ← hAe]
            refine r_i (v := (iZ ((lm (rdN (zn.natAbs) (zd.natAbs)) : Int) + (lm (rdD (zn.natAbs) (zd.natAbs)) : Int)))) K (fa, fb, fc, fd, fe, ff, fg, v9) hS d_Mo_set_82 ?_ (fun t ht hv => ?_)
            · try dsimp only
              refine ⟨rfl, w9, ?_⟩
              rw [show sgS zn zd = -1 by unfold sgS; first | exact if_pos (by omega) | exact if_neg (by omega)]; exact q9
            · exact ⟨by rw [ht]; exact hP9, va_K.moved hv hK, by rw [← hAe]; exact hD9⟩
          · refine lv_iconst (v := iZ (1)) hx hb d_Mo_set_73 (by decide +kernel) ?_
            refine lv_goto (tgt := 78) hx hb d_Mo_set_74 (by decide) ?_
            refine lv_iconst (v := iZ (3)) hx hb d_Mo_set_78 (by decide +kernel) ?_
            refine cv (n := 3) (wr := []) (w1 := (fun (u : (Nat → Int32) × (Nat → Int32) × (Nat → Int32) × (Nat → Int32) × (Nat → Int32) × (Nat → Int32) × (Nat → Int32) × (Nat → Nat)) => [(mo, .inr (8, [.int (iZ 0), .int (iZ (np : Int)), .ref ow, .ref om, .ref ok_, .ref oK, .ref og, .ref on_, .ref oh, .ref ox, .int qn, .int qf, .ref op_, .int ql])), (ow, .inl (cI, 108000, .inl u.1)), (om, .inl (cI, 9, .inl u.2.1)), (oh, .inl (cI, 10000, .inl u.2.2.1)), (ok_, .inl (cI, 166400, .inl u.2.2.2.1)), (oK, .inl (cI, 64, .inl u.2.2.2.2.1)), (og, .inl (cI, 32, .inl u.2.2.2.2.2.1)), (on_, .inl (cI, 32, .inl u.2.2.2.2.2.2.1))])) (As := [.int (iZ (to : Int)), .int (iZ 1), .int (iZ 3)]) (rest := []) K hP hD hK hS hA hl.1 (c_Mo_put l D mo (iZ 0) np ow om ok_ oK og on_ oh ox qn qf op_ ql fx2 fy2 cI fh fk fK fs fn v2 tv bv sg to 1 3 H.size w2 hMR (by omega) hnd hnp (by omega) (by decide) (by rw [e1]; omega) (by rw [e0]; exact bn) (by rw [e1]; exact bd) (by rw [e0, e1]; exact hfit)) [5, 6, 7, 0, 1, 2, 3, 4] [] [0] rfl rfl rfl (by decide) (by decide) (by decide) 0 rfl rfl (big_in mw_1185 rfl) (big_in mw_10 rfl) (big_in mw_1182 rfl) (big_in mw_1184 rfl) (big_in sp_20 rfl) rfl rfl (by decide +kernel) ⟨by rw [hR]; exact Nat.le_of_ble_eq_true rfl, by rw [hR]; exact Nat.le_of_ble_eq_true rfl⟩ rfl (Nat.le_of_ble_eq_true rfl) d_Mo_set_79 ⟨by rw [hR]; exact Nat.le_of_ble_eq_true rfl, by rw [hR]; exact Nat.le_of_ble_eq_true rfl⟩ rfl (fun v u H locs hp6 hP hD hS _ => ?_)
            obtain ⟨fa, fb, fc, fd, fe, ff, fg, v9⟩ := u
            try dsimp only at hp6
            obtain ⟨rfl, w9, q9⟩ := hp6
            have hP : va_P D cls0 [(mo, .inr (8, [.int (iZ 0), .int (iZ (np : Int)), .ref ow, .ref om, .ref ok_, .ref oK, .ref og, .ref on_, .ref oh, .ref ox, .int qn, .int qf, .ref op_, .int ql])), (ow, .inl (cI, 108000, .inl fa)), (om, .inl (cI, 9, .inl fb)), (oh, .inl (cI, 10000, .inl fc)), (ok_, .inl (cI, 166400, .inl fd)), (oK, .inl (cI, 64, .inl fe)), (og, .inl (cI, 32, .inl ff)), (on_, .inl (cI, 32, .inl fg))] H := hP
            have hD : va_D A [(mo, .inr (8, [.int (iZ 0), .int (iZ (np : Int)), .ref ow, .ref om, .ref ok_, .ref oK, .ref og, .ref on_, .ref oh, .ref ox, .int qn, .int qf, .ref op_, .int ql])), (ow, .inl (cI, 108000, .inl fa)), (om, .inl (cI, 9, .inl fb)), (oh, .inl (cI, 10000, .inl fc)), (ok_, .inl (cI, 166400, .inl fd)), (oK, .inl (cI, 64, .inl fe)), (og, .inl (cI, 32, .inl ff)), (on_, .inl (cI, 32, .inl fg))] := hD
            show W p l e R s m args below meth c H locs _ _ Q (F0 m 82 ls [.int (iZ ((lm (rdN (v2 0) (v2 1)) : Int) + (lm (rdD (v2 0) (v2 1)) : Int)))])
            rw [e0, e1]
            rw [e0, e1] at q9
            have hP9 : va_P D cls0 [(mo, .inr (8, [.int (iZ 0), .int (iZ (np : Int)), .ref ow, .ref om, .ref ok_, .ref oK, .ref og, .ref on_, .ref oh, .ref ox, .int qn, .int qf, .ref op_, .int ql])), (ow, .inl (cI, 108000, .inl fa)), (om, .inl (cI, 9, .inl fb)), (oh, .inl (cI, 10000, .inl fc)), (ok_, .inl (cI, 166400, .inl fd)), (oK, .inl (cI, 64, .inl fe)), (og, .inl (cI, 32, .inl ff)), (on_, .inl (cI, 32, .inl fg))] H := hP.sub [0, 1, 2, 3, 4, 5, 6, 7] rfl
            have hD9 : va_D A [(mo, .inr (8, [.int (iZ 0), .int (iZ (np : Int)), .ref ow, .ref om, .ref ok_, .ref oK, .ref og, .ref on_, .ref oh, .ref ox, .int qn, .int qf, .ref op_, .int ql])), (ow, .inl (cI, 108000, .inl fa)), (om, .inl (cI, 9, .inl fb)), (oh, .inl (cI, 10000, .inl fc)), (ok_, .inl (cI, 166400, .inl fd)), (oK, .inl (cI, 64, .inl fe)), (og, .inl (cI, 32, .inl ff)), (on_, .inl (cI, 32, .inl fg))] := hD.sub [0, 1, 2, 3, 4, 5, 6, 7] (by decide) rfl
            rw [hQ, ← hAe]
            refine r_i (v := (iZ ((lm (rdN (zn.natAbs) (zd.natAbs)) : Int) + (lm (rdD (zn.natAbs) (zd.natAbs)) : Int)))) K (fa, fb, fc, fd, fe, ff, fg, v9) hS d_Mo_set_82 ?_ (fun t ht hv => ?_)
            · try dsimp only
              refine ⟨rfl, w9, ?_⟩
              rw [show sgS zn zd = 1 by unfold sgS; first | exact if_pos (by omega) | exact if_neg (by omega)]; exact q9
            · exact ⟨by rw [ht]; exact hP9, va_K.moved hv hK, by rw [← hAe]; exact hD9⟩
        · refine lv_iconst (v := iZ (1)) hx hb d_Mo_set_65 (by decide +kernel) ?_
          refine lv_goto (tgt := 70) hx hb d_Mo_set_66 (by decide) ?_
          refine zz_icmp_ne (tgt := 77) hx hb d_Mo_set_70 (by decide) (by omega) (by omega) (fun c70 => ?_) (fun c70 => ?_)
          · refine lv_iconst (v := iZ (-1)) hx hb d_Mo_set_77 (by decide +kernel) ?_
            refine lv_iconst (v := iZ (3)) hx hb d_Mo_set_78 (by decide +kernel) ?_
            refine cv (n := 3) (wr := []) (w1 := (fun (u : (Nat → Int32) × (Nat → Int32) × (Nat → Int32) × (Nat → Int32) × (Nat → Int32) × (Nat → Int32) × (Nat → Int32) × (Nat → Nat)) => [(mo, .inr (8, [.int (iZ 0), .int (iZ (np : Int)), .ref ow, .ref om, .ref ok_, .ref oK, .ref og, .ref on_, .ref oh, .ref ox, .int qn, .int qf, .ref op_, .int ql])), (ow, .inl (cI, 108000, .inl u.1)), (om, .inl (cI, 9, .inl u.2.1)), (oh, .inl (cI, 10000, .inl u.2.2.1)), (ok_, .inl (cI, 166400, .inl u.2.2.2.1)), (oK, .inl (cI, 64, .inl u.2.2.2.2.1)), (og, .inl (cI, 32, .inl u.2.2.2.2.2.1)), (on_, .inl (cI, 32, .inl u.2.2.2.2.2.2.1))])) (As := [.int (iZ (to : Int)), .int (iZ (-1)), .int (iZ 3)]) (rest := []) K hP hD hK hS hA hl.1 (c_Mo_put l D mo (iZ 0) np ow om ok_ oK og on_ oh ox qn qf op_ ql fx2 fy2 cI fh fk fK fs fn v2 tv bv sg to (-1) 3 H.size w2 hMR (by omega) hnd hnp (by omega) (by decide) (by rw [e1]; omega) (by rw [e0]; exact bn) (by rw [e1]; exact bd) (by rw [e0, e1]; exact hfit)) [5, 6, 7, 0, 1, 2, 3, 4] [] [0] rfl rfl rfl (by decide) (by decide) (by decide) 0 rfl rfl (big_in mw_1185 rfl) (big_in mw_10 rfl) (big_in mw_1182 rfl) (big_in mw_1184 rfl) (big_in sp_20 rfl) rfl rfl (by decide +kernel) ⟨by rw [hR]; exact Nat.le_of_ble_eq_true rfl, by rw [hR]; exact Nat.le_of_ble_eq_true rfl⟩ rfl (Nat.le_of_ble_eq_true rfl) d_Mo_set_79 ⟨by rw [hR]; exact Nat.le_of_ble_eq_true rfl, by rw [hR]; exact Nat.le_of_ble_eq_true rfl⟩ rfl (fun v u H locs hp7 hP hD hS _ => ?_)
            obtain ⟨fa, fb, fc, fd, fe, ff, fg, v9⟩ := u
            try dsimp only at hp7
            obtain ⟨rfl, w9, q9⟩ := hp7
            have hP : va_P D cls0 [(mo, .inr (8, [.int (iZ 0), .int (iZ (np : Int)), .ref ow, .ref om, .ref ok_, .ref oK, .ref og, .ref on_, .ref oh, .ref ox, .int qn, .int qf, .ref op_, .int ql])), (ow, .inl (cI, 108000, .inl fa)), (om, .inl (cI, 9, .inl fb)), (oh, .inl (cI, 10000, .inl fc)), (ok_, .inl (cI, 166400, .inl fd)), (oK, .inl (cI, 64, .inl fe)), (og, .inl (cI, 32, .inl ff)), (on_, .inl (cI, 32, .inl fg))] H := hP
            have hD : va_D A [(mo, .inr (8, [.int (iZ 0), .int (iZ (np : Int)), .ref ow, .ref om, .ref ok_, .ref oK, .ref og, .ref on_, .ref oh, .ref ox, .int qn, .int qf, .ref op_, .int ql])), (ow, .inl (cI, 108000, .inl fa)), (om, .inl (cI, 9, .inl fb)), (oh, .inl (cI, 10000, .inl fc)), (ok_, .inl (cI, 166400, .inl fd)), (oK, .inl (cI, 64, .inl fe)), (og, .inl (cI, 32, .inl ff)), (on_, .inl (cI, 32, .inl fg))] := hD
            show W p l e R s m args below meth c H locs _ _ Q (F0 m 82 ls [.int (iZ ((lm (rdN (v2 0) (v2 1)) : Int) + (lm (rdD (v2 0) (v2 1)) : Int)))])
            rw [e0, e1]
            rw [e0, e1] at q9
            have hP9 : va_P D cls0 [(mo, .inr (8, [.int (iZ 0), .int (iZ (np : Int)), .ref ow, .ref om, .ref ok_, .ref oK, .ref og, .ref on_, .ref oh, .ref ox, .int qn, .int qf, .ref op_, .int ql])), (ow, .inl (cI, 108000, .inl fa)), (om, .inl (cI, 9, .inl fb)), (oh, .inl (cI, 10000, .inl fc)), (ok_, .inl (cI, 166400, .inl fd)), (oK, .inl (cI, 64, .inl fe)), (og, .inl (cI, 32, .inl ff)), (on_, .inl (cI, 32, .inl fg))] H := hP.sub [0, 1, 2, 3, 4, 5, 6, 7] rfl
            have hD9 : va_D A [(mo, .inr (8, [.int (iZ 0), .int (iZ (np : Int)), .ref ow, .ref om, .ref ok_, .ref oK, .ref og, .ref on_, .ref oh, .ref ox, .int qn, .int qf, .ref op_, .int ql])), (ow, .inl (cI, 108000, .inl fa)), (om, .inl (cI, 9, .inl fb)), (oh, .inl (cI, 10000, .inl fc)), (ok_, .inl (cI, 166400, .inl fd)), (oK, .inl (cI, 64, .inl fe)), (og, .inl (cI, 32, .inl ff)), (on_, .inl (cI, 32, .inl fg))] := hD.sub [0, 1, 2, 3, 4, 5, 6, 7] (by decide) rfl
            rw [hQ, ← hAe]
            refine r_i (v := (iZ ((lm (rdN (zn.natAbs) (zd.natAbs)) : Int) + (lm (rdD (zn.natAbs) (zd.natAbs)) : Int)))) K (fa, fb, fc, fd, fe, ff, fg, v9) hS d_Mo_set_82 ?_ (fun t ht hv => ?_)
            · try dsimp only
              refine ⟨rfl, w9, ?_⟩
              rw [show sgS zn zd = -1 by unfold sgS; first | exact if_pos (by omega) | exact if_neg (by omega)]; exact q9
            · exact ⟨by rw [ht]; exact hP9, va_K.moved hv hK, by rw [← hAe]; exact hD9⟩
          · refine lv_iconst (v := iZ (1)) hx hb d_Mo_set_73 (by decide +kernel) ?_
            refine lv_goto (tgt := 78) hx hb d_Mo_set_74 (by decide) ?_
            refine lv_iconst (v := iZ (3)) hx hb d_Mo_set_78 (by decide +kernel) ?_
            refine cv (n := 3) (wr := []) (w1 := (fun (u : (Nat → Int32) × (Nat → Int32) × (Nat → Int32) × (Nat → Int32) × (Nat → Int32) × (Nat → Int32) × (Nat → Int32) × (Nat → Nat)) => [(mo, .inr (8, [.int (iZ 0), .int (iZ (np : Int)), .ref ow, .ref om, .ref ok_, .ref oK, .ref og, .ref on_, .ref oh, .ref ox, .int qn, .int qf, .ref op_, .int ql])), (ow, .inl (cI, 108000, .inl u.1)), (om, .inl (cI, 9, .inl u.2.1)), (oh, .inl (cI, 10000, .inl u.2.2.1)), (ok_, .inl (cI, 166400, .inl u.2.2.2.1)), (oK, .inl (cI, 64, .inl u.2.2.2.2.1)), (og, .inl (cI, 32, .inl u.2.2.2.2.2.1)), (on_, .inl (cI, 32, .inl u.2.2.2.2.2.2.1))])) (As := [.int (iZ (to : Int)), .int (iZ 1), .int (iZ 3)]) (rest := []) K hP hD hK hS hA hl.1 (c_Mo_put l D mo (iZ 0) np ow om ok_ oK og on_ oh ox qn qf op_ ql fx2 fy2 cI fh fk fK fs fn v2 tv bv sg to 1 3 H.size w2 hMR (by omega) hnd hnp (by omega) (by decide) (by rw [e1]; omega) (by rw [e0]; exact bn) (by rw [e1]; exact bd) (by rw [e0, e1]; exact hfit)) [5, 6, 7, 0, 1, 2, 3, 4] [] [0] rfl rfl rfl (by decide) (by decide) (by decide) 0 rfl rfl (big_in mw_1185 rfl) (big_in mw_10 rfl) (big_in mw_1182 rfl) (big_in mw_1184 rfl) (big_in sp_20 rfl) rfl rfl (by decide +kernel) ⟨by rw [hR]; exact Nat.le_of_ble_eq_true rfl, by rw [hR]; exact Nat.le_of_ble_eq_true rfl⟩ rfl (Nat.le_of_ble_eq_true rfl) d_Mo_set_79 ⟨by rw [hR]; exact Nat.le_of_ble_eq_true rfl, by rw [hR]; exact Nat.le_of_ble_eq_true rfl⟩ rfl (fun v u H locs hp8 hP hD hS _ => ?_)
            obtain ⟨fa, fb, fc, fd, fe, ff, fg, v9⟩ := u
            try dsimp only at hp8
            obtain ⟨rfl, w9, q9⟩ := hp8
            have hP : va_P D cls0 [(mo, .inr (8, [.int (iZ 0), .int (iZ (np : Int)), .ref ow, .ref om, .ref ok_, .ref oK, .ref og, .ref on_, .ref oh, .ref ox, .int qn, .int qf, .ref op_, .int ql])), (ow, .inl (cI, 108000, .inl fa)), (om, .inl (cI, 9, .inl fb)), (oh, .inl (cI, 10000, .inl fc)), (ok_, .inl (cI, 166400, .inl fd)), (oK, .inl (cI, 64, .inl fe)), (og, .inl (cI, 32, .inl ff)), (on_, .inl (cI, 32, .inl fg))] H := hP
            have hD : va_D A [(mo, .inr (8, [.int (iZ 0), .int (iZ (np : Int)), .ref ow, .ref om, .ref ok_, .ref oK, .ref og, .ref on_, .ref oh, .ref ox, .int qn, .int qf, .ref op_, .int ql])), (ow, .inl (cI, 108000, .inl fa)), (om, .inl (cI, 9, .inl fb)), (oh, .inl (cI, 10000, .inl fc)), (ok_, .inl (cI, 166400, .inl fd)), (oK, .inl (cI, 64, .inl fe)), (og, .inl (cI, 32, .inl ff)), (on_, .inl (cI, 32, .inl fg))] := hD
            show W p l e R s m args below meth c H locs _ _ Q (F0 m 82 ls [.int (iZ ((lm (rdN (v2 0) (v2 1)) : Int) + (lm (rdD (v2 0) (v2 1)) : Int)))])
            rw [e0, e1]
            rw [e0, e1] at q9
            have hP9 : va_P D cls0 [(mo, .inr (8, [.int (iZ 0), .int (iZ (np : Int)), .ref ow, .ref om, .ref ok_, .ref oK, .ref og, .ref on_, .ref oh, .ref ox, .int qn, .int qf, .ref op_, .int ql])), (ow, .inl (cI, 108000, .inl fa)), (om, .inl (cI, 9, .inl fb)), (oh, .inl (cI, 10000, .inl fc)), (ok_, .inl (cI, 166400, .inl fd)), (oK, .inl (cI, 64, .inl fe)), (og, .inl (cI, 32, .inl ff)), (on_, .inl (cI, 32, .inl fg))] H := hP.sub [0, 1, 2, 3, 4, 5, 6, 7] rfl
            have hD9 : va_D A [(mo, .inr (8, [.int (iZ 0), .int (iZ (np : Int)), .ref ow, .ref om, .ref ok_, .ref oK, .ref og, .ref on_, .ref oh, .ref ox, .int qn, .int qf, .ref op_, .int ql])), (ow, .inl (cI, 108000, .inl fa)), (om, .inl (cI, 9, .inl fb)), (oh, .inl (cI, 10000, .inl fc)), (ok_, .inl (cI, 166400, .inl fd)), (oK, .inl (cI, 64, .inl fe)), (og, .inl (cI, 32, .inl ff)), (on_, .inl (cI, 32, .inl fg))] := hD.sub [0, 1, 2, 3, 4, 5, 6, 7] (by decide) rfl
            rw [hQ, ← hAe]
            refine r_i (v := (iZ ((lm (rdN (zn.natAbs) (zd.natAbs)) : Int) + (lm (rdD (zn.natAbs) (zd.natAbs)) : Int)))) K (fa, fb, fc, fd, fe, ff, fg, v9) hS d_Mo_set_82 ?_ (fun t ht hv => ?_)
            · try dsimp only
              refine ⟨rfl, w9, ?_⟩
              rw [show sgS zn zd = 1 by unfold sgS; first | exact if_pos (by omega) | exact if_neg (by omega)]; exact q9
            · exact ⟨by rw [ht]; exact hP9, va_K.moved hv hK, by rw [← hAe]; exact hD9⟩
      · refine lv_iconst (v := iZ (1)) hx hb d_Mo_set_53 (by decide +kernel) ?_
        refine lv_goto (tgt := 58) hx hb d_Mo_set_54 (by decide) ?_
        refine lv_lload hx hb d_Mo_set_58 (lv_at hl 3 rfl) ?_
        refine lv_lconst (v := lZ (0)) hx hb d_Mo_set_60 (by decide +kernel) ?_
        refine zz_lcmp_ge (tgt := 69) hx hb d_Mo_set_61 d_Mo_set_62 (by decide) (by omega) (by omega) (fun c61 => ?_) (fun c61 => ?_)
        · refine lv_iconst (v := iZ (0)) hx hb d_Mo_set_69 (by decide +kernel) ?_
          refine zz_icmp_ne (tgt := 77) hx hb d_Mo_set_70 (by decide) (by omega) (by omega) (fun c70 => ?_) (fun c70 => ?_)
          · refine lv_iconst (v := iZ (-1)) hx hb d_Mo_set_77 (by decide +kernel) ?_
            refine lv_iconst (v := iZ (3)) hx hb d_Mo_set_78 (by decide +kernel) ?_
            refine cv (n := 3) (wr := []) (w1 := (fun (u : (Nat → Int32) × (Nat → Int32) × (Nat → Int32) × (Nat → Int32) × (Nat → Int32) × (Nat → Int32) × (Nat → Int32) × (Nat → Nat)) => [(mo, .inr (8, [.int (iZ 0), .int (iZ (np : Int)), .ref ow, .ref om, .ref ok_, .ref oK, .ref og, .ref on_, .ref oh, .ref ox, .int qn, .int qf, .ref op_, .int ql])), (ow, .inl (cI, 108000, .inl u.1)), (om, .inl (cI, 9, .inl u.2.1)), (oh, .inl (cI, 10000, .inl u.2.2.1)), (ok_, .inl (cI, 166400, .inl u.2.2.2.1)), (oK, .inl (cI, 64, .inl u.2.2.2.2.1)), (og, .inl (cI, 32, .inl u.2.2.2.2.2.1)), (on_, .inl (cI, 32, .inl u.2.2.2.2.2.2.1))])) (As := [.int (iZ (to : Int)), .int (iZ (-1)), .int (iZ 3)]) (rest := []) K hP hD hK hS hA hl.1 (c_Mo_put l D mo (iZ 0) np ow om ok_ oK og on_ oh ox qn qf op_ ql fx2 fy2 cI fh fk fK fs fn v2 tv bv sg to (-1) 3 H.size w2 hMR (by omega) hnd hnp (by omega) (by decide) (by rw [e1]; omega) (by rw [e0]; exact bn) (by rw [e1]; exact bd) (by rw [e0, e1]; exact hfit)) [5, 6, 7, 0, 1, 2, 3, 4] [] [0] rfl rfl rfl (by decide) (by decide) (by decide) 0 rfl rfl (big_in mw_1185 rfl) (big_in mw_10 rfl) (big_in mw_1182 rfl) (big_in mw_1184 rfl) (big_in sp_20 rfl) rfl rfl (by decide +kernel) ⟨by rw [hR]; exact Nat.le_of_ble_eq_true rfl, by rw [hR]; exact Nat.le_of_ble_eq_true rfl⟩ rfl (Nat.le_of_ble_eq_true rfl) d_Mo_set_79 ⟨by rw [hR]; exact Nat.le_of_ble_eq_true rfl, by rw [hR]; exact Nat.le_of_ble_eq_true rfl⟩ rfl (fun v u H locs hp9 hP hD hS _ => ?_)
            obtain ⟨fa, fb, fc, fd, fe, ff, fg, v9⟩ := u
            try dsimp only at hp9
            obtain ⟨rfl, w9, q9⟩ := hp9
            have hP : va_P D cls0 [(mo, .inr (8, [.int (iZ 0), .int (iZ (np : Int)), .ref ow, .ref om, .ref ok_, .ref oK, .ref og, .ref on_, .ref oh, .ref ox, .int qn, .int qf, .ref op_, .int ql])), (ow, .inl (cI, 108000, .inl fa)), (om, .inl (cI, 9, .inl fb)), (oh, .inl (cI, 10000, .inl fc)), (ok_, .inl (cI, 166400, .inl fd)), (oK, .inl (cI, 64, .inl fe)), (og, .inl (cI, 32, .inl ff)), (on_, .inl (cI, 32, .inl fg))] H := hP
            have hD : va_D A [(mo, .inr (8, [.int (iZ 0), .int (iZ (np : Int)), .ref ow, .ref om, .ref ok_, .ref oK, .ref og, .ref on_, .ref oh, .ref ox, .int qn, .int qf, .ref op_, .int ql])), (ow, .inl (cI, 108000, .inl fa)), (om, .inl (cI, 9, .inl fb)), (oh, .inl (cI, 10000, .inl fc)), (ok_, .inl (cI, 166400, .inl fd)), (oK, .inl (cI, 64, .inl fe)), (og, .inl (cI, 32, .inl ff)), (on_, .inl (cI, 32, .inl fg))] := hD
            show W p l e R s m args below meth c H locs _ _ Q (F0 m 82 ls [.int (iZ ((lm (rdN (v2 0) (v2 1)) : Int) + (lm (rdD (v2 0) (v2 1)) : Int)))])
            rw [e0, e1]
            rw [e0, e1] at q9
            have hP9 : va_P D cls0 [(mo, .inr (8, [.int (iZ 0), .int (iZ (np : Int)), .ref ow, .ref om, .ref ok_, .ref oK, .ref og, .ref on_, .ref oh, .ref ox, .int qn, .int qf, .ref op_, .int ql])), (ow, .inl (cI, 108000, .inl fa)), (om, .inl (cI, 9, .inl fb)), (oh, .inl (cI, 10000, .inl fc)), (ok_, .inl (cI, 166400, .inl fd)), (oK, .inl (cI, 64, .inl fe)), (og, .inl (cI, 32, .inl ff)), (on_, .inl (cI, 32, .inl fg))] H := hP.sub [0, 1, 2, 3, 4, 5, 6, 7] rfl
            have hD9 : va_D A [(mo, .inr (8, [.int (iZ 0), .int (iZ (np : Int)), .ref ow, .ref om, .ref ok_, .ref oK, .ref og, .ref on_, .ref oh, .ref ox, .int qn, .int qf, .ref op_, .int ql])), (ow, .inl (cI, 108000, .inl fa)), (om, .inl (cI, 9, .inl fb)), (oh, .inl (cI, 10000, .inl fc)), (ok_, .inl (cI, 166400, .inl fd)), (oK, .inl (cI, 64, .inl fe)), (og, .inl (cI, 32, .inl ff)), (on_, .inl (cI, 32, .inl fg))] := hD.sub [0, 1, 2, 3, 4, 5, 6, 7] (by decide) rfl
            rw [hQ, ← hAe]
            refine r_i (v := (iZ ((lm (rdN (zn.natAbs) (zd.natAbs)) : Int) + (lm (rdD (zn.natAbs) (zd.natAbs)) : Int)))) K (fa, fb, fc, fd, fe, ff, fg, v9) hS d_Mo_set_82 ?_ (fun t ht hv => ?_)
            · try dsimp only
              refine ⟨rfl, w9, ?_⟩
              rw [show sgS zn zd = -1 by unfold sgS; first | exact if_pos (by omega) | exact if_neg (by omega)]; exact q9
            · exact ⟨by rw [ht]; exact hP9, va_K.moved hv hK, by rw [← hAe]; exact hD9⟩
          · refine lv_iconst (v := iZ (1)) hx hb d_Mo_set_73 (by decide +kernel) ?_
            refine lv_goto (tgt := 78) hx hb d_Mo_set_74 (by decide) ?_
            refine lv_iconst (v := iZ (3)) hx hb d_Mo_set_78 (by decide +kernel) ?_
            refine cv (n := 3) (wr := []) (w1 := (fun (u : (Nat → Int32) × (Nat → Int32) × (Nat → Int32) × (Nat → Int32) × (Nat → Int32) × (Nat → Int32) × (Nat → Int32) × (Nat → Nat)) => [(mo, .inr (8, [.int (iZ 0), .int (iZ (np : Int)), .ref ow, .ref om, .ref ok_, .ref oK, .ref og, .ref on_, .ref oh, .ref ox, .int qn, .int qf, .ref op_, .int ql])), (ow, .inl (cI, 108000, .inl u.1)), (om, .inl (cI, 9, .inl u.2.1)), (oh, .inl (cI, 10000, .inl u.2.2.1)), (ok_, .inl (cI, 166400, .inl u.2.2.2.1)), (oK, .inl (cI, 64, .inl u.2.2.2.2.1)), (og, .inl (cI, 32, .inl u.2.2.2.2.2.1)), (on_, .inl (cI, 32, .inl u.2.2.2.2.2.2.1))])) (As := [.int (iZ (to : Int)), .int (iZ 1), .int (iZ 3)]) (rest := []) K hP hD hK hS hA hl.1 (c_Mo_put l D mo (iZ 0) np ow om ok_ oK og on_ oh ox qn qf op_ ql fx2 fy2 cI fh fk fK fs fn v2 tv bv sg to 1 3 H.size w2 hMR (by omega) hnd hnp (by omega) (by decide) (by rw [e1]; omega) (by rw [e0]; exact bn) (by rw [e1]; exact bd) (by rw [e0, e1]; exact hfit)) [5, 6, 7, 0, 1, 2, 3, 4] [] [0] rfl rfl rfl (by decide) (by decide) (by decide) 0 rfl rfl (big_in mw_1185 rfl) (big_in mw_10 rfl) (big_in mw_1182 rfl) (big_in mw_1184 rfl) (big_in sp_20 rfl) rfl rfl (by decide +kernel) ⟨by rw [hR]; exact Nat.le_of_ble_eq_true rfl, by rw [hR]; exact Nat.le_of_ble_eq_true rfl⟩ rfl (Nat.le_of_ble_eq_true rfl) d_Mo_set_79 ⟨by rw [hR]; exact Nat.le_of_ble_eq_true rfl, by rw [hR]; exact Nat.le_of_ble_eq_true rfl⟩ rfl (fun v u H locs hp10 hP hD hS _ => ?_)
            obtain ⟨fa, fb, fc, fd, fe, ff, fg, v9⟩ := u
            try dsimp only at hp10
            obtain ⟨rfl, w9, q9⟩ := hp10
            have hP : va_P D cls0 [(mo, .inr (8, [.int (iZ 0), .int (iZ (np : Int)), .ref ow, .ref om, .ref ok_, .ref oK, .ref og, .ref on_, .ref oh, .ref ox, .int qn, .int qf, .ref op_, .int ql])), (ow, .inl (cI, 108000, .inl fa)), (om, .inl (cI, 9, .inl fb)), (oh, .inl (cI, 10000, .inl fc)), (ok_, .inl (cI, 166400, .inl fd)), (oK, .inl (cI, 64, .inl fe)), (og, .inl (cI, 32, .inl ff)), (on_, .inl (cI, 32, .inl fg))] H := hP
            have hD : va_D A [(mo, .inr (8, [.int (iZ 0), .int (iZ (np : Int)), .ref ow, .ref om, .ref ok_, .ref oK, .ref og, .ref on_, .ref oh, .ref ox, .int qn, .int qf, .ref op_, .int ql])), (ow, .inl (cI, 108000, .inl fa)), (om, .inl (cI, 9, .inl fb)), (oh, .inl (cI, 10000, .inl fc)), (ok_, .inl (cI, 166400, .inl fd)), (oK, .inl (cI, 64, .inl fe)), (og, .inl (cI, 32, .inl ff)), (on_, .inl (cI, 32, .inl fg))] := hD
            show W p l e R s m args below meth c H locs _ _ Q (F0 m 82 ls [.int (iZ ((lm (rdN (v2 0) (v2 1)) : Int) + (lm (rdD (v2 0) (v2 1)) : Int)))])
            rw [e0, e1]
            rw [e0, e1] at q9
            have hP9 : va_P D cls0 [(mo, .inr (8, [.int (iZ 0), .int (iZ (np : Int)), .ref ow, .ref om, .ref ok_, .ref oK, .ref og, .ref on_, .ref oh, .ref ox, .int qn, .int qf, .ref op_, .int ql])), (ow, .inl (cI, 108000, .inl fa)), (om, .inl (cI, 9, .inl fb)), (oh, .inl (cI, 10000, .inl fc)), (ok_, .inl (cI, 166400, .inl fd)), (oK, .inl (cI, 64, .inl fe)), (og, .inl (cI, 32, .inl ff)), (on_, .inl (cI, 32, .inl fg))] H := hP.sub [0, 1, 2, 3, 4, 5, 6, 7] rfl
            have hD9 : va_D A [(mo, .inr (8, [.int (iZ 0), .int (iZ (np : Int)), .ref ow, .ref om, .ref ok_, .ref oK, .ref og, .ref on_, .ref oh, .ref ox, .int qn, .int qf, .ref op_, .int ql])), (ow, .inl (cI, 108000, .inl fa)), (om, .inl (cI, 9, .inl fb)), (oh, .inl (cI, 10000, .inl fc)), (ok_, .inl (cI, 166400, .inl fd)), (oK, .inl (cI, 64, .inl fe)), (og, .inl (cI, 32, .inl ff)), (on_, .inl (cI, 32, .inl fg))] := hD.sub [0, 1, 2, 3, 4, 5, 6, 7] (by decide) rfl
            rw [hQ, ← hAe]
            refine r_i (v := (iZ ((lm (rdN (zn.natAbs) (zd.natAbs)) : Int) + (lm (rdD (zn.natAbs) (zd.natAbs)) : Int)))) K (fa, fb, fc, fd, fe, ff, fg, v9) hS d_Mo_set_82 ?_ (fun t ht hv => ?_)
            · try dsimp only
              refine ⟨rfl, w9, ?_⟩
              rw [show sgS zn zd = 1 by unfold sgS; first | exact if_pos (by omega) | exact if_neg (by omega)]; exact q9
            · exact ⟨by rw [ht]; exact hP9, va_K.moved hv hK, by rw [← hAe]; exact hD9⟩
        · refine lv_iconst (v := iZ (1)) hx hb d_Mo_set_65 (by decide +kernel) ?_
          refine lv_goto (tgt := 70) hx hb d_Mo_set_66 (by decide) ?_
          refine zz_icmp_ne (tgt := 77) hx hb d_Mo_set_70 (by decide) (by omega) (by omega) (fun c70 => ?_) (fun c70 => ?_)
          · refine lv_iconst (v := iZ (-1)) hx hb d_Mo_set_77 (by decide +kernel) ?_
            refine lv_iconst (v := iZ (3)) hx hb d_Mo_set_78 (by decide +kernel) ?_
            refine cv (n := 3) (wr := []) (w1 := (fun (u : (Nat → Int32) × (Nat → Int32) × (Nat → Int32) × (Nat → Int32) × (Nat → Int32) × (Nat → Int32) × (Nat → Int32) × (Nat → Nat)) => [(mo, .inr (8, [.int (iZ 0), .int (iZ (np : Int)), .ref ow, .ref om, .ref ok_, .ref oK, .ref og, .ref on_, .ref oh, .ref ox, .int qn, .int qf, .ref op_, .int ql])), (ow, .inl (cI, 108000, .inl u.1)), (om, .inl (cI, 9, .inl u.2.1)), (oh, .inl (cI, 10000, .inl u.2.2.1)), (ok_, .inl (cI, 166400, .inl u.2.2.2.1)), (oK, .inl (cI, 64, .inl u.2.2.2.2.1)), (og, .inl (cI, 32, .inl u.2.2.2.2.2.1)), (on_, .inl (cI, 32, .inl u.2.2.2.2.2.2.1))])) (As := [.int (iZ (to : Int)), .int (iZ (-1)), .int (iZ 3)]) (rest := []) K hP hD hK hS hA hl.1 (c_Mo_put l D mo (iZ 0) np ow om ok_ oK og on_ oh ox qn qf op_ ql fx2 fy2 cI fh fk fK fs fn v2 tv bv sg to (-1) 3 H.size w2 hMR (by omega) hnd hnp (by omega) (by decide) (by rw [e1]; omega) (by rw [e0]; exact bn) (by rw [e1]; exact bd) (by rw [e0, e1]; exact hfit)) [5, 6, 7, 0, 1, 2, 3, 4] [] [0] rfl rfl rfl (by decide) (by decide) (by decide) 0 rfl rfl (big_in mw_1185 rfl) (big_in mw_10 rfl) (big_in mw_1182 rfl) (big_in mw_1184 rfl) (big_in sp_20 rfl) rfl rfl (by decide +kernel) ⟨by rw [hR]; exact Nat.le_of_ble_eq_true rfl, by rw [hR]; exact Nat.le_of_ble_eq_true rfl⟩ rfl (Nat.le_of_ble_eq_true rfl) d_Mo_set_79 ⟨by rw [hR]; exact Nat.le_of_ble_eq_true rfl, by rw [hR]; exact Nat.le_of_ble_eq_true rfl⟩ rfl (fun v u H locs hp11 hP hD hS _ => ?_)
            obtain ⟨fa, fb, fc, fd, fe, ff, fg, v9⟩ := u
            try dsimp only at hp11
            obtain ⟨rfl, w9, q9⟩ := hp11
            have hP : va_P D cls0 [(mo, .inr (8, [.int (iZ 0), .int (iZ (np : Int)), .ref ow, .ref om, .ref ok_, .ref oK, .ref og, .ref on_, .ref oh, .ref ox, .int qn, .int qf, .ref op_, .int ql])), (ow, .inl (cI, 108000, .inl fa)), (om, .inl (cI, 9, .inl fb)), (oh, .inl (cI, 10000, .inl fc)), (ok_, .inl (cI, 166400, .inl fd)), (oK, .inl (cI, 64, .inl fe)), (og, .inl (cI, 32, .inl ff)), (on_, .inl (cI, 32, .inl fg))] H := hP
            have hD : va_D A [(mo, .inr (8, [.int (iZ 0), .int (iZ (np : Int)), .ref ow, .ref om, .ref ok_, .ref oK, .ref og, .ref on_, .ref oh, .ref ox, .int qn, .int qf, .ref op_, .int ql])), (ow, .inl (cI, 108000, .inl fa)), (om, .inl (cI, 9, .inl fb)), (oh, .inl (cI, 10000, .inl fc)), (ok_, .inl (cI, 166400, .inl fd)), (oK, .inl (cI, 64, .inl fe)), (og, .inl (cI, 32, .inl ff)), (on_, .inl (cI, 32, .inl fg))] := hD
            show W p l e R s m args below meth c H locs _ _ Q (F0 m 82 ls [.int (iZ ((lm (rdN (v2 0) (v2 1)) : Int) + (lm (rdD (v2 0) (v2 1)) : Int)))])
            rw [e0, e1]
            rw [e0, e1] at q9
            have hP9 : va_P D cls0 [(mo, .inr (8, [.int (iZ 0), .int (iZ (np : Int)), .ref ow, .ref om, .ref ok_, .ref oK, .ref og, .ref on_, .ref oh, .ref ox, .int qn, .int qf, .ref op_, .int ql])), (ow, .inl (cI, 108000, .inl fa)), (om, .inl (cI, 9, .inl fb)), (oh, .inl (cI, 10000, .inl fc)), (ok_, .inl (cI, 166400, .inl fd)), (oK, .inl (cI, 64, .inl fe)), (og, .inl (cI, 32, .inl ff)), (on_, .inl (cI, 32, .inl fg))] H := hP.sub [0, 1, 2, 3, 4, 5, 6, 7] rfl
            have hD9 : va_D A [(mo, .inr (8, [.int (iZ 0), .int (iZ (np : Int)), .ref ow, .ref om, .ref ok_, .ref oK, .ref og, .ref on_, .ref oh, .ref ox, .int qn, .int qf, .ref op_, .int ql])), (ow, .inl (cI, 108000, .inl fa)), (om, .inl (cI, 9, .inl fb)), (oh, .inl (cI, 10000, .inl fc)), (ok_, .inl (cI, 166400, .inl fd)), (oK, .inl (cI, 64, .inl fe)), (og, .inl (cI, 32, .inl ff)), (on_, .inl (cI, 32, .inl fg))] := hD.sub [0, 1, 2, 3, 4, 5, 6, 7] (by decide) rfl
            rw [hQ, ← hAe]
            refine r_i (v := (iZ ((lm (rdN (zn.natAbs) (zd.natAbs)) : Int) + (lm (rdD (zn.natAbs) (zd.natAbs)) : Int)))) K (fa, fb, fc, fd, fe, ff, fg, v9) hS d_Mo_set_82 ?_ (fun t ht hv => ?_)
            · try dsimp only
              refine ⟨rfl, w9, ?_⟩
              rw [show sgS zn zd = -1 by unfold sgS; first | exact if_pos (by omega) | exact if_neg (by omega)]; exact q9
            · exact ⟨by rw [ht]; exact hP9, va_K.moved hv hK, by rw [← hAe]; exact hD9⟩
          · refine lv_iconst (v := iZ (1)) hx hb d_Mo_set_73 (by decide +kernel) ?_
            refine lv_goto (tgt := 78) hx hb d_Mo_set_74 (by decide) ?_
            refine lv_iconst (v := iZ (3)) hx hb d_Mo_set_78 (by decide +kernel) ?_
            refine cv (n := 3) (wr := []) (w1 := (fun (u : (Nat → Int32) × (Nat → Int32) × (Nat → Int32) × (Nat → Int32) × (Nat → Int32) × (Nat → Int32) × (Nat → Int32) × (Nat → Nat)) => [(mo, .inr (8, [.int (iZ 0), .int (iZ (np : Int)), .ref ow, .ref om, .ref ok_, .ref oK, .ref og, .ref on_, .ref oh, .ref ox, .int qn, .int qf, .ref op_, .int ql])), (ow, .inl (cI, 108000, .inl u.1)), (om, .inl (cI, 9, .inl u.2.1)), (oh, .inl (cI, 10000, .inl u.2.2.1)), (ok_, .inl (cI, 166400, .inl u.2.2.2.1)), (oK, .inl (cI, 64, .inl u.2.2.2.2.1)), (og, .inl (cI, 32, .inl u.2.2.2.2.2.1)), (on_, .inl (cI, 32, .inl u.2.2.2.2.2.2.1))])) (As := [.int (iZ (to : Int)), .int (iZ 1), .int (iZ 3)]) (rest := []) K hP hD hK hS hA hl.1 (c_Mo_put l D mo (iZ 0) np ow om ok_ oK og on_ oh ox qn qf op_ ql fx2 fy2 cI fh fk fK fs fn v2 tv bv sg to 1 3 H.size w2 hMR (by omega) hnd hnp (by omega) (by decide) (by rw [e1]; omega) (by rw [e0]; exact bn) (by rw [e1]; exact bd) (by rw [e0, e1]; exact hfit)) [5, 6, 7, 0, 1, 2, 3, 4] [] [0] rfl rfl rfl (by decide) (by decide) (by decide) 0 rfl rfl (big_in mw_1185 rfl) (big_in mw_10 rfl) (big_in mw_1182 rfl) (big_in mw_1184 rfl) (big_in sp_20 rfl) rfl rfl (by decide +kernel) ⟨by rw [hR]; exact Nat.le_of_ble_eq_true rfl, by rw [hR]; exact Nat.le_of_ble_eq_true rfl⟩ rfl (Nat.le_of_ble_eq_true rfl) d_Mo_set_79 ⟨by rw [hR]; exact Nat.le_of_ble_eq_true rfl, by rw [hR]; exact Nat.le_of_ble_eq_true rfl⟩ rfl (fun v u H locs hp12 hP hD hS _ => ?_)
            obtain ⟨fa, fb, fc, fd, fe, ff, fg, v9⟩ := u
            try dsimp only at hp12
            obtain ⟨rfl, w9, q9⟩ := hp12
            have hP : va_P D cls0 [(mo, .inr (8, [.int (iZ 0), .int (iZ (np : Int)), .ref ow, .ref om, .ref ok_, .ref oK, .ref og, .ref on_, .ref oh, .ref ox, .int qn, .int qf, .ref op_, .int ql])), (ow, .inl (cI, 108000, .inl fa)), (om, .inl (cI, 9, .inl fb)), (oh, .inl (cI, 10000, .inl fc)), (ok_, .inl (cI, 166400, .inl fd)), (oK, .inl (cI, 64, .inl fe)), (og, .inl (cI, 32, .inl ff)), (on_, .inl (cI, 32, .inl fg))] H := hP
            have hD : va_D A [(mo, .inr (8, [.int (iZ 0), .int (iZ (np : Int)), .ref ow, .ref om, .ref ok_, .ref oK, .ref og, .ref on_, .ref oh, .ref ox, .int qn, .int qf, .ref op_, .int ql])), (ow, .inl (cI, 108000, .inl fa)), (om, .inl (cI, 9, .inl fb)), (oh, .inl (cI, 10000, .inl fc)), (ok_, .inl (cI, 166400, .inl fd)), (oK, .inl (cI, 64, .inl fe)), (og, .inl (cI, 32, .inl ff)), (on_, .inl (cI, 32, .inl fg))] := hD
            show W p l e R s m args below meth c H locs _ _ Q (F0 m 82 ls [.int (iZ ((lm (rdN (v2 0) (v2 1)) : Int) + (lm (rdD (v2 0) (v2 1)) : Int)))])
            rw [e0, e1]
            rw [e0, e1] at q9
            have hP9 : va_P D cls0 [(mo, .inr (8, [.int (iZ 0), .int (iZ (np : Int)), .ref ow, .ref om, .ref ok_, .ref oK, .ref og, .ref on_, .ref oh, .ref ox, .int qn, .int qf, .ref op_, .int ql])), (ow, .inl (cI, 108000, .inl fa)), (om, .inl (cI, 9, .inl fb)), (oh, .inl (cI, 10000, .inl fc)), (ok_, .inl (cI, 166400, .inl fd)), (oK, .inl (cI, 64, .inl fe)), (og, .inl (cI, 32, .inl ff)), (on_, .inl (cI, 32, .inl fg))] H := hP.sub [0, 1, 2, 3, 4, 5, 6, 7] rfl
            have hD9 : va_D A [(mo, .inr (8, [.int (iZ 0), .int (iZ (np : Int)), .ref ow, .ref om, .ref ok_, .ref oK, .ref og, .ref on_, .ref oh, .ref ox, .int qn, .int qf, .ref op_, .int ql])), (ow, .inl (cI, 108000, .inl fa)), (om, .inl (cI, 9, .inl fb)), (oh, .inl (cI, 10000, .inl fc)), (ok_, .inl (cI, 166400, .inl fd)), (oK, .inl (cI, 64, .inl fe)), (og, .inl (cI, 32, .inl ff)), (on_, .inl (cI, 32, .inl fg))] := hD.sub [0, 1, 2, 3, 4, 5, 6, 7] (by decide) rfl
            rw [hQ, ← hAe]
            refine r_i (v := (iZ ((lm (rdN (zn.natAbs) (zd.natAbs)) : Int) + (lm (rdD (zn.natAbs) (zd.natAbs)) : Int)))) K (fa, fb, fc, fd, fe, ff, fg, v9) hS d_Mo_set_82 ?_ (fun t ht hv => ?_)
            · try dsimp only
              refine ⟨rfl, w9, ?_⟩
              rw [show sgS zn zd = 1 by unfold sgS; first | exact if_pos (by omega) | exact if_neg (by omega)]; exact q9
            · exact ⟨by rw [ht]; exact hP9, va_K.moved hv hK, by rw [← hAe]; exact hD9⟩
    · refine lv_iconst (v := iZ (2)) hx hb d_Mo_set_19 (by decide +kernel) ?_
      refine lv_goto (tgt := 24) hx hb d_Mo_set_20 (by decide) ?_
      exfalso
      omega
  · refine lv_iconst (v := iZ (1)) hx hb d_Mo_set_8 (by decide +kernel) ?_
    refine lv_goto (tgt := 24) hx hb d_Mo_set_9 (by decide) ?_
    exfalso
    omega
set_option maxHeartbeats 4000000 in
set_option maxRecDepth 100000 in
/-- set(r, n, d) -/
theorem f_Mo_set (l : Launch) (D : va_G) (mo : Nat) (qc : Int32) (np : Nat) (ow : Nat) (om : Nat) (ok_ : Nat) (oK : Nat) (og : Nat) (on_ : Nat) (oh : Nat) (ox : Nat) (qn : Int32) (qf : Int32) (op_ : Nat) (ql : Int32) (fw : Nat → Int32) (fm : Nat → Int32) (cI : ClassId) (fh : Nat → Int32) (fk : Nat → Int32) (fK : Nat → Int32) (fs : Nat → Int32) (fn : Nat → Int32) (val : Nat → Nat) (tv : Nat → Nat) (bv : Nat → Nat) (sg : Nat → Int) (to : Nat) (zn : Int) (zd : Int) (sz : Nat) (hW : WB fw fm val) (hMR : MoR fk fK fs fn tv bv sg) (hnd : ndS tv bv 32 ≤ np) (hnp : np ≤ 1024) (J : RgC tv bv sg) (hbv : ∀ r, r < 32 → 0 < bv r) (t1 : to < 32) (hzn : -9223372036854775808 ≤ zn ∧ zn < 9223372036854775808) (hzd : -9223372036854775808 ≤ zd ∧ zd < 9223372036854775808) (hd0 : zd ≠ 0) (hfit : np + (lm (tv to) + lm (bv to)) < ndS tv bv 32 + (lm (rdN (zn.natAbs) (zd.natAbs)) + lm (rdD (zn.natAbs) (zd.natAbs)))) : Met l y_Mo_set (wsB y_Mo_set b_Mo_set 6 (some .int)) ({ frames := 5, cells := 0, slots := 0, locals := 125 }) (va_Pc [.ref mo, .int (iZ (to : Int)), .long (lZ zn), .long (lZ zd)] (wPre D [(cI, .int)] [(mo, .inr (8, [.int qc, .int (iZ (np : Int)), .ref ow, .ref om, .ref ok_, .ref oK, .ref og, .ref on_, .ref oh, .ref ox, .int qn, .int qf, .ref op_, .int ql])), (ow, .inl (cI, 108000, .inl fw)), (om, .inl (cI, 9, .inl fm)), (oh, .inl (cI, 10000, .inl fh)), (ok_, .inl (cI, 166400, .inl fk)), (oK, .inl (cI, 64, .inl fK)), (og, .inl (cI, 32, .inl fs)), (on_, .inl (cI, 32, .inl fn))] sz)) (va_QV (fun (v_9 : Option Value) (u_9 : (Nat → Int32) × (Nat → Int32) × (Nat → Int32) × (Nat → Nat)) => v_9 = some (.int (iZ 0)) ∧ (WB u_9.1 u_9.2.1 u_9.2.2.2)) (fun u_9 => wPost D [(cI, .int)] [(mo, .inr (8, [.int qc, .int (iZ (np : Int)), .ref ow, .ref om, .ref ok_, .ref oK, .ref og, .ref on_, .ref oh, .ref ox, .int qn, .int qf, .ref op_, .int ql])), (ow, .inl (cI, 108000, .inl fw)), (om, .inl (cI, 9, .inl fm)), (oh, .inl (cI, 10000, .inl fh)), (ok_, .inl (cI, 166400, .inl fk)), (oK, .inl (cI, 64, .inl fK)), (og, .inl (cI, 32, .inl fs)), (on_, .inl (cI, 32, .inl fn))] [(mo, .inr (8, [.int (iZ 3), .int (iZ (np : Int)), .ref ow, .ref om, .ref ok_, .ref oK, .ref og, .ref on_, .ref oh, .ref ox, .int qn, .int qf, .ref op_, .int ql])), (ow, .inl (cI, 108000, .inl u_9.1)), (om, .inl (cI, 9, .inl u_9.2.1)), (oh, .inl (cI, 10000, .inl u_9.2.2.1)), (ok_, .inl (cI, 166400, .inl fk)), (oK, .inl (cI, 64, .inl fK)), (og, .inl (cI, 32, .inl fs)), (on_, .inl (cI, 32, .inl fn))] sz) (va_A [(mo, .inr (8, [.int qc, .int (iZ (np : Int)), .ref ow, .ref om, .ref ok_, .ref oK, .ref og, .ref on_, .ref oh, .ref ox, .int qn, .int qf, .ref op_, .int ql])), (ow, .inl (cI, 108000, .inl fw)), (om, .inl (cI, 9, .inl fm)), (oh, .inl (cI, 10000, .inl fh)), (ok_, .inl (cI, 166400, .inl fk)), (oK, .inl (cI, 64, .inl fK)), (og, .inl (cI, 32, .inl fs)), (on_, .inl (cI, 32, .inl fn))] sz)) 0 0 (va_A [(mo, .inr (8, [.int qc, .int (iZ (np : Int)), .ref ow, .ref om, .ref ok_, .ref oK, .ref og, .ref on_, .ref oh, .ref ox, .int qn, .int qf, .ref op_, .int ql])), (ow, .inl (cI, 108000, .inl fw)), (om, .inl (cI, 9, .inl fm)), (oh, .inl (cI, 10000, .inl fh)), (ok_, .inl (cI, 166400, .inl fk)), (oK, .inl (cI, 64, .inl fK)), (og, .inl (cI, 32, .inl fs)), (on_, .inl (cI, 32, .inl fn))] sz) := by
  refine met_enter (by decide +kernel) (Nat.le_of_ble_eq_true rfl) ?_
  intro p e s m args below meth c ls A R Q H locs K hin hAe hA hR hQ hP hK hD hS hl
  obtain ⟨hx, hb, hml, hrt, hlk, hts, hown, hno⟩ := id K
  have hl : lv_has ls 6 [(0, .ref mo), (1, .int (iZ (to : Int))), (2, .long (lZ zn)), (4, .long (lZ zd))] := hl
  have hlr : ∀ q, q < 32 → lm (tv q) + lm (bv q) ≤ 1024 := fun q hq => by have z := ndS_le (tv := tv) (bv := bv) hq; omega
  have hnt : ∀ q, q < 32 → nd (tv q) ≤ 2600 := fun q hq => by have z := nd_lm (v := tv q) (L := 1024) (by have y := hlr q hq; omega); omega
  have hnb : ∀ q, q < 32 → nd (bv q) ≤ 2600 := fun q hq => by have z := nd_lm (v := bv q) (L := 1024) (by have y := hlr q hq; omega); omega
  refine lv_aload_n hx hb d_Mo_set_0 rfl (lv_at hl 0 rfl) ?_
  refine lv_iload_n hx hb d_Mo_set_1 rfl (lv_at hl 1 rfl) ?_
  refine cs (n := 1) (wr := [(mo, .inr (8, [.int qc, .int (iZ (np : Int)), .ref ow, .ref om, .ref ok_, .ref oK, .ref og, .ref on_, .ref oh, .ref ox, .int qn, .int qf, .ref op_, .int ql])), (ow, .inl (cI, 108000, .inl fw)), (om, .inl (cI, 9, .inl fm)), (oh, .inl (cI, 10000, .inl fh)), (ok_, .inl (cI, 166400, .inl fk)), (oK, .inl (cI, 64, .inl fK)), (og, .inl (cI, 32, .inl fs)), (on_, .inl (cI, 32, .inl fn))]) (w1 := (fun (u : Int) => [])) (As := [.int (iZ (to : Int))]) (rest := [.ref mo]) K hP hD hK hS hA hl.1 (c_Mo_isRegister l D (to : Int) H.size (by omega)) [] [0, 1, 2, 3, 4, 5, 6, 7] [] rfl rfl rfl (by decide) (by decide) (by decide) (big_in mw_1172 rfl) (big_in mw_10 rfl) (big_in mw_1170 rfl) (big_in mw_1171 rfl) rfl rfl (by decide +kernel) ⟨by rw [hR]; exact Nat.le_of_ble_eq_true rfl, by rw [hR]; exact Nat.le_of_ble_eq_true rfl⟩ rfl (Nat.le_of_ble_eq_true rfl) d_Mo_set_2 ⟨by rw [hR]; exact Nat.le_of_ble_eq_true rfl, by rw [hR]; exact Nat.le_of_ble_eq_true rfl⟩ rfl (fun v u H locs hp1 hP hD hS _ => ?_)
  obtain ⟨r2, rfl⟩ : ∃ z, z = u := ⟨_, rfl⟩
  obtain ⟨rfl, p2⟩ := hp1
  have hP : va_P D cls0 [(mo, .inr (8, [.int qc, .int (iZ (np : Int)), .ref ow, .ref om, .ref ok_, .ref oK, .ref og, .ref on_, .ref oh, .ref ox, .int qn, .int qf, .ref op_, .int ql])), (ow, .inl (cI, 108000, .inl fw)), (om, .inl (cI, 9, .inl fm)), (oh, .inl (cI, 10000, .inl fh)), (ok_, .inl (cI, 166400, .inl fk)), (oK, .inl (cI, 64, .inl fK)), (og, .inl (cI, 32, .inl fs)), (on_, .inl (cI, 32, .inl fn))] H := hP
  have hD : va_D A [(mo, .inr (8, [.int qc, .int (iZ (np : Int)), .ref ow, .ref om, .ref ok_, .ref oK, .ref og, .ref on_, .ref oh, .ref ox, .int qn, .int qf, .ref op_, .int ql])), (ow, .inl (cI, 108000, .inl fw)), (om, .inl (cI, 9, .inl fm)), (oh, .inl (cI, 10000, .inl fh)), (ok_, .inl (cI, 166400, .inl fk)), (oK, .inl (cI, 64, .inl fK)), (og, .inl (cI, 32, .inl fs)), (on_, .inl (cI, 32, .inl fn))] := hD
  show W p l e R s m args below meth c H locs _ _ Q (F0 m 5 ls [.int (iZ r2), .ref mo])
  have b2 : 0 ≤ r2 ∧ r2 ≤ 1 := by omega
  refine zz_if_ne (tgt := 12) hx hb d_Mo_set_5 (by decide) (by omega) (fun c5 => ?_) (fun c5 => ?_)
  · refine lv_lload hx hb d_Mo_set_12 (lv_at hl 3 rfl) ?_
    refine lv_lconst (v := lZ (0)) hx hb d_Mo_set_14 (by decide +kernel) ?_
    refine zz_lcmp_ne (tgt := 23) hx hb d_Mo_set_15 d_Mo_set_16 (by decide) (by omega) (by omega) (fun c15 => ?_) (fun c15 => ?_)
    · refine lv_iconst (v := iZ (0)) hx hb d_Mo_set_23 (by decide +kernel) ?_
      refine cv (n := 1) (wr := [(ow, .inl (cI, 108000, .inl fw)), (om, .inl (cI, 9, .inl fm)), (oh, .inl (cI, 10000, .inl fh)), (ok_, .inl (cI, 166400, .inl fk)), (oK, .inl (cI, 64, .inl fK)), (og, .inl (cI, 32, .inl fs)), (on_, .inl (cI, 32, .inl fn))]) (w1 := (fun (u : Int) => [(mo, .inr (8, [.int (iZ 0), .int (iZ (np : Int)), .ref ow, .ref om, .ref ok_, .ref oK, .ref og, .ref on_, .ref oh, .ref ox, .int qn, .int qf, .ref op_, .int ql]))])) (As := [.int (iZ 0)]) (rest := []) K hP hD hK hS hA hl.1 (c_Mo_refuses l D mo qc np ow om ok_ oK og on_ oh ox qn qf op_ ql 0 H.size (by omega)) [0] [1, 2, 3, 4, 5, 6, 7] [] rfl rfl rfl (by decide) (by decide) (by decide) 0 rfl rfl (big_in mw_1176 rfl) (big_in mw_10 rfl) (big_in mw_1173 rfl) (big_in mw_1175 rfl) (big_in sp_18 rfl) rfl rfl (by decide +kernel) ⟨by rw [hR]; exact Nat.le_of_ble_eq_true rfl, by rw [hR]; exact Nat.le_of_ble_eq_true rfl⟩ rfl (Nat.le_of_ble_eq_true rfl) d_Mo_set_24 ⟨by rw [hR]; exact Nat.le_of_ble_eq_true rfl, by rw [hR]; exact Nat.le_of_ble_eq_true rfl⟩ rfl (fun v u H locs hp2 hP hD hS _ => ?_)
      obtain ⟨rf, rfl⟩ : ∃ z, z = u := ⟨_, rfl⟩
      obtain ⟨rfl, prf⟩ := hp2
      have hP : va_P D cls0 [(ow, .inl (cI, 108000, .inl fw)), (om, .inl (cI, 9, .inl fm)), (oh, .inl (cI, 10000, .inl fh)), (ok_, .inl (cI, 166400, .inl fk)), (oK, .inl (cI, 64, .inl fK)), (og, .inl (cI, 32, .inl fs)), (on_, .inl (cI, 32, .inl fn)), (mo, .inr (8, [.int (iZ 0), .int (iZ (np : Int)), .ref ow, .ref om, .ref ok_, .ref oK, .ref og, .ref on_, .ref oh, .ref ox, .int qn, .int qf, .ref op_, .int ql]))] H := hP
      have hD : va_D A [(ow, .inl (cI, 108000, .inl fw)), (om, .inl (cI, 9, .inl fm)), (oh, .inl (cI, 10000, .inl fh)), (ok_, .inl (cI, 166400, .inl fk)), (oK, .inl (cI, 64, .inl fK)), (og, .inl (cI, 32, .inl fs)), (on_, .inl (cI, 32, .inl fn)), (mo, .inr (8, [.int (iZ 0), .int (iZ (np : Int)), .ref ow, .ref om, .ref ok_, .ref oK, .ref og, .ref on_, .ref oh, .ref ox, .int qn, .int qf, .ref op_, .int ql]))] := hD
      show W p l e R s m args below meth c H locs _ _ Q (F0 m 27 ls [.int (iZ rf)])
      refine zz_if_eq (tgt := 32) hx hb d_Mo_set_27 (by decide) (by omega) (fun c27 => ?_) (fun c27 => False.elim (by omega))
      refine lv_aload_n hx hb d_Mo_set_32 rfl (lv_at hl 0 rfl) ?_
      refine lv_iconst (v := iZ (0)) hx hb d_Mo_set_33 (by decide +kernel) ?_
      refine lv_lload_n hx hb d_Mo_set_34 rfl (lv_at hl 2 rfl) ?_
      refine cv (n := 2) (wr := [(oh, .inl (cI, 10000, .inl fh)), (ok_, .inl (cI, 166400, .inl fk)), (oK, .inl (cI, 64, .inl fK)), (og, .inl (cI, 32, .inl fs)), (on_, .inl (cI, 32, .inl fn))]) (w1 := (fun (u : (Nat → Int32) × (Nat → Int32)) => [(mo, .inr (8, [.int (iZ 0), .int (iZ (np : Int)), .ref ow, .ref om, .ref ok_, .ref oK, .ref og, .ref on_, .ref oh, .ref ox, .int qn, .int qf, .ref op_, .int ql])), (ow, .inl (cI, 108000, .inl u.1)), (om, .inl (cI, 9, .inl u.2))])) (As := [.int (iZ 0), .long (lZ zn)]) (rest := []) K hP hD hK hS hA hl.1 (c_Mo_setLong l D mo (iZ 0) np ow om ok_ oK og on_ oh ox qn qf op_ ql fw fm cI val 0 zn H.size hW (by omega) (by omega)) [7, 0, 1] [2, 3, 4, 5, 6] [0] rfl rfl rfl (by decide) (by decide) (by decide) 0 rfl rfl (big_in mw_1180 rfl) (big_in mw_10 rfl) (big_in mw_1177 rfl) (big_in mw_1179 rfl) (big_in sp_19 rfl) rfl rfl (by decide +kernel) ⟨by rw [hR]; exact Nat.le_of_ble_eq_true rfl, by rw [hR]; exact Nat.le_of_ble_eq_true rfl⟩ rfl (Nat.le_of_ble_eq_true rfl) d_Mo_set_35 ⟨by rw [hR]; exact Nat.le_of_ble_eq_true rfl, by rw [hR]; exact Nat.le_of_ble_eq_true rfl⟩ rfl (fun v u H locs hp3 hP hD hS _ => ?_)
      obtain ⟨fx1, fy1⟩ := u
      try dsimp only at hp3
      obtain ⟨rfl, w1⟩ := hp3
      have hP : va_P D cls0 [(oh, .inl (cI, 10000, .inl fh)), (ok_, .inl (cI, 166400, .inl fk)), (oK, .inl (cI, 64, .inl fK)), (og, .inl (cI, 32, .inl fs)), (on_, .inl (cI, 32, .inl fn)), (mo, .inr (8, [.int (iZ 0), .int (iZ (np : Int)), .ref ow, .ref om, .ref ok_, .ref oK, .ref og, .ref on_, .ref oh, .ref ox, .int qn, .int qf, .ref op_, .int ql])), (ow, .inl (cI, 108000, .inl fx1)), (om, .inl (cI, 9, .inl fy1))] H := hP
      have hD : va_D A [(oh, .inl (cI, 10000, .inl fh)), (ok_, .inl (cI, 166400, .inl fk)), (oK, .inl (cI, 64, .inl fK)), (og, .inl (cI, 32, .inl fs)), (on_, .inl (cI, 32, .inl fn)), (mo, .inr (8, [.int (iZ 0), .int (iZ (np : Int)), .ref ow, .ref om, .ref ok_, .ref oK, .ref og, .ref on_, .ref oh, .ref ox, .int qn, .int qf, .ref op_, .int ql])), (ow, .inl (cI, 108000, .inl fx1)), (om, .inl (cI, 9, .inl fy1))] := hD
      show W p l e R s m args below meth c H locs _ _ Q (F0 m 38 ls [])
      obtain ⟨v1, hv1⟩ : ∃ x, x = up val 0 (zn.natAbs) := ⟨_, rfl⟩
      rw [← hv1] at w1
      refine lv_aload_n hx hb d_Mo_set_38 rfl (lv_at hl 0 rfl) ?_
      refine lv_iconst (v := iZ (1)) hx hb d_Mo_set_39 (by decide +kernel) ?_
      refine lv_lload hx hb d_Mo_set_40 (lv_at hl 3 rfl) ?_
      refine cv (n := 2) (wr := [(oh, .inl (cI, 10000, .inl fh)), (ok_, .inl (cI, 166400, .inl fk)), (oK, .inl (cI, 64, .inl fK)), (og, .inl (cI, 32, .inl fs)), (on_, .inl (cI, 32, .inl fn))]) (w1 := (fun (u : (Nat → Int32) × (Nat → Int32)) => [(mo, .inr (8, [.int (iZ 0), .int (iZ (np : Int)), .ref ow, .ref om, .ref ok_, .ref oK, .ref og, .ref on_, .ref oh, .ref ox, .int qn, .int qf, .ref op_, .int ql])), (ow, .inl (cI, 108000, .inl u.1)), (om, .inl (cI, 9, .inl u.2))])) (As := [.int (iZ 1), .long (lZ zd)]) (rest := []) K hP hD hK hS hA hl.1 (c_Mo_setLong l D mo (iZ 0) np ow om ok_ oK og on_ oh ox qn qf op_ ql fx1 fy1 cI v1 1 zd H.size w1 (by omega) (by omega)) [5, 6, 7] [0, 1, 2, 3, 4] [0] rfl rfl rfl (by decide) (by decide) (by decide) 0 rfl rfl (big_in mw_1180 rfl) (big_in mw_10 rfl) (big_in mw_1177 rfl) (big_in mw_1179 rfl) (big_in sp_19 rfl) rfl rfl (by decide +kernel) ⟨by rw [hR]; exact Nat.le_of_ble_eq_true rfl, by rw [hR]; exact Nat.le_of_ble_eq_true rfl⟩ rfl (Nat.le_of_ble_eq_true rfl) d_Mo_set_42 ⟨by rw [hR]; exact Nat.le_of_ble_eq_true rfl, by rw [hR]; exact Nat.le_of_ble_eq_true rfl⟩ rfl (fun v u H locs hp4 hP hD hS _ => ?_)
      obtain ⟨fx2, fy2⟩ := u
      try dsimp only at hp4
      obtain ⟨rfl, w2⟩ := hp4
      have hP : va_P D cls0 [(oh, .inl (cI, 10000, .inl fh)), (ok_, .inl (cI, 166400, .inl fk)), (oK, .inl (cI, 64, .inl fK)), (og, .inl (cI, 32, .inl fs)), (on_, .inl (cI, 32, .inl fn)), (mo, .inr (8, [.int (iZ 0), .int (iZ (np : Int)), .ref ow, .ref om, .ref ok_, .ref oK, .ref og, .ref on_, .ref oh, .ref ox, .int qn, .int qf, .ref op_, .int ql])), (ow, .inl (cI, 108000, .inl fx2)), (om, .inl (cI, 9, .inl fy2))] H := hP
      have hD : va_D A [(oh, .inl (cI, 10000, .inl fh)), (ok_, .inl (cI, 166400, .inl fk)), (oK, .inl (cI, 64, .inl fK)), (og, .inl (cI, 32, .inl fs)), (on_, .inl (cI, 32, .inl fn)), (mo, .inr (8, [.int (iZ 0), .int (iZ (np : Int)), .ref ow, .ref om, .ref ok_, .ref oK, .ref og, .ref on_, .ref oh, .ref ox, .int qn, .int qf, .ref op_, .int ql])), (ow, .inl (cI, 108000, .inl fx2)), (om, .inl (cI, 9, .inl fy2))] := hD
      show W p l e R s m args below meth c H locs _ _ Q (F0 m 45 ls [])
      obtain ⟨v2, hv2⟩ : ∃ x, x = up v1 1 (zd.natAbs) := ⟨_, rfl⟩
      rw [← hv2] at w2
      have e0 : v2 0 = zn.natAbs := by rw [hv2, up_n (by decide), hv1, up_s]
      have e1 : v2 1 = zd.natAbs := by rw [hv2, up_s]
      have bn : lm zn.natAbs ≤ 4800 := Nat.le_trans (lm_le.mpr (show zn.natAbs < pB 2 from Nat.lt_of_le_of_lt (show zn.natAbs ≤ 9223372036854775808 by omega) (by decide))) (by decide)
      have bd : lm zd.natAbs ≤ 4800 := Nat.le_trans (lm_le.mpr (show zd.natAbs < pB 2 from Nat.lt_of_le_of_lt (show zd.natAbs ≤ 9223372036854775808 by omega) (by decide))) (by decide)
      refine lv_aload_n hx hb d_Mo_set_45 rfl (lv_at hl 0 rfl) ?_
      refine lv_iload_n hx hb d_Mo_set_46 rfl (lv_at hl 1 rfl) ?_
      refine lv_lload_n hx hb d_Mo_set_47 rfl (lv_at hl 2 rfl) ?_
      refine lv_lconst (v := lZ (0)) hx hb d_Mo_set_48 (by decide +kernel) ?_
      refine zz_lcmp_ge (tgt := 57) hx hb d_Mo_set_49 d_Mo_set_50 (by decide) (by omega) (by omega) (fun c49 => ?_) (fun c49 => ?_)
      · refine lv_iconst (v := iZ (0)) hx hb d_Mo_set_57 (by decide +kernel) ?_
        refine lv_lload hx hb d_Mo_set_58 (lv_at hl 3 rfl) ?_
        refine lv_lconst (v := lZ (0)) hx hb d_Mo_set_60 (by decide +kernel) ?_
        refine zz_lcmp_ge (tgt := 69) hx hb d_Mo_set_61 d_Mo_set_62 (by decide) (by omega) (by omega) (fun c61 => ?_) (fun c61 => ?_)
        · refine lv_iconst (v := iZ (0)) hx hb d_Mo_set_69 (by decide +kernel) ?_
          refine zz_icmp_ne (tgt := 77) hx hb d_Mo_set_70 (by decide) (by omega) (by omega) (fun c70 => ?_) (fun c70 => ?_)
          · refine lv_iconst (v := iZ (-1)) hx hb d_Mo_set_77 (by decide +kernel) ?_
            refine lv_iconst (v := iZ (3)) hx hb d_Mo_set_78 (by decide +kernel) ?_
            refine cv (n := 3) (wr := []) (w1 := (fun (u : (Nat → Int32) × (Nat → Int32) × (Nat → Int32) × (Nat → Nat)) => [(mo, .inr (8, [.int (iZ 3), .int (iZ (np : Int)), .ref ow, .ref om, .ref ok_, .ref oK, .ref og, .ref on_, .ref oh, .ref ox, .int qn, .int qf, .ref op_, .int ql])), (ow, .inl (cI, 108000, .inl u.1)), (om, .inl (cI, 9, .inl u.2.1)), (oh, .inl (cI, 10000, .inl u.2.2.1)), (ok_, .inl (cI, 166400, .inl fk)), (oK, .inl (cI, 64, .inl fK)), (og, .inl (cI, 32, .inl fs)), (on_, .inl (cI, 32, .inl fn))])) (As := [.int (iZ (to : Int)), .int (iZ (-1)), .int (iZ 3)]) (rest := []) K hP hD hK hS hA hl.1 (c_Mo_putX l D mo (iZ 0) np ow om ok_ oK og on_ oh ox qn qf op_ ql fx2 fy2 cI fh fk fK fs fn v2 tv bv sg to (-1) 3 H.size w2 hMR (by omega) hnd hnp (by omega) (by decide) (by rw [e1]; omega) (by rw [e0]; exact bn) (by rw [e1]; exact bd) (by rw [e0, e1]; exact hfit)) [5, 6, 7, 0, 1, 2, 3, 4] [] [0] rfl rfl rfl (by decide) (by decide) (by decide) 0 rfl rfl (big_in mw_1185 rfl) (big_in mw_10 rfl) (big_in mw_1182 rfl) (big_in mw_1184 rfl) (big_in sp_20 rfl) rfl rfl (by decide +kernel) ⟨by rw [hR]; exact Nat.le_of_ble_eq_true rfl, by rw [hR]; exact Nat.le_of_ble_eq_true rfl⟩ rfl (Nat.le_of_ble_eq_true rfl) d_Mo_set_79 ⟨by rw [hR]; exact Nat.le_of_ble_eq_true rfl, by rw [hR]; exact Nat.le_of_ble_eq_true rfl⟩ rfl (fun v u H locs hp5 hP hD hS _ => ?_)
            obtain ⟨fa, fb, fc, v9⟩ := u
            try dsimp only at hp5
            obtain ⟨rfl, w9⟩ := hp5
            have hP : va_P D cls0 [(mo, .inr (8, [.int (iZ 3), .int (iZ (np : Int)), .ref ow, .ref om, .ref ok_, .ref oK, .ref og, .ref on_, .ref oh, .ref ox, .int qn, .int qf, .ref op_, .int ql])), (ow, .inl (cI, 108000, .inl fa)), (om, .inl (cI, 9, .inl fb)), (oh, .inl (cI, 10000, .inl fc)), (ok_, .inl (cI, 166400, .inl fk)), (oK, .inl (cI, 64, .inl fK)), (og, .inl (cI, 32, .inl fs)), (on_, .inl (cI, 32, .inl fn))] H := hP
            have hD : va_D A [(mo, .inr (8, [.int (iZ 3), .int (iZ (np : Int)), .ref ow, .ref om, .ref ok_, .ref oK, .ref og, .ref on_, .ref oh, .ref ox, .int qn, .int qf, .ref op_, .int ql])), (ow, .inl (cI, 108000, .inl fa)), (om, .inl (cI, 9, .inl fb)), (oh, .inl (cI, 10000, .inl fc)), (ok_, .inl (cI, 166400, .inl fk)), (oK, .inl (cI, 64, .inl fK)), (og, .inl (cI, 32, .inl fs)), (on_, .inl (cI, 32, .inl fn))] := hD
            show W p l e R s m args below meth c H locs _ _ Q (F0 m 82 ls [.int (iZ 0)])
            have hP9 : va_P D cls0 [(mo, .inr (8, [.int (iZ 3), .int (iZ (np : Int)), .ref ow, .ref om, .ref ok_, .ref oK, .ref og, .ref on_, .ref oh, .ref ox, .int qn, .int qf, .ref op_, .int ql])), (ow, .inl (cI, 108000, .inl fa)), (om, .inl (cI, 9, .inl fb)), (oh, .inl (cI, 10000, .inl fc)), (ok_, .inl (cI, 166400, .inl fk)), (oK, .inl (cI, 64, .inl fK)), (og, .inl (cI, 32, .inl fs)), (on_, .inl (cI, 32, .inl fn))] H := hP.sub [0, 1, 2, 3, 4, 5, 6, 7] rfl
            have hD9 : va_D A [(mo, .inr (8, [.int (iZ 3), .int (iZ (np : Int)), .ref ow, .ref om, .ref ok_, .ref oK, .ref og, .ref on_, .ref oh, .ref ox, .int qn, .int qf, .ref op_, .int ql])), (ow, .inl (cI, 108000, .inl fa)), (om, .inl (cI, 9, .inl fb)), (oh, .inl (cI, 10000, .inl fc)), (ok_, .inl (cI, 166400, .inl fk)), (oK, .inl (cI, 64, .inl fK)), (og, .inl (cI, 32, .inl fs)), (on_, .inl (cI, 32, .inl fn))] := hD.sub [0, 1, 2, 3, 4, 5, 6, 7] (by decide) rfl
            rw [hQ, ← hAe]
            refine r_i (v := (iZ 0)) K (fa, fb, fc, v9) hS d_Mo_set_82 ?_ (fun t ht hv => ?_)
            · exact ⟨rfl, w9⟩
            · exact ⟨by rw [ht]; exact hP9, va_K.moved hv hK, by rw [← hAe]; exact hD9⟩
          · refine lv_iconst (v := iZ (1)) hx hb d_Mo_set_73 (by decide +kernel) ?_
            refine lv_goto (tgt := 78) hx hb d_Mo_set_74 (by decide) ?_
            refine lv_iconst (v := iZ (3)) hx hb d_Mo_set_78 (by decide +kernel) ?_
            refine cv (n := 3) (wr := []) (w1 := (fun (u : (Nat → Int32) × (Nat → Int32) × (Nat → Int32) × (Nat → Nat)) => [(mo, .inr (8, [.int (iZ 3), .int (iZ (np : Int)), .ref ow, .ref om, .ref ok_, .ref oK, .ref og, .ref on_, .ref oh, .ref ox, .int qn, .int qf, .ref op_, .int ql])), (ow, .inl (cI, 108000, .inl u.1)), (om, .inl (cI, 9, .inl u.2.1)), (oh, .inl (cI, 10000, .inl u.2.2.1)), (ok_, .inl (cI, 166400, .inl fk)), (oK, .inl (cI, 64, .inl fK)), (og, .inl (cI, 32, .inl fs)), (on_, .inl (cI, 32, .inl fn))])) (As := [.int (iZ (to : Int)), .int (iZ 1), .int (iZ 3)]) (rest := []) K hP hD hK hS hA hl.1 (c_Mo_putX l D mo (iZ 0) np ow om ok_ oK og on_ oh ox qn qf op_ ql fx2 fy2 cI fh fk fK fs fn v2 tv bv sg to 1 3 H.size w2 hMR (by omega) hnd hnp (by omega) (by decide) (by rw [e1]; omega) (by rw [e0]; exact bn) (by rw [e1]; exact bd) (by rw [e0, e1]; exact hfit)) [5, 6, 7, 0, 1, 2, 3, 4] [] [0] rfl rfl rfl (by decide) (by decide) (by decide) 0 rfl rfl (big_in mw_1185 rfl) (big_in mw_10 rfl) (big_in mw_1182 rfl) (big_in mw_1184 rfl) (big_in sp_20 rfl) rfl rfl (by decide +kernel) ⟨by rw [hR]; exact Nat.le_of_ble_eq_true rfl, by rw [hR]; exact Nat.le_of_ble_eq_true rfl⟩ rfl (Nat.le_of_ble_eq_true rfl) d_Mo_set_79 ⟨by rw [hR]; exact Nat.le_of_ble_eq_true rfl, by rw [hR]; exact Nat.le_of_ble_eq_true rfl⟩ rfl (fun v u H locs hp6 hP hD hS _ => ?_)
            obtain ⟨fa, fb, fc, v9⟩ := u
            try dsimp only at hp6
            obtain ⟨rfl, w9⟩ := hp6
            have hP : va_P D cls0 [(mo, .inr (8, [.int (iZ 3), .int (iZ (np : Int)), .ref ow, .ref om, .ref ok_, .ref oK, .ref og, .ref on_, .ref oh, .ref ox, .int qn, .int qf, .ref op_, .int ql])), (ow, .inl (cI, 108000, .inl fa)), (om, .inl (cI, 9, .inl fb)), (oh, .inl (cI, 10000, .inl fc)), (ok_, .inl (cI, 166400, .inl fk)), (oK, .inl (cI, 64, .inl fK)), (og, .inl (cI, 32, .inl fs)), (on_, .inl (cI, 32, .inl fn))] H := hP
            have hD : va_D A [(mo, .inr (8, [.int (iZ 3), .int (iZ (np : Int)), .ref ow, .ref om, .ref ok_, .ref oK, .ref og, .ref on_, .ref oh, .ref ox, .int qn, .int qf, .ref op_, .int ql])), (ow, .inl (cI, 108000, .inl fa)), (om, .inl (cI, 9, .inl fb)), (oh, .inl (cI, 10000, .inl fc)), (ok_, .inl (cI, 166400, .inl fk)), (oK, .inl (cI, 64, .inl fK)), (og, .inl (cI, 32, .inl fs)), (on_, .inl (cI, 32, .inl fn))] := hD
            show W p l e R s m args below meth c H locs _ _ Q (F0 m 82 ls [.int (iZ 0)])
            have hP9 : va_P D cls0 [(mo, .inr (8, [.int (iZ 3), .int (iZ (np : Int)), .ref ow, .ref om, .ref ok_, .ref oK, .ref og, .ref on_, .ref oh, .ref ox, .int qn, .int qf, .ref op_, .int ql])), (ow, .inl (cI, 108000, .inl fa)), (om, .inl (cI, 9, .inl fb)), (oh, .inl (cI, 10000, .inl fc)), (ok_, .inl (cI, 166400, .inl fk)), (oK, .inl (cI, 64, .inl fK)), (og, .inl (cI, 32, .inl fs)), (on_, .inl (cI, 32, .inl fn))] H := hP.sub [0, 1, 2, 3, 4, 5, 6, 7] rfl
            have hD9 : va_D A [(mo, .inr (8, [.int (iZ 3), .int (iZ (np : Int)), .ref ow, .ref om, .ref ok_, .ref oK, .ref og, .ref on_, .ref oh, .ref ox, .int qn, .int qf, .ref op_, .int ql])), (ow, .inl (cI, 108000, .inl fa)), (om, .inl (cI, 9, .inl fb)), (oh, .inl (cI, 10000, .inl fc)), (ok_, .inl (cI, 166400, .inl fk)), (oK, .inl (cI, 64, .inl fK)), (og, .inl (cI, 32, .inl fs)), (on_, .inl (cI, 32, .inl fn))] := hD.sub [0, 1, 2, 3, 4, 5, 6, 7] (by decide) rfl
            rw [hQ, ← hAe]
            refine r_i (v := (iZ 0)) K (fa, fb, fc, v9) hS d_Mo_set_82 ?_ (fun t ht hv => ?_)
            · exact ⟨rfl, w9⟩
            · exact ⟨by rw [ht]; exact hP9, va_K.moved hv hK, by rw [← hAe]; exact hD9⟩
        · refine lv_iconst (v := iZ (1)) hx hb d_Mo_set_65 (by decide +kernel) ?_
          refine lv_goto (tgt := 70) hx hb d_Mo_set_66 (by decide) ?_
          refine zz_icmp_ne (tgt := 77) hx hb d_Mo_set_70 (by decide) (by omega) (by omega) (fun c70 => ?_) (fun c70 => ?_)
          · refine lv_iconst (v := iZ (-1)) hx hb d_Mo_set_77 (by decide +kernel) ?_
            refine lv_iconst (v := iZ (3)) hx hb d_Mo_set_78 (by decide +kernel) ?_
            refine cv (n := 3) (wr := []) (w1 := (fun (u : (Nat → Int32) × (Nat → Int32) × (Nat → Int32) × (Nat → Nat)) => [(mo, .inr (8, [.int (iZ 3), .int (iZ (np : Int)), .ref ow, .ref om, .ref ok_, .ref oK, .ref og, .ref on_, .ref oh, .ref ox, .int qn, .int qf, .ref op_, .int ql])), (ow, .inl (cI, 108000, .inl u.1)), (om, .inl (cI, 9, .inl u.2.1)), (oh, .inl (cI, 10000, .inl u.2.2.1)), (ok_, .inl (cI, 166400, .inl fk)), (oK, .inl (cI, 64, .inl fK)), (og, .inl (cI, 32, .inl fs)), (on_, .inl (cI, 32, .inl fn))])) (As := [.int (iZ (to : Int)), .int (iZ (-1)), .int (iZ 3)]) (rest := []) K hP hD hK hS hA hl.1 (c_Mo_putX l D mo (iZ 0) np ow om ok_ oK og on_ oh ox qn qf op_ ql fx2 fy2 cI fh fk fK fs fn v2 tv bv sg to (-1) 3 H.size w2 hMR (by omega) hnd hnp (by omega) (by decide) (by rw [e1]; omega) (by rw [e0]; exact bn) (by rw [e1]; exact bd) (by rw [e0, e1]; exact hfit)) [5, 6, 7, 0, 1, 2, 3, 4] [] [0] rfl rfl rfl (by decide) (by decide) (by decide) 0 rfl rfl (big_in mw_1185 rfl) (big_in mw_10 rfl) (big_in mw_1182 rfl) (big_in mw_1184 rfl) (big_in sp_20 rfl) rfl rfl (by decide +kernel) ⟨by rw [hR]; exact Nat.le_of_ble_eq_true rfl, by rw [hR]; exact Nat.le_of_ble_eq_true rfl⟩ rfl (Nat.le_of_ble_eq_true rfl) d_Mo_set_79 ⟨by rw [hR]; exact Nat.le_of_ble_eq_true rfl, by rw [hR]; exact Nat.le_of_ble_eq_true rfl⟩ rfl (fun v u H locs hp7 hP hD hS _ => ?_)
            obtain ⟨fa, fb, fc, v9⟩ := u
            try dsimp only at hp7
            obtain ⟨rfl, w9⟩ := hp7
            have hP : va_P D cls0 [(mo, .inr (8, [.int (iZ 3), .int (iZ (np : Int)), .ref ow, .ref om, .ref ok_, .ref oK, .ref og, .ref on_, .ref oh, .ref ox, .int qn, .int qf, .ref op_, .int ql])), (ow, .inl (cI, 108000, .inl fa)), (om, .inl (cI, 9, .inl fb)), (oh, .inl (cI, 10000, .inl fc)), (ok_, .inl (cI, 166400, .inl fk)), (oK, .inl (cI, 64, .inl fK)), (og, .inl (cI, 32, .inl fs)), (on_, .inl (cI, 32, .inl fn))] H := hP
            have hD : va_D A [(mo, .inr (8, [.int (iZ 3), .int (iZ (np : Int)), .ref ow, .ref om, .ref ok_, .ref oK, .ref og, .ref on_, .ref oh, .ref ox, .int qn, .int qf, .ref op_, .int ql])), (ow, .inl (cI, 108000, .inl fa)), (om, .inl (cI, 9, .inl fb)), (oh, .inl (cI, 10000, .inl fc)), (ok_, .inl (cI, 166400, .inl fk)), (oK, .inl (cI, 64, .inl fK)), (og, .inl (cI, 32, .inl fs)), (on_, .inl (cI, 32, .inl fn))] := hD
            show W p l e R s m args below meth c H locs _ _ Q (F0 m 82 ls [.int (iZ 0)])
            have hP9 : va_P D cls0 [(mo, .inr (8, [.int (iZ 3), .int (iZ (np : Int)), .ref ow, .ref om, .ref ok_, .ref oK, .ref og, .ref on_, .ref oh, .ref ox, .int qn, .int qf, .ref op_, .int ql])), (ow, .inl (cI, 108000, .inl fa)), (om, .inl (cI, 9, .inl fb)), (oh, .inl (cI, 10000, .inl fc)), (ok_, .inl (cI, 166400, .inl fk)), (oK, .inl (cI, 64, .inl fK)), (og, .inl (cI, 32, .inl fs)), (on_, .inl (cI, 32, .inl fn))] H := hP.sub [0, 1, 2, 3, 4, 5, 6, 7] rfl
            have hD9 : va_D A [(mo, .inr (8, [.int (iZ 3), .int (iZ (np : Int)), .ref ow, .ref om, .ref ok_, .ref oK, .ref og, .ref on_, .ref oh, .ref ox, .int qn, .int qf, .ref op_, .int ql])), (ow, .inl (cI, 108000, .inl fa)), (om, .inl (cI, 9, .inl fb)), (oh, .inl (cI, 10000, .inl fc)), (ok_, .inl (cI, 166400, .inl fk)), (oK, .inl (cI, 64, .inl fK)), (og, .inl (cI, 32, .inl fs)), (on_, .inl (cI, 32, .inl fn))] := hD.sub [0, 1, 2, 3, 4, 5, 6, 7] (by decide) rfl
            rw [hQ, ← hAe]
            refine r_i (v := (iZ 0)) K (fa, fb, fc, v9) hS d_Mo_set_82 ?_ (fun t ht hv => ?_)
            · exact ⟨rfl, w9⟩
            · exact ⟨by rw [ht]; exact hP9, va_K.moved hv hK, by rw [← hAe]; exact hD9⟩
          · refine lv_iconst (v := iZ (1)) hx hb d_Mo_set_73 (by decide +kernel) ?_
            refine lv_goto (tgt := 78) hx hb d_Mo_set_74 (by decide) ?_
            refine lv_iconst (v := iZ (3)) hx hb d_Mo_set_78 (by decide +kernel) ?_
            refine cv (n := 3) (wr := []) (w1 := (fun (u : (Nat → Int32) × (Nat → Int32) × (Nat → Int32) × (Nat → Nat)) => [(mo, .inr (8, [.int (iZ 3), .int (iZ (np : Int)), .ref ow, .ref om, .ref ok_, .ref oK, .ref og, .ref on_, .ref oh, .ref ox, .int qn, .int qf, .ref op_, .int ql])), (ow, .inl (cI, 108000, .inl u.1)), (om, .inl (cI, 9, .inl u.2.1)), (oh, .inl (cI, 10000, .inl u.2.2.1)), (ok_, .inl (cI, 166400, .inl fk)), (oK, .inl (cI, 64, .inl fK)), (og, .inl (cI, 32, .inl fs)), (on_, .inl (cI, 32, .inl fn))])) (As := [.int (iZ (to : Int)), .int (iZ 1), .int (iZ 3)]) (rest := []) K hP hD hK hS hA hl.1 (c_Mo_putX l D mo (iZ 0) np ow om ok_ oK og on_ oh ox qn qf op_ ql fx2 fy2 cI fh fk fK fs fn v2 tv bv sg to 1 3 H.size w2 hMR (by omega) hnd hnp (by omega) (by decide) (by rw [e1]; omega) (by rw [e0]; exact bn) (by rw [e1]; exact bd) (by rw [e0, e1]; exact hfit)) [5, 6, 7, 0, 1, 2, 3, 4] [] [0] rfl rfl rfl (by decide) (by decide) (by decide) 0 rfl rfl (big_in mw_1185 rfl) (big_in mw_10 rfl) (big_in mw_1182 rfl) (big_in mw_1184 rfl) (big_in sp_20 rfl) rfl rfl (by decide +kernel) ⟨by rw [hR]; exact Nat.le_of_ble_eq_true rfl, by rw [hR]; exact Nat.le_of_ble_eq_true rfl⟩ rfl (Nat.le_of_ble_eq_true rfl) d_Mo_set_79 ⟨by rw [hR]; exact Nat.le_of_ble_eq_true rfl, by rw [hR]; exact Nat.le_of_ble_eq_true rfl⟩ rfl (fun v u H locs hp8 hP hD hS _ => ?_)
            obtain ⟨fa, fb, fc, v9⟩ := u
            try dsimp only at hp8
            obtain ⟨rfl, w9⟩ := hp8
            have hP : va_P D cls0 [(mo, .inr (8, [.int (iZ 3), .int (iZ (np : Int)), .ref ow, .ref om, .ref ok_, .ref oK, .ref og, .ref on_, .ref oh, .ref ox, .int qn, .int qf, .ref op_, .int ql])), (ow, .inl (cI, 108000, .inl fa)), (om, .inl (cI, 9, .inl fb)), (oh, .inl (cI, 10000, .inl fc)), (ok_, .inl (cI, 166400, .inl fk)), (oK, .inl (cI, 64, .inl fK)), (og, .inl (cI, 32, .inl fs)), (on_, .inl (cI, 32, .inl fn))] H := hP
            have hD : va_D A [(mo, .inr (8, [.int (iZ 3), .int (iZ (np : Int)), .ref ow, .ref om, .ref ok_, .ref oK, .ref og, .ref on_, .ref oh, .ref ox, .int qn, .int qf, .ref op_, .int ql])), (ow, .inl (cI, 108000, .inl fa)), (om, .inl (cI, 9, .inl fb)), (oh, .inl (cI, 10000, .inl fc)), (ok_, .inl (cI, 166400, .inl fk)), (oK, .inl (cI, 64, .inl fK)), (og, .inl (cI, 32, .inl fs)), (on_, .inl (cI, 32, .inl fn))] := hD
            show W p l e R s m args below meth c H locs _ _ Q (F0 m 82 ls [.int (iZ 0)])
            have hP9 : va_P D cls0 [(mo, .inr (8, [.int (iZ 3), .int (iZ (np : Int)), .ref ow, .ref om, .ref ok_, .ref oK, .ref og, .ref on_, .ref oh, .ref ox, .int qn, .int qf, .ref op_, .int ql])), (ow, .inl (cI, 108000, .inl fa)), (om, .inl (cI, 9, .inl fb)), (oh, .inl (cI, 10000, .inl fc)), (ok_, .inl (cI, 166400, .inl fk)), (oK, .inl (cI, 64, .inl fK)), (og, .inl (cI, 32, .inl fs)), (on_, .inl (cI, 32, .inl fn))] H := hP.sub [0, 1, 2, 3, 4, 5, 6, 7] rfl
            have hD9 : va_D A [(mo, .inr (8, [.int (iZ 3), .int (iZ (np : Int)), .ref ow, .ref om, .ref ok_, .ref oK, .ref og, .ref on_, .ref oh, .ref ox, .int qn, .int qf, .ref op_, .int ql])), (ow, .inl (cI, 108000, .inl fa)), (om, .inl (cI, 9, .inl fb)), (oh, .inl (cI, 10000, .inl fc)), (ok_, .inl (cI, 166400, .inl fk)), (oK, .inl (cI, 64, .inl fK)), (og, .inl (cI, 32, .inl fs)), (on_, .inl (cI, 32, .inl fn))] := hD.sub [0, 1, 2, 3, 4, 5, 6, 7] (by decide) rfl
            rw [hQ, ← hAe]
            refine r_i (v := (iZ 0)) K (fa, fb, fc, v9) hS d_Mo_set_82 ?_ (fun t ht hv => ?_)
            · exact ⟨rfl, w9⟩
            · exact ⟨by rw [ht]; exact hP9, va_K.moved hv hK, by rw [← hAe]; exact hD9⟩
      · refine lv_iconst (v := iZ (1)) hx hb d_Mo_set_53 (by decide +kernel) ?_
        refine lv_goto (tgt := 58) hx hb d_Mo_set_54 (by decide) ?_
        refine lv_lload hx hb d_Mo_set_58 (lv_at hl 3 rfl) ?_
        refine lv_lconst (v := lZ (0)) hx hb d_Mo_set_60 (by decide +kernel) ?_
        refine zz_lcmp_ge (tgt := 69) hx hb d_Mo_set_61 d_Mo_set_62 (by decide) (by omega) (by omega) (fun c61 => ?_) (fun c61 => ?_)
        · refine lv_iconst (v := iZ (0)) hx hb d_Mo_set_69 (by decide +kernel) ?_
          refine zz_icmp_ne (tgt := 77) hx hb d_Mo_set_70 (by decide) (by omega) (by omega) (fun c70 => ?_) (fun c70 => ?_)
          · refine lv_iconst (v := iZ (-1)) hx hb d_Mo_set_77 (by decide +kernel) ?_
            refine lv_iconst (v := iZ (3)) hx hb d_Mo_set_78 (by decide +kernel) ?_
            refine cv (n := 3) (wr := []) (w1 := (fun (u : (Nat → Int32) × (Nat → Int32) × (Nat → Int32) × (Nat → Nat)) => [(mo, .inr (8, [.int (iZ 3), .int (iZ (np : Int)), .ref ow, .ref om, .ref ok_, .ref oK, .ref og, .ref on_, .ref oh, .ref ox, .int qn, .int qf, .ref op_, .int ql])), (ow, .inl (cI, 108000, .inl u.1)), (om, .inl (cI, 9, .inl u.2.1)), (oh, .inl (cI, 10000, .inl u.2.2.1)), (ok_, .inl (cI, 166400, .inl fk)), (oK, .inl (cI, 64, .inl fK)), (og, .inl (cI, 32, .inl fs)), (on_, .inl (cI, 32, .inl fn))])) (As := [.int (iZ (to : Int)), .int (iZ (-1)), .int (iZ 3)]) (rest := []) K hP hD hK hS hA hl.1 (c_Mo_putX l D mo (iZ 0) np ow om ok_ oK og on_ oh ox qn qf op_ ql fx2 fy2 cI fh fk fK fs fn v2 tv bv sg to (-1) 3 H.size w2 hMR (by omega) hnd hnp (by omega) (by decide) (by rw [e1]; omega) (by rw [e0]; exact bn) (by rw [e1]; exact bd) (by rw [e0, e1]; exact hfit)) [5, 6, 7, 0, 1, 2, 3, 4] [] [0] rfl rfl rfl (by decide) (by decide) (by decide) 0 rfl rfl (big_in mw_1185 rfl) (big_in mw_10 rfl) (big_in mw_1182 rfl) (big_in mw_1184 rfl) (big_in sp_20 rfl) rfl rfl (by decide +kernel) ⟨by rw [hR]; exact Nat.le_of_ble_eq_true rfl, by rw [hR]; exact Nat.le_of_ble_eq_true rfl⟩ rfl (Nat.le_of_ble_eq_true rfl) d_Mo_set_79 ⟨by rw [hR]; exact Nat.le_of_ble_eq_true rfl, by rw [hR]; exact Nat.le_of_ble_eq_true rfl⟩ rfl (fun v u H locs hp9 hP hD hS _ => ?_)
            obtain ⟨fa, fb, fc, v9⟩ := u
            try dsimp only at hp9
            obtain ⟨rfl, w9⟩ := hp9
            have hP : va_P D cls0 [(mo, .inr (8, [.int (iZ 3), .int (iZ (np : Int)), .ref ow, .ref om, .ref ok_, .ref oK, .ref og, .ref on_, .ref oh, .ref ox, .int qn, .int qf, .ref op_, .int ql])), (ow, .inl (cI, 108000, .inl fa)), (om, .inl (cI, 9, .inl fb)), (oh, .inl (cI, 10000, .inl fc)), (ok_, .inl (cI, 166400, .inl fk)), (oK, .inl (cI, 64, .inl fK)), (og, .inl (cI, 32, .inl fs)), (on_, .inl (cI, 32, .inl fn))] H := hP
            have hD : va_D A [(mo, .inr (8, [.int (iZ 3), .int (iZ (np : Int)), .ref ow, .ref om, .ref ok_, .ref oK, .ref og, .ref on_, .ref oh, .ref ox, .int qn, .int qf, .ref op_, .int ql])), (ow, .inl (cI, 108000, .inl fa)), (om, .inl (cI, 9, .inl fb)), (oh, .inl (cI, 10000, .inl fc)), (ok_, .inl (cI, 166400, .inl fk)), (oK, .inl (cI, 64, .inl fK)), (og, .inl (cI, 32, .inl fs)), (on_, .inl (cI, 32, .inl fn))] := hD
            show W p l e R s m args below meth c H locs _ _ Q (F0 m 82 ls [.int (iZ 0)])
            have hP9 : va_P D cls0 [(mo, .inr (8, [.int (iZ 3), .int (iZ (np : Int)), .ref ow, .ref om, .ref ok_, .ref oK, .ref og, .ref on_, .ref oh, .ref ox, .int qn, .int qf, .ref op_, .int ql])), (ow, .inl (cI, 108000, .inl fa)), (om, .inl (cI, 9, .inl fb)), (oh, .inl (cI, 10000, .inl fc)), (ok_, .inl (cI, 166400, .inl fk)), (oK, .inl (cI, 64, .inl fK)), (og, .inl (cI, 32, .inl fs)), (on_, .inl (cI, 32, .inl fn))] H := hP.sub [0, 1, 2, 3, 4, 5, 6, 7] rfl
            have hD9 : va_D A [(mo, .inr (8, [.int (iZ 3), .int (iZ (np : Int)), .ref ow, .ref om, .ref ok_, .ref oK, .ref og, .ref on_, .ref oh, .ref ox, .int qn, .int qf, .ref op_, .int ql])), (ow, .inl (cI, 108000, .inl fa)), (om, .inl (cI, 9, .inl fb)), (oh, .inl (cI, 10000, .inl fc)), (ok_, .inl (cI, 166400, .inl fk)), (oK, .inl (cI, 64, .inl fK)), (og, .inl (cI, 32, .inl fs)), (on_, .inl (cI, 32, .inl fn))] := hD.sub [0, 1, 2, 3, 4, 5, 6, 7] (by decide) rfl
            rw [hQ, ← hAe]
            refine r_i (v := (iZ 0)) K (fa, fb, fc, v9) hS d_Mo_set_82 ?_ (fun t ht hv => ?_)
            · exact ⟨rfl, w9⟩
            · exact ⟨by rw [ht]; exact hP9, va_K.moved hv hK, by rw [← hAe]; exact hD9⟩
          · refine lv_iconst (v := iZ (1)) hx hb d_Mo_set_73 (by decide +kernel) ?_
            refine lv_goto (tgt := 78) hx hb d_Mo_set_74 (by decide) ?_
            refine lv_iconst (v := iZ (3)) hx hb d_Mo_set_78 (by decide +kernel) ?_
            refine cv (n := 3) (wr := []) (w1 := (fun (u : (Nat → Int32) × (Nat → Int32) × (Nat → Int32) × (Nat → Nat)) => [(mo, .inr (8, [.int (iZ 3), .int (iZ (np : Int)), .ref ow, .ref om, .ref ok_, .ref oK, .ref og, .ref on_, .ref oh, .ref ox, .int qn, .int qf, .ref op_, .int ql])), (ow, .inl (cI, 108000, .inl u.1)), (om, .inl (cI, 9, .inl u.2.1)), (oh, .inl (cI, 10000, .inl u.2.2.1)), (ok_, .inl (cI, 166400, .inl fk)), (oK, .inl (cI, 64, .inl fK)), (og, .inl (cI, 32, .inl fs)), (on_, .inl (cI, 32, .inl fn))])) (As := [.int (iZ (to : Int)), .int (iZ 1), .int (iZ 3)]) (rest := []) K hP hD hK hS hA hl.1 (c_Mo_putX l D mo (iZ 0) np ow om ok_ oK og on_ oh ox qn qf op_ ql fx2 fy2 cI fh fk fK fs fn v2 tv bv sg to 1 3 H.size w2 hMR (by omega) hnd hnp (by omega) (by decide) (by rw [e1]; omega) (by rw [e0]; exact bn) (by rw [e1]; exact bd) (by rw [e0, e1]; exact hfit)) [5, 6, 7, 0, 1, 2, 3, 4] [] [0] rfl rfl rfl (by decide) (by decide) (by decide) 0 rfl rfl (big_in mw_1185 rfl) (big_in mw_10 rfl) (big_in mw_1182 rfl) (big_in mw_1184 rfl) (big_in sp_20 rfl) rfl rfl (by decide +kernel) ⟨by rw [hR]; exact Nat.le_of_ble_eq_true rfl, by rw [hR]; exact Nat.le_of_ble_eq_true rfl⟩ rfl (Nat.le_of_ble_eq_true rfl) d_Mo_set_79 ⟨by rw [hR]; exact Nat.le_of_ble_eq_true rfl, by rw [hR]; exact Nat.le_of_ble_eq_true rfl⟩ rfl (fun v u H locs hp10 hP hD hS _ => ?_)
            obtain ⟨fa, fb, fc, v9⟩ := u
            try dsimp only at hp10
            obtain ⟨rfl, w9⟩ := hp10
            have hP : va_P D cls0 [(mo, .inr (8, [.int (iZ 3), .int (iZ (np : Int)), .ref ow, .ref om, .ref ok_, .ref oK, .ref og, .ref on_, .ref oh, .ref ox, .int qn, .int qf, .ref op_, .int ql])), (ow, .inl (cI, 108000, .inl fa)), (om, .inl (cI, 9, .inl fb)), (oh, .inl (cI, 10000, .inl fc)), (ok_, .inl (cI, 166400, .inl fk)), (oK, .inl (cI, 64, .inl fK)), (og, .inl (cI, 32, .inl fs)), (on_, .inl (cI, 32, .inl fn))] H := hP
            have hD : va_D A [(mo, .inr (8, [.int (iZ 3), .int (iZ (np : Int)), .ref ow, .ref om, .ref ok_, .ref oK, .ref og, .ref on_, .ref oh, .ref ox, .int qn, .int qf, .ref op_, .int ql])), (ow, .inl (cI, 108000, .inl fa)), (om, .inl (cI, 9, .inl fb)), (oh, .inl (cI, 10000, .inl fc)), (ok_, .inl (cI, 166400, .inl fk)), (oK, .inl (cI, 64, .inl fK)), (og, .inl (cI, 32, .inl fs)), (on_, .inl (cI, 32, .inl fn))] := hD
            show W p l e R s m args below meth c H locs _ _ Q (F0 m 82 ls [.int (iZ 0)])
            have hP9 : va_P D cls0 [(mo, .inr (8, [.int (iZ 3), .int (iZ (np : Int)), .ref ow, .ref om, .ref ok_, .ref oK, .ref og, .ref on_, .ref oh, .ref ox, .int qn, .int qf, .ref op_, .int ql])), (ow, .inl (cI, 108000, .inl fa)), (om, .inl (cI, 9, .inl fb)), (oh, .inl (cI, 10000, .inl fc)), (ok_, .inl (cI, 166400, .inl fk)), (oK, .inl (cI, 64, .inl fK)), (og, .inl (cI, 32, .inl fs)), (on_, .inl (cI, 32, .inl fn))] H := hP.sub [0, 1, 2, 3, 4, 5, 6, 7] rfl
            have hD9 : va_D A [(mo, .inr (8, [.int (iZ 3), .int (iZ (np : Int)), .ref ow, .ref om, .ref ok_, .ref oK, .ref og, .ref on_, .ref oh, .ref ox, .int qn, .int qf, .ref op_, .int ql])), (ow, .inl (cI, 108000, .inl fa)), (om, .inl (cI, 9, .inl fb)), (oh, .inl (cI, 10000, .inl fc)), (ok_, .inl (cI, 166400, .inl fk)), (oK, .inl (cI, 64, .inl fK)), (og, .inl (cI, 32, .inl fs)), (on_, .inl (cI, 32, .inl fn))] := hD.sub [0, 1, 2, 3, 4, 5, 6, 7] (by decide) rfl
            rw [hQ, ← hAe]
            refine r_i (v := (iZ 0)) K (fa, fb, fc, v9) hS d_Mo_set_82 ?_ (fun t ht hv => ?_)
            · exact ⟨rfl, w9⟩
            · exact ⟨by rw [ht]; exact hP9, va_K.moved hv hK, by rw [← hAe]; exact hD9⟩
        · refine lv_iconst (v := iZ (1)) hx hb d_Mo_set_65 (by decide +kernel) ?_
          refine lv_goto (tgt := 70) hx hb d_Mo_set_66 (by decide) ?_
          refine zz_icmp_ne (tgt := 77) hx hb d_Mo_set_70 (by decide) (by omega) (by omega) (fun c70 => ?_) (fun c70 => ?_)
          · refine lv_iconst (v := iZ (-1)) hx hb d_Mo_set_77 (by decide +kernel) ?_
            refine lv_iconst (v := iZ (3)) hx hb d_Mo_set_78 (by decide +kernel) ?_
            refine cv (n := 3) (wr := []) (w1 := (fun (u : (Nat → Int32) × (Nat → Int32) × (Nat → Int32) × (Nat → Nat)) => [(mo, .inr (8, [.int (iZ 3), .int (iZ (np : Int)), .ref ow, .ref om, .ref ok_, .ref oK, .ref og, .ref on_, .ref oh, .ref ox, .int qn, .int qf, .ref op_, .int ql])), (ow, .inl (cI, 108000, .inl u.1)), (om, .inl (cI, 9, .inl u.2.1)), (oh, .inl (cI, 10000, .inl u.2.2.1)), (ok_, .inl (cI, 166400, .inl fk)), (oK, .inl (cI, 64, .inl fK)), (og, .inl (cI, 32, .inl fs)), (on_, .inl (cI, 32, .inl fn))])) (As := [.int (iZ (to : Int)), .int (iZ (-1)), .int (iZ 3)]) (rest := []) K hP hD hK hS hA hl.1 (c_Mo_putX l D mo (iZ 0) np ow om ok_ oK og on_ oh ox qn qf op_ ql fx2 fy2 cI fh fk fK fs fn v2 tv bv sg to (-1) 3 H.size w2 hMR (by omega) hnd hnp (by omega) (by decide) (by rw [e1]; omega) (by rw [e0]; exact bn) (by rw [e1]; exact bd) (by rw [e0, e1]; exact hfit)) [5, 6, 7, 0, 1, 2, 3, 4] [] [0] rfl rfl rfl (by decide) (by decide) (by decide) 0 rfl rfl (big_in mw_1185 rfl) (big_in mw_10 rfl) (big_in mw_1182 rfl) (big_in mw_1184 rfl) (big_in sp_20 rfl) rfl rfl (by decide +kernel) ⟨by rw [hR]; exact Nat.le_of_ble_eq_true rfl, by rw [hR]; exact Nat.le_of_ble_eq_true rfl⟩ rfl (Nat.le_of_ble_eq_true rfl) d_Mo_set_79 ⟨by rw [hR]; exact Nat.le_of_ble_eq_true rfl, by rw [hR]; exact Nat.le_of_ble_eq_true rfl⟩ rfl (fun v u H locs hp11 hP hD hS _ => ?_)
            obtain ⟨fa, fb, fc, v9⟩ := u
            try dsimp only at hp11
            obtain ⟨rfl, w9⟩ := hp11
            have hP : va_P D cls0 [(mo, .inr (8, [.int (iZ 3), .int (iZ (np : Int)), .ref ow, .ref om, .ref ok_, .ref oK, .ref og, .ref on_, .ref oh, .ref ox, .int qn, .int qf, .ref op_, .int ql])), (ow, .inl (cI, 108000, .inl fa)), (om, .inl (cI, 9, .inl fb)), (oh, .inl (cI, 10000, .inl fc)), (ok_, .inl (cI, 166400, .inl fk)), (oK, .inl (cI, 64, .inl fK)), (og, .inl (cI, 32, .inl fs)), (on_, .inl (cI, 32, .inl fn))] H := hP
            have hD : va_D A [(mo, .inr (8, [.int (iZ 3), .int (iZ (np : Int)), .ref ow, .ref om, .ref ok_, .ref oK, .ref og, .ref on_, .ref oh, .ref ox, .int qn, .int qf, .ref op_, .int ql])), (ow, .inl (cI, 108000, .inl fa)), (om, .inl (cI, 9, .inl fb)), (oh, .inl (cI, 10000, .inl fc)), (ok_, .inl (cI, 166400, .inl fk)), (oK, .inl (cI, 64, .inl fK)), (og, .inl (cI, 32, .inl fs)), (on_, .inl (cI, 32, .inl fn))] := hD
            show W p l e R s m args below meth c H locs _ _ Q (F0 m 82 ls [.int (iZ 0)])
            have hP9 : va_P D cls0 [(mo, .inr (8, [.int (iZ 3), .int (iZ (np : Int)), .ref ow, .ref om, .ref ok_, .ref oK, .ref og, .ref on_, .ref oh, .ref ox, .int qn, .int qf, .ref op_, .int ql])), (ow, .inl (cI, 108000, .inl fa)), (om, .inl (cI, 9, .inl fb)), (oh, .inl (cI, 10000, .inl fc)), (ok_, .inl (cI, 166400, .inl fk)), (oK, .inl (cI, 64, .inl fK)), (og, .inl (cI, 32, .inl fs)), (on_, .inl (cI, 32, .inl fn))] H := hP.sub [0, 1, 2, 3, 4, 5, 6, 7] rfl
            have hD9 : va_D A [(mo, .inr (8, [.int (iZ 3), .int (iZ (np : Int)), .ref ow, .ref om, .ref ok_, .ref oK, .ref og, .ref on_, .ref oh, .ref ox, .int qn, .int qf, .ref op_, .int ql])), (ow, .inl (cI, 108000, .inl fa)), (om, .inl (cI, 9, .inl fb)), (oh, .inl (cI, 10000, .inl fc)), (ok_, .inl (cI, 166400, .inl fk)), (oK, .inl (cI, 64, .inl fK)), (og, .inl (cI, 32, .inl fs)), (on_, .inl (cI, 32, .inl fn))] := hD.sub [0, 1, 2, 3, 4, 5, 6, 7] (by decide) rfl
            rw [hQ, ← hAe]
            refine r_i (v := (iZ 0)) K (fa, fb, fc, v9) hS d_Mo_set_82 ?_ (fun t ht hv => ?_)
            · exact ⟨rfl, w9⟩
            · exact ⟨by rw [ht]; exact hP9, va_K.moved hv hK, by rw [← hAe]; exact hD9⟩
          · refine lv_iconst (v := iZ (1)) hx hb d_Mo_set_73 (by decide +kernel) ?_
            refine lv_goto (tgt := 78) hx hb d_Mo_set_74 (by decide) ?_
            refine lv_iconst (v := iZ (3)) hx hb d_Mo_set_78 (by decide +kernel) ?_
            refine cv (n := 3) (wr := []) (w1 := (fun (u : (Nat → Int32) × (Nat → Int32) × (Nat → Int32) × (Nat → Nat)) => [(mo, .inr (8, [.int (iZ 3), .int (iZ (np : Int)), .ref ow, .ref om, .ref ok_, .ref oK, .ref og, .ref on_, .ref oh, .ref ox, .int qn, .int qf, .ref op_, .int ql])), (ow, .inl (cI, 108000, .inl u.1)), (om, .inl (cI, 9, .inl u.2.1)), (oh, .inl (cI, 10000, .inl u.2.2.1)), (ok_, .inl (cI, 166400, .inl fk)), (oK, .inl (cI, 64, .inl fK)), (og, .inl (cI, 32, .inl fs)), (on_, .inl (cI, 32, .inl fn))])) (As := [.int (iZ (to : Int)), .int (iZ 1), .int (iZ 3)]) (rest := []) K hP hD hK hS hA hl.1 (c_Mo_putX l D mo (iZ 0) np ow om ok_ oK og on_ oh ox qn qf op_ ql fx2 fy2 cI fh fk fK fs fn v2 tv bv sg to 1 3 H.size w2 hMR (by omega) hnd hnp (by omega) (by decide) (by rw [e1]; omega) (by rw [e0]; exact bn) (by rw [e1]; exact bd) (by rw [e0, e1]; exact hfit)) [5, 6, 7, 0, 1, 2, 3, 4] [] [0] rfl rfl rfl (by decide) (by decide) (by decide) 0 rfl rfl (big_in mw_1185 rfl) (big_in mw_10 rfl) (big_in mw_1182 rfl) (big_in mw_1184 rfl) (big_in sp_20 rfl) rfl rfl (by decide +kernel) ⟨by rw [hR]; exact Nat.le_of_ble_eq_true rfl, by rw [hR]; exact Nat.le_of_ble_eq_true rfl⟩ rfl (Nat.le_of_ble_eq_true rfl) d_Mo_set_79 ⟨by rw [hR]; exact Nat.le_of_ble_eq_true rfl, by rw [hR]; exact Nat.le_of_ble_eq_true rfl⟩ rfl (fun v u H locs hp12 hP hD hS _ => ?_)
            obtain ⟨fa, fb, fc, v9⟩ := u
            try dsimp only at hp12
            obtain ⟨rfl, w9⟩ := hp12
            have hP : va_P D cls0 [(mo, .inr (8, [.int (iZ 3), .int (iZ (np : Int)), .ref ow, .ref om, .ref ok_, .ref oK, .ref og, .ref on_, .ref oh, .ref ox, .int qn, .int qf, .ref op_, .int ql])), (ow, .inl (cI, 108000, .inl fa)), (om, .inl (cI, 9, .inl fb)), (oh, .inl (cI, 10000, .inl fc)), (ok_, .inl (cI, 166400, .inl fk)), (oK, .inl (cI, 64, .inl fK)), (og, .inl (cI, 32, .inl fs)), (on_, .inl (cI, 32, .inl fn))] H := hP
            have hD : va_D A [(mo, .inr (8, [.int (iZ 3), .int (iZ (np : Int)), .ref ow, .ref om, .ref ok_, .ref oK, .ref og, .ref on_, .ref oh, .ref ox, .int qn, .int qf, .ref op_, .int ql])), (ow, .inl (cI, 108000, .inl fa)), (om, .inl (cI, 9, .inl fb)), (oh, .inl (cI, 10000, .inl fc)), (ok_, .inl (cI, 166400, .inl fk)), (oK, .inl (cI, 64, .inl fK)), (og, .inl (cI, 32, .inl fs)), (on_, .inl (cI, 32, .inl fn))] := hD
            show W p l e R s m args below meth c H locs _ _ Q (F0 m 82 ls [.int (iZ 0)])
            have hP9 : va_P D cls0 [(mo, .inr (8, [.int (iZ 3), .int (iZ (np : Int)), .ref ow, .ref om, .ref ok_, .ref oK, .ref og, .ref on_, .ref oh, .ref ox, .int qn, .int qf, .ref op_, .int ql])), (ow, .inl (cI, 108000, .inl fa)), (om, .inl (cI, 9, .inl fb)), (oh, .inl (cI, 10000, .inl fc)), (ok_, .inl (cI, 166400, .inl fk)), (oK, .inl (cI, 64, .inl fK)), (og, .inl (cI, 32, .inl fs)), (on_, .inl (cI, 32, .inl fn))] H := hP.sub [0, 1, 2, 3, 4, 5, 6, 7] rfl
            have hD9 : va_D A [(mo, .inr (8, [.int (iZ 3), .int (iZ (np : Int)), .ref ow, .ref om, .ref ok_, .ref oK, .ref og, .ref on_, .ref oh, .ref ox, .int qn, .int qf, .ref op_, .int ql])), (ow, .inl (cI, 108000, .inl fa)), (om, .inl (cI, 9, .inl fb)), (oh, .inl (cI, 10000, .inl fc)), (ok_, .inl (cI, 166400, .inl fk)), (oK, .inl (cI, 64, .inl fK)), (og, .inl (cI, 32, .inl fs)), (on_, .inl (cI, 32, .inl fn))] := hD.sub [0, 1, 2, 3, 4, 5, 6, 7] (by decide) rfl
            rw [hQ, ← hAe]
            refine r_i (v := (iZ 0)) K (fa, fb, fc, v9) hS d_Mo_set_82 ?_ (fun t ht hv => ?_)
            · exact ⟨rfl, w9⟩
            · exact ⟨by rw [ht]; exact hP9, va_K.moved hv hK, by rw [← hAe]; exact hD9⟩
    · refine lv_iconst (v := iZ (2)) hx hb d_Mo_set_19 (by decide +kernel) ?_
      refine lv_goto (tgt := 24) hx hb d_Mo_set_20 (by decide) ?_
      exfalso
      omega
  · refine lv_iconst (v := iZ (1)) hx hb d_Mo_set_8 (by decide +kernel) ?_
    refine lv_goto (tgt := 24) hx hb d_Mo_set_9 (by decide) ?_
    exfalso
    omega
set_option maxHeartbeats 4000000 in
set_option maxRecDepth 100000 in
/-- Mo_set refused with 1 -/
theorem r1_Mo_set (l : Launch) (D : va_G) (mo : Nat) (qc : Int32) (np : Nat) (ow : Nat) (om : Nat) (ok_ : Nat) (oK : Nat) (og : Nat) (on_ : Nat) (oh : Nat) (ox : Nat) (qn : Int32) (qf : Int32) (op_ : Nat) (ql : Int32) (zt : Int) (zn : Int) (zd : Int) (sz : Nat) (hbad : (zt < 0 ∨ 32 ≤ zt)) (hrng : -2147483648 ≤ zt ∧ zt < 2147483648) (hzn : -9223372036854775808 ≤ zn ∧ zn < 9223372036854775808) (hzd : -9223372036854775808 ≤ zd ∧ zd < 9223372036854775808) : Met l y_Mo_set (wsB y_Mo_set b_Mo_set 6 (some .int)) ({ frames := 1, cells := 0, slots := 0, locals := 21 }) (va_Pc [.ref mo, .int (iZ zt), .long (lZ zn), .long (lZ zd)] (wPre D [] [(mo, .inr (8, [.int qc, .int (iZ (np : Int)), .ref ow, .ref om, .ref ok_, .ref oK, .ref og, .ref on_, .ref oh, .ref ox, .int qn, .int qf, .ref op_, .int ql]))] sz)) (va_QV (fun (v_9 : Option Value) (u_9 : Unit) => v_9 = some (.int (iZ 0))) (fun u_9 => wPost D [] [(mo, .inr (8, [.int qc, .int (iZ (np : Int)), .ref ow, .ref om, .ref ok_, .ref oK, .ref og, .ref on_, .ref oh, .ref ox, .int qn, .int qf, .ref op_, .int ql]))] [(mo, .inr (8, [.int (iZ 1), .int (iZ (np : Int)), .ref ow, .ref om, .ref ok_, .ref oK, .ref og, .ref on_, .ref oh, .ref ox, .int qn, .int qf, .ref op_, .int ql]))] sz) (va_A [(mo, .inr (8, [.int qc, .int (iZ (np : Int)), .ref ow, .ref om, .ref ok_, .ref oK, .ref og, .ref on_, .ref oh, .ref ox, .int qn, .int qf, .ref op_, .int ql]))] sz)) 0 0 (va_A [(mo, .inr (8, [.int qc, .int (iZ (np : Int)), .ref ow, .ref om, .ref ok_, .ref oK, .ref og, .ref on_, .ref oh, .ref ox, .int qn, .int qf, .ref op_, .int ql]))] sz) := by
  refine met_enter (by decide +kernel) (Nat.le_of_ble_eq_true rfl) ?_
  intro p e s m args below meth c ls A R Q H locs K hin hAe hA hR hQ hP hK hD hS hl
  obtain ⟨hx, hb, hml, hrt, hlk, hts, hown, hno⟩ := id K
  have hl : lv_has ls 6 [(0, .ref mo), (1, .int (iZ zt)), (2, .long (lZ zn)), (4, .long (lZ zd))] := hl
  refine lv_aload_n hx hb d_Mo_set_0 rfl (lv_at hl 0 rfl) ?_
  refine lv_iload_n hx hb d_Mo_set_1 rfl (lv_at hl 1 rfl) ?_
  refine cs (n := 1) (wr := [(mo, .inr (8, [.int qc, .int (iZ (np : Int)), .ref ow, .ref om, .ref ok_, .ref oK, .ref og, .ref on_, .ref oh, .ref ox, .int qn, .int qf, .ref op_, .int ql]))]) (w1 := (fun (u : Int) => [])) (As := [.int (iZ zt)]) (rest := [.ref mo]) K hP hD hK hS hA hl.1 (c_Mo_isRegister l D zt H.size (by omega)) [] [0] [] rfl rfl rfl (by decide) (by decide) (by decide) (big_in mw_1172 rfl) (big_in mw_10 rfl) (big_in mw_1170 rfl) (big_in mw_1171 rfl) rfl rfl (by decide +kernel) ⟨by rw [hR]; exact Nat.le_of_ble_eq_true rfl, by rw [hR]; exact Nat.le_of_ble_eq_true rfl⟩ rfl (Nat.le_of_ble_eq_true rfl) d_Mo_set_2 ⟨by rw [hR]; exact Nat.le_of_ble_eq_true rfl, by rw [hR]; exact Nat.le_of_ble_eq_true rfl⟩ rfl (fun v u H locs hp1 hP hD hS _ => ?_)
  obtain ⟨r2, rfl⟩ : ∃ z, z = u := ⟨_, rfl⟩
  obtain ⟨rfl, p2⟩ := hp1
  have hP : va_P D cls0 [(mo, .inr (8, [.int qc, .int (iZ (np : Int)), .ref ow, .ref om, .ref ok_, .ref oK, .ref og, .ref on_, .ref oh, .ref ox, .int qn, .int qf, .ref op_, .int ql]))] H := hP
  have hD : va_D A [(mo, .inr (8, [.int qc, .int (iZ (np : Int)), .ref ow, .ref om, .ref ok_, .ref oK, .ref og, .ref on_, .ref oh, .ref ox, .int qn, .int qf, .ref op_, .int ql]))] := hD
  show W p l e R s m args below meth c H locs _ _ Q (F0 m 5 ls [.int (iZ r2), .ref mo])
  have b2 : 0 ≤ r2 ∧ r2 ≤ 1 := by omega
  refine zz_if_ne (tgt := 12) hx hb d_Mo_set_5 (by decide) (by omega) (fun c5 => ?_) (fun c5 => ?_)
  · refine lv_lload hx hb d_Mo_set_12 (lv_at hl 3 rfl) ?_
    refine lv_lconst (v := lZ (0)) hx hb d_Mo_set_14 (by decide +kernel) ?_
    refine zz_lcmp_ne (tgt := 23) hx hb d_Mo_set_15 d_Mo_set_16 (by decide) (by omega) (by omega) (fun c15 => ?_) (fun c15 => ?_)
    · refine lv_iconst (v := iZ (0)) hx hb d_Mo_set_23 (by decide +kernel) ?_
      exfalso
      omega
    · refine lv_iconst (v := iZ (2)) hx hb d_Mo_set_19 (by decide +kernel) ?_
      refine lv_goto (tgt := 24) hx hb d_Mo_set_20 (by decide) ?_
      exfalso
      omega
  · refine lv_iconst (v := iZ (1)) hx hb d_Mo_set_8 (by decide +kernel) ?_
    refine lv_goto (tgt := 24) hx hb d_Mo_set_9 (by decide) ?_
    refine cv (n := 1) (wr := []) (w1 := (fun (u : Int) => [(mo, .inr (8, [.int (iZ 1), .int (iZ (np : Int)), .ref ow, .ref om, .ref ok_, .ref oK, .ref og, .ref on_, .ref oh, .ref ox, .int qn, .int qf, .ref op_, .int ql]))])) (As := [.int (iZ 1)]) (rest := []) K hP hD hK hS hA hl.1 (c_Mo_refuses l D mo qc np ow om ok_ oK og on_ oh ox qn qf op_ ql 1 H.size (by omega)) [0] [] [] rfl rfl rfl (by decide) (by decide) (by decide) 0 rfl rfl (big_in mw_1176 rfl) (big_in mw_10 rfl) (big_in mw_1173 rfl) (big_in mw_1175 rfl) (big_in sp_18 rfl) rfl rfl (by decide +kernel) ⟨by rw [hR]; exact Nat.le_of_ble_eq_true rfl, by rw [hR]; exact Nat.le_of_ble_eq_true rfl⟩ rfl (Nat.le_of_ble_eq_true rfl) d_Mo_set_24 ⟨by rw [hR]; exact Nat.le_of_ble_eq_true rfl, by rw [hR]; exact Nat.le_of_ble_eq_true rfl⟩ rfl (fun v u H locs hp2 hP hD hS _ => ?_)
    obtain ⟨rf, rfl⟩ : ∃ z, z = u := ⟨_, rfl⟩
    obtain ⟨rfl, prf⟩ := hp2
    have hP : va_P D cls0 [(mo, .inr (8, [.int (iZ 1), .int (iZ (np : Int)), .ref ow, .ref om, .ref ok_, .ref oK, .ref og, .ref on_, .ref oh, .ref ox, .int qn, .int qf, .ref op_, .int ql]))] H := hP
    have hD : va_D A [(mo, .inr (8, [.int (iZ 1), .int (iZ (np : Int)), .ref ow, .ref om, .ref ok_, .ref oK, .ref og, .ref on_, .ref oh, .ref ox, .int qn, .int qf, .ref op_, .int ql]))] := hD
    show W p l e R s m args below meth c H locs _ _ Q (F0 m 27 ls [.int (iZ rf)])
    refine zz_if_eq (tgt := 32) hx hb d_Mo_set_27 (by decide) (by omega) (fun c27 => False.elim (by omega)) (fun c27 => ?_)
    refine lv_iconst (v := iZ (0)) hx hb d_Mo_set_30 (by decide +kernel) ?_
    have hP9 : va_P D cls0 [(mo, .inr (8, [.int (iZ 1), .int (iZ (np : Int)), .ref ow, .ref om, .ref ok_, .ref oK, .ref og, .ref on_, .ref oh, .ref ox, .int qn, .int qf, .ref op_, .int ql]))] H := hP.sub [0] rfl
    have hD9 : va_D A [(mo, .inr (8, [.int (iZ 1), .int (iZ (np : Int)), .ref ow, .ref om, .ref ok_, .ref oK, .ref og, .ref on_, .ref oh, .ref ox, .int qn, .int qf, .ref op_, .int ql]))] := hD.sub [0] (by decide) rfl
    rw [hQ, ← hAe]
    refine r_i (v := (iZ 0)) K () hS d_Mo_set_31 ?_ (fun t ht hv => ?_)
    · exact rfl
    · exact ⟨by rw [ht]; exact hP9, va_K.moved hv hK, by rw [← hAe]; exact hD9⟩
set_option maxHeartbeats 4000000 in
set_option maxRecDepth 100000 in
/-- Mo_set refused with 2 -/
theorem r2_Mo_set (l : Launch) (D : va_G) (mo : Nat) (qc : Int32) (np : Nat) (ow : Nat) (om : Nat) (ok_ : Nat) (oK : Nat) (og : Nat) (on_ : Nat) (oh : Nat) (ox : Nat) (qn : Int32) (qf : Int32) (op_ : Nat) (ql : Int32) (to : Nat) (zn : Int) (sz : Nat) (t1 : to < 32) : Met l y_Mo_set (wsB y_Mo_set b_Mo_set 6 (some .int)) ({ frames := 1, cells := 0, slots := 0, locals := 21 }) (va_Pc [.ref mo, .int (iZ (to : Int)), .long (lZ zn), .long (lZ 0)] (wPre D [] [(mo, .inr (8, [.int qc, .int (iZ (np : Int)), .ref ow, .ref om, .ref ok_, .ref oK, .ref og, .ref on_, .ref oh, .ref ox, .int qn, .int qf, .ref op_, .int ql]))] sz)) (va_QV (fun (v_9 : Option Value) (u_9 : Unit) => v_9 = some (.int (iZ 0))) (fun u_9 => wPost D [] [(mo, .inr (8, [.int qc, .int (iZ (np : Int)), .ref ow, .ref om, .ref ok_, .ref oK, .ref og, .ref on_, .ref oh, .ref ox, .int qn, .int qf, .ref op_, .int ql]))] [(mo, .inr (8, [.int (iZ 2), .int (iZ (np : Int)), .ref ow, .ref om, .ref ok_, .ref oK, .ref og, .ref on_, .ref oh, .ref ox, .int qn, .int qf, .ref op_, .int ql]))] sz) (va_A [(mo, .inr (8, [.int qc, .int (iZ (np : Int)), .ref ow, .ref om, .ref ok_, .ref oK, .ref og, .ref on_, .ref oh, .ref ox, .int qn, .int qf, .ref op_, .int ql]))] sz)) 0 0 (va_A [(mo, .inr (8, [.int qc, .int (iZ (np : Int)), .ref ow, .ref om, .ref ok_, .ref oK, .ref og, .ref on_, .ref oh, .ref ox, .int qn, .int qf, .ref op_, .int ql]))] sz) := by
  refine met_enter (by decide +kernel) (Nat.le_of_ble_eq_true rfl) ?_
  intro p e s m args below meth c ls A R Q H locs K hin hAe hA hR hQ hP hK hD hS hl
  obtain ⟨hx, hb, hml, hrt, hlk, hts, hown, hno⟩ := id K
  have hl : lv_has ls 6 [(0, .ref mo), (1, .int (iZ (to : Int))), (2, .long (lZ zn)), (4, .long (lZ 0))] := hl
  refine lv_aload_n hx hb d_Mo_set_0 rfl (lv_at hl 0 rfl) ?_
  refine lv_iload_n hx hb d_Mo_set_1 rfl (lv_at hl 1 rfl) ?_
  refine cs (n := 1) (wr := [(mo, .inr (8, [.int qc, .int (iZ (np : Int)), .ref ow, .ref om, .ref ok_, .ref oK, .ref og, .ref on_, .ref oh, .ref ox, .int qn, .int qf, .ref op_, .int ql]))]) (w1 := (fun (u : Int) => [])) (As := [.int (iZ (to : Int))]) (rest := [.ref mo]) K hP hD hK hS hA hl.1 (c_Mo_isRegister l D (to : Int) H.size (by omega)) [] [0] [] rfl rfl rfl (by decide) (by decide) (by decide) (big_in mw_1172 rfl) (big_in mw_10 rfl) (big_in mw_1170 rfl) (big_in mw_1171 rfl) rfl rfl (by decide +kernel) ⟨by rw [hR]; exact Nat.le_of_ble_eq_true rfl, by rw [hR]; exact Nat.le_of_ble_eq_true rfl⟩ rfl (Nat.le_of_ble_eq_true rfl) d_Mo_set_2 ⟨by rw [hR]; exact Nat.le_of_ble_eq_true rfl, by rw [hR]; exact Nat.le_of_ble_eq_true rfl⟩ rfl (fun v u H locs hp1 hP hD hS _ => ?_)
  obtain ⟨r2, rfl⟩ : ∃ z, z = u := ⟨_, rfl⟩
  obtain ⟨rfl, p2⟩ := hp1
  have hP : va_P D cls0 [(mo, .inr (8, [.int qc, .int (iZ (np : Int)), .ref ow, .ref om, .ref ok_, .ref oK, .ref og, .ref on_, .ref oh, .ref ox, .int qn, .int qf, .ref op_, .int ql]))] H := hP
  have hD : va_D A [(mo, .inr (8, [.int qc, .int (iZ (np : Int)), .ref ow, .ref om, .ref ok_, .ref oK, .ref og, .ref on_, .ref oh, .ref ox, .int qn, .int qf, .ref op_, .int ql]))] := hD
  show W p l e R s m args below meth c H locs _ _ Q (F0 m 5 ls [.int (iZ r2), .ref mo])
  have b2 : 0 ≤ r2 ∧ r2 ≤ 1 := by omega
  refine zz_if_ne (tgt := 12) hx hb d_Mo_set_5 (by decide) (by omega) (fun c5 => ?_) (fun c5 => ?_)
  · refine lv_lload hx hb d_Mo_set_12 (lv_at hl 3 rfl) ?_
    refine lv_lconst (v := lZ (0)) hx hb d_Mo_set_14 (by decide +kernel) ?_
    refine zz_lcmp_ne (tgt := 23) hx hb d_Mo_set_15 d_Mo_set_16 (by decide) (by omega) (by omega) (fun c15 => ?_) (fun c15 => ?_)
    · refine lv_iconst (v := iZ (0)) hx hb d_Mo_set_23 (by decide +kernel) ?_
      exfalso
      omega
    · refine lv_iconst (v := iZ (2)) hx hb d_Mo_set_19 (by decide +kernel) ?_
      refine lv_goto (tgt := 24) hx hb d_Mo_set_20 (by decide) ?_
      refine cv (n := 1) (wr := []) (w1 := (fun (u : Int) => [(mo, .inr (8, [.int (iZ 2), .int (iZ (np : Int)), .ref ow, .ref om, .ref ok_, .ref oK, .ref og, .ref on_, .ref oh, .ref ox, .int qn, .int qf, .ref op_, .int ql]))])) (As := [.int (iZ 2)]) (rest := []) K hP hD hK hS hA hl.1 (c_Mo_refuses l D mo qc np ow om ok_ oK og on_ oh ox qn qf op_ ql 2 H.size (by omega)) [0] [] [] rfl rfl rfl (by decide) (by decide) (by decide) 0 rfl rfl (big_in mw_1176 rfl) (big_in mw_10 rfl) (big_in mw_1173 rfl) (big_in mw_1175 rfl) (big_in sp_18 rfl) rfl rfl (by decide +kernel) ⟨by rw [hR]; exact Nat.le_of_ble_eq_true rfl, by rw [hR]; exact Nat.le_of_ble_eq_true rfl⟩ rfl (Nat.le_of_ble_eq_true rfl) d_Mo_set_24 ⟨by rw [hR]; exact Nat.le_of_ble_eq_true rfl, by rw [hR]; exact Nat.le_of_ble_eq_true rfl⟩ rfl (fun v u H locs hp2 hP hD hS _ => ?_)
      obtain ⟨rf, rfl⟩ : ∃ z, z = u := ⟨_, rfl⟩
      obtain ⟨rfl, prf⟩ := hp2
      have hP : va_P D cls0 [(mo, .inr (8, [.int (iZ 2), .int (iZ (np : Int)), .ref ow, .ref om, .ref ok_, .ref oK, .ref og, .ref on_, .ref oh, .ref ox, .int qn, .int qf, .ref op_, .int ql]))] H := hP
      have hD : va_D A [(mo, .inr (8, [.int (iZ 2), .int (iZ (np : Int)), .ref ow, .ref om, .ref ok_, .ref oK, .ref og, .ref on_, .ref oh, .ref ox, .int qn, .int qf, .ref op_, .int ql]))] := hD
      show W p l e R s m args below meth c H locs _ _ Q (F0 m 27 ls [.int (iZ rf)])
      refine zz_if_eq (tgt := 32) hx hb d_Mo_set_27 (by decide) (by omega) (fun c27 => False.elim (by omega)) (fun c27 => ?_)
      refine lv_iconst (v := iZ (0)) hx hb d_Mo_set_30 (by decide +kernel) ?_
      have hP9 : va_P D cls0 [(mo, .inr (8, [.int (iZ 2), .int (iZ (np : Int)), .ref ow, .ref om, .ref ok_, .ref oK, .ref og, .ref on_, .ref oh, .ref ox, .int qn, .int qf, .ref op_, .int ql]))] H := hP.sub [0] rfl
      have hD9 : va_D A [(mo, .inr (8, [.int (iZ 2), .int (iZ (np : Int)), .ref ow, .ref om, .ref ok_, .ref oK, .ref og, .ref on_, .ref oh, .ref ox, .int qn, .int qf, .ref op_, .int ql]))] := hD.sub [0] (by decide) rfl
      rw [hQ, ← hAe]
      refine r_i (v := (iZ 0)) K () hS d_Mo_set_31 ?_ (fun t ht hv => ?_)
      · exact rfl
      · exact ⟨by rw [ht]; exact hP9, va_K.moved hv hK, by rw [← hAe]; exact hD9⟩
  · refine lv_iconst (v := iZ (1)) hx hb d_Mo_set_8 (by decide +kernel) ?_
    refine lv_goto (tgt := 24) hx hb d_Mo_set_9 (by decide) ?_
    exfalso
    omega
set_option maxHeartbeats 4000000 in
set_option maxRecDepth 100000 in
/-- copy(to, a) -/
theorem c_Mo_copy (l : Launch) (D : va_G) (mo : Nat) (qc : Int32) (np : Nat) (ow : Nat) (om : Nat) (ok_ : Nat) (oK : Nat) (og : Nat) (on_ : Nat) (oh : Nat) (ox : Nat) (qn : Int32) (qf : Int32) (op_ : Nat) (ql : Int32) (fw : Nat → Int32) (fm : Nat → Int32) (cI : ClassId) (fh : Nat → Int32) (fk : Nat → Int32) (fK : Nat → Int32) (fs : Nat → Int32) (fn : Nat → Int32) (val : Nat → Nat) (tv : Nat → Nat) (bv : Nat → Nat) (sg : Nat → Int) (to : Nat) (a : Nat) (sz : Nat) (hW : WB fw fm val) (hMR : MoR fk fK fs fn tv bv sg) (hnd : ndS tv bv 32 ≤ np) (hnp : np ≤ 1024) (J : RgC tv bv sg) (hbv : ∀ r, r < 32 → 0 < bv r) (t1 : to < 32) (t2 : a < 32) (hfit : ndS tv bv 32 + (lm (tv a) + lm (bv a)) ≤ np + (lm (tv to) + lm (bv to))) : Met l y_Mo_copy (wsB y_Mo_copy b_Mo_copy 3 (some .int)) ({ frames := 4, cells := 0, slots := 0, locals := 93 }) (va_Pc [.ref mo, .int (iZ (to : Int)), .int (iZ (a : Int))] (wPre D [(cI, .int)] [(mo, .inr (8, [.int qc, .int (iZ (np : Int)), .ref ow, .ref om, .ref ok_, .ref oK, .ref og, .ref on_, .ref oh, .ref ox, .int qn, .int qf, .ref op_, .int ql])), (ow, .inl (cI, 108000, .inl fw)), (om, .inl (cI, 9, .inl fm)), (oh, .inl (cI, 10000, .inl fh)), (ok_, .inl (cI, 166400, .inl fk)), (oK, .inl (cI, 64, .inl fK)), (og, .inl (cI, 32, .inl fs)), (on_, .inl (cI, 32, .inl fn))] sz)) (va_QV (fun (v_9 : Option Value) (u_9 : (Nat → Int32) × (Nat → Int32) × (Nat → Int32) × (Nat → Int32) × (Nat → Int32) × (Nat → Int32) × (Nat → Int32) × (Nat → Nat)) => v_9 = some (.int (iZ ((lm (tv a) : Int) + (lm (bv a) : Int)))) ∧ (WB u_9.1 u_9.2.1 u_9.2.2.2.2.2.2.2) ∧ (MoR u_9.2.2.2.1 u_9.2.2.2.2.1 u_9.2.2.2.2.2.1 u_9.2.2.2.2.2.2.1 (up tv to (tv a)) (up bv to (bv a)) (up sg to (if tv a = 0 then 0 else sg a)))) (fun u_9 => wPost D [(cI, .int)] [(mo, .inr (8, [.int qc, .int (iZ (np : Int)), .ref ow, .ref om, .ref ok_, .ref oK, .ref og, .ref on_, .ref oh, .ref ox, .int qn, .int qf, .ref op_, .int ql])), (ow, .inl (cI, 108000, .inl fw)), (om, .inl (cI, 9, .inl fm)), (oh, .inl (cI, 10000, .inl fh)), (ok_, .inl (cI, 166400, .inl fk)), (oK, .inl (cI, 64, .inl fK)), (og, .inl (cI, 32, .inl fs)), (on_, .inl (cI, 32, .inl fn))] [(mo, .inr (8, [.int (iZ 0), .int (iZ (np : Int)), .ref ow, .ref om, .ref ok_, .ref oK, .ref og, .ref on_, .ref oh, .ref ox, .int qn, .int qf, .ref op_, .int ql])), (ow, .inl (cI, 108000, .inl u_9.1)), (om, .inl (cI, 9, .inl u_9.2.1)), (oh, .inl (cI, 10000, .inl u_9.2.2.1)), (ok_, .inl (cI, 166400, .inl u_9.2.2.2.1)), (oK, .inl (cI, 64, .inl u_9.2.2.2.2.1)), (og, .inl (cI, 32, .inl u_9.2.2.2.2.2.1)), (on_, .inl (cI, 32, .inl u_9.2.2.2.2.2.2.1))] sz) (va_A [(mo, .inr (8, [.int qc, .int (iZ (np : Int)), .ref ow, .ref om, .ref ok_, .ref oK, .ref og, .ref on_, .ref oh, .ref ox, .int qn, .int qf, .ref op_, .int ql])), (ow, .inl (cI, 108000, .inl fw)), (om, .inl (cI, 9, .inl fm)), (oh, .inl (cI, 10000, .inl fh)), (ok_, .inl (cI, 166400, .inl fk)), (oK, .inl (cI, 64, .inl fK)), (og, .inl (cI, 32, .inl fs)), (on_, .inl (cI, 32, .inl fn))] sz)) 0 0 (va_A [(mo, .inr (8, [.int qc, .int (iZ (np : Int)), .ref ow, .ref om, .ref ok_, .ref oK, .ref og, .ref on_, .ref oh, .ref ox, .int qn, .int qf, .ref op_, .int ql])), (ow, .inl (cI, 108000, .inl fw)), (om, .inl (cI, 9, .inl fm)), (oh, .inl (cI, 10000, .inl fh)), (ok_, .inl (cI, 166400, .inl fk)), (oK, .inl (cI, 64, .inl fK)), (og, .inl (cI, 32, .inl fs)), (on_, .inl (cI, 32, .inl fn))] sz) := by
  refine met_enter (by decide +kernel) (Nat.le_of_ble_eq_true rfl) ?_
  intro p e s m args below meth c ls A R Q H locs K hin hAe hA hR hQ hP hK hD hS hl
  obtain ⟨hx, hb, hml, hrt, hlk, hts, hown, hno⟩ := id K
  have hl : lv_has ls 3 [(0, .ref mo), (1, .int (iZ (to : Int))), (2, .int (iZ (a : Int)))] := hl
  have hlr : ∀ q, q < 32 → lm (tv q) + lm (bv q) ≤ 1024 := fun q hq => by have z := ndS_le (tv := tv) (bv := bv) hq; omega
  have hnt : ∀ q, q < 32 → nd (tv q) ≤ 2600 := fun q hq => by have z := nd_lm (v := tv q) (L := 1024) (by have y := hlr q hq; omega); omega
  have hnb : ∀ q, q < 32 → nd (bv q) ≤ 2600 := fun q hq => by have z := nd_lm (v := bv q) (L := 1024) (by have y := hlr q hq; omega); omega
  obtain ⟨ja1, ja2, ja3⟩ := J a (by omega)
  refine lv_aload_n hx hb d_Mo_copy_0 rfl (lv_at hl 0 rfl) ?_
  refine lv_iload_n hx hb d_Mo_copy_1 rfl (lv_at hl 1 rfl) ?_
  refine cs (n := 1) (wr := [(mo, .inr (8, [.int qc, .int (iZ (np : Int)), .ref ow, .ref om, .ref ok_, .ref oK, .ref og, .ref on_, .ref oh, .ref ox, .int qn, .int qf, .ref op_, .int ql])), (ow, .inl (cI, 108000, .inl fw)), (om, .inl (cI, 9, .inl fm)), (oh, .inl (cI, 10000, .inl fh)), (ok_, .inl (cI, 166400, .inl fk)), (oK, .inl (cI, 64, .inl fK)), (og, .inl (cI, 32, .inl fs)), (on_, .inl (cI, 32, .inl fn))]) (w1 := (fun (u : Int) => [])) (As := [.int (iZ (to : Int))]) (rest := [.ref mo]) K hP hD hK hS hA hl.1 (c_Mo_isRegister l D (to : Int) H.size (by omega)) [] [0, 1, 2, 3, 4, 5, 6, 7] [] rfl rfl rfl (by decide) (by decide) (by decide) (big_in mw_1172 rfl) (big_in mw_10 rfl) (big_in mw_1170 rfl) (big_in mw_1171 rfl) rfl rfl (by decide +kernel) ⟨by rw [hR]; exact Nat.le_of_ble_eq_true rfl, by rw [hR]; exact Nat.le_of_ble_eq_true rfl⟩ rfl (Nat.le_of_ble_eq_true rfl) d_Mo_copy_2 ⟨by rw [hR]; exact Nat.le_of_ble_eq_true rfl, by rw [hR]; exact Nat.le_of_ble_eq_true rfl⟩ rfl (fun v u H locs hp1 hP hD hS _ => ?_)
  obtain ⟨r2, rfl⟩ : ∃ z, z = u := ⟨_, rfl⟩
  obtain ⟨rfl, p2⟩ := hp1
  have hP : va_P D cls0 [(mo, .inr (8, [.int qc, .int (iZ (np : Int)), .ref ow, .ref om, .ref ok_, .ref oK, .ref og, .ref on_, .ref oh, .ref ox, .int qn, .int qf, .ref op_, .int ql])), (ow, .inl (cI, 108000, .inl fw)), (om, .inl (cI, 9, .inl fm)), (oh, .inl (cI, 10000, .inl fh)), (ok_, .inl (cI, 166400, .inl fk)), (oK, .inl (cI, 64, .inl fK)), (og, .inl (cI, 32, .inl fs)), (on_, .inl (cI, 32, .inl fn))] H := hP
  have hD : va_D A [(mo, .inr (8, [.int qc, .int (iZ (np : Int)), .ref ow, .ref om, .ref ok_, .ref oK, .ref og, .ref on_, .ref oh, .ref ox, .int qn, .int qf, .ref op_, .int ql])), (ow, .inl (cI, 108000, .inl fw)), (om, .inl (cI, 9, .inl fm)), (oh, .inl (cI, 10000, .inl fh)), (ok_, .inl (cI, 166400, .inl fk)), (oK, .inl (cI, 64, .inl fK)), (og, .inl (cI, 32, .inl fs)), (on_, .inl (cI, 32, .inl fn))] := hD
  show W p l e R s m args below meth c H locs _ _ Q (F0 m 5 ls [.int (iZ r2), .ref mo])
  have b2 : 0 ≤ r2 ∧ r2 ≤ 1 := by omega
  refine zz_if_eq (tgt := 19) hx hb d_Mo_copy_5 (by decide) (by omega) (fun c5 => ?_) (fun c5 => ?_)
  · refine lv_iconst (v := iZ (1)) hx hb d_Mo_copy_19 (by decide +kernel) ?_
    exfalso
    omega
  · refine lv_iload_n hx hb d_Mo_copy_8 rfl (lv_at hl 2 rfl) ?_
    refine cs (n := 1) (wr := [(mo, .inr (8, [.int qc, .int (iZ (np : Int)), .ref ow, .ref om, .ref ok_, .ref oK, .ref og, .ref on_, .ref oh, .ref ox, .int qn, .int qf, .ref op_, .int ql])), (ow, .inl (cI, 108000, .inl fw)), (om, .inl (cI, 9, .inl fm)), (oh, .inl (cI, 10000, .inl fh)), (ok_, .inl (cI, 166400, .inl fk)), (oK, .inl (cI, 64, .inl fK)), (og, .inl (cI, 32, .inl fs)), (on_, .inl (cI, 32, .inl fn))]) (w1 := (fun (u : Int) => [])) (As := [.int (iZ (a : Int))]) (rest := [.ref mo]) K hP hD hK hS hA hl.1 (c_Mo_isRegister l D (a : Int) H.size (by omega)) [] [0, 1, 2, 3, 4, 5, 6, 7] [] rfl rfl rfl (by decide) (by decide) (by decide) (big_in mw_1172 rfl) (big_in mw_10 rfl) (big_in mw_1170 rfl) (big_in mw_1171 rfl) rfl rfl (by decide +kernel) ⟨by rw [hR]; exact Nat.le_of_ble_eq_true rfl, by rw [hR]; exact Nat.le_of_ble_eq_true rfl⟩ rfl (Nat.le_of_ble_eq_true rfl) d_Mo_copy_9 ⟨by rw [hR]; exact Nat.le_of_ble_eq_true rfl, by rw [hR]; exact Nat.le_of_ble_eq_true rfl⟩ rfl (fun v u H locs hp2 hP hD hS _ => ?_)
    obtain ⟨r9, rfl⟩ : ∃ z, z = u := ⟨_, rfl⟩
    obtain ⟨rfl, p9⟩ := hp2
    have hP : va_P D cls0 [(mo, .inr (8, [.int qc, .int (iZ (np : Int)), .ref ow, .ref om, .ref ok_, .ref oK, .ref og, .ref on_, .ref oh, .ref ox, .int qn, .int qf, .ref op_, .int ql])), (ow, .inl (cI, 108000, .inl fw)), (om, .inl (cI, 9, .inl fm)), (oh, .inl (cI, 10000, .inl fh)), (ok_, .inl (cI, 166400, .inl fk)), (oK, .inl (cI, 64, .inl fK)), (og, .inl (cI, 32, .inl fs)), (on_, .inl (cI, 32, .inl fn))] H := hP
    have hD : va_D A [(mo, .inr (8, [.int qc, .int (iZ (np : Int)), .ref ow, .ref om, .ref ok_, .ref oK, .ref og, .ref on_, .ref oh, .ref ox, .int qn, .int qf, .ref op_, .int ql])), (ow, .inl (cI, 108000, .inl fw)), (om, .inl (cI, 9, .inl fm)), (oh, .inl (cI, 10000, .inl fh)), (ok_, .inl (cI, 166400, .inl fk)), (oK, .inl (cI, 64, .inl fK)), (og, .inl (cI, 32, .inl fs)), (on_, .inl (cI, 32, .inl fn))] := hD
    show W p l e R s m args below meth c H locs _ _ Q (F0 m 12 ls [.int (iZ r9), .ref mo])
    have b9 : 0 ≤ r9 ∧ r9 ≤ 1 := by omega
    refine zz_if_eq (tgt := 19) hx hb d_Mo_copy_12 (by decide) (by omega) (fun c12 => ?_) (fun c12 => ?_)
    · refine lv_iconst (v := iZ (1)) hx hb d_Mo_copy_19 (by decide +kernel) ?_
      exfalso
      omega
    · refine lv_iconst (v := iZ (0)) hx hb d_Mo_copy_15 (by decide +kernel) ?_
      refine lv_goto (tgt := 20) hx hb d_Mo_copy_16 (by decide) ?_
      refine cv (n := 1) (wr := [(ow, .inl (cI, 108000, .inl fw)), (om, .inl (cI, 9, .inl fm)), (oh, .inl (cI, 10000, .inl fh)), (ok_, .inl (cI, 166400, .inl fk)), (oK, .inl (cI, 64, .inl fK)), (og, .inl (cI, 32, .inl fs)), (on_, .inl (cI, 32, .inl fn))]) (w1 := (fun (u : Int) => [(mo, .inr (8, [.int (iZ 0), .int (iZ (np : Int)), .ref ow, .ref om, .ref ok_, .ref oK, .ref og, .ref on_, .ref oh, .ref ox, .int qn, .int qf, .ref op_, .int ql]))])) (As := [.int (iZ 0)]) (rest := []) K hP hD hK hS hA hl.1 (c_Mo_refuses l D mo qc np ow om ok_ oK og on_ oh ox qn qf op_ ql 0 H.size (by omega)) [0] [1, 2, 3, 4, 5, 6, 7] [] rfl rfl rfl (by decide) (by decide) (by decide) 0 rfl rfl (big_in mw_1176 rfl) (big_in mw_10 rfl) (big_in mw_1173 rfl) (big_in mw_1175 rfl) (big_in sp_18 rfl) rfl rfl (by decide +kernel) ⟨by rw [hR]; exact Nat.le_of_ble_eq_true rfl, by rw [hR]; exact Nat.le_of_ble_eq_true rfl⟩ rfl (Nat.le_of_ble_eq_true rfl) d_Mo_copy_20 ⟨by rw [hR]; exact Nat.le_of_ble_eq_true rfl, by rw [hR]; exact Nat.le_of_ble_eq_true rfl⟩ rfl (fun v u H locs hp3 hP hD hS _ => ?_)
      obtain ⟨rf, rfl⟩ : ∃ z, z = u := ⟨_, rfl⟩
      obtain ⟨rfl, prf⟩ := hp3
      have hP : va_P D cls0 [(ow, .inl (cI, 108000, .inl fw)), (om, .inl (cI, 9, .inl fm)), (oh, .inl (cI, 10000, .inl fh)), (ok_, .inl (cI, 166400, .inl fk)), (oK, .inl (cI, 64, .inl fK)), (og, .inl (cI, 32, .inl fs)), (on_, .inl (cI, 32, .inl fn)), (mo, .inr (8, [.int (iZ 0), .int (iZ (np : Int)), .ref ow, .ref om, .ref ok_, .ref oK, .ref og, .ref on_, .ref oh, .ref ox, .int qn, .int qf, .ref op_, .int ql]))] H := hP
      have hD : va_D A [(ow, .inl (cI, 108000, .inl fw)), (om, .inl (cI, 9, .inl fm)), (oh, .inl (cI, 10000, .inl fh)), (ok_, .inl (cI, 166400, .inl fk)), (oK, .inl (cI, 64, .inl fK)), (og, .inl (cI, 32, .inl fs)), (on_, .inl (cI, 32, .inl fn)), (mo, .inr (8, [.int (iZ 0), .int (iZ (np : Int)), .ref ow, .ref om, .ref ok_, .ref oK, .ref og, .ref on_, .ref oh, .ref ox, .int qn, .int qf, .ref op_, .int ql]))] := hD
      show W p l e R s m args below meth c H locs _ _ Q (F0 m 23 ls [.int (iZ rf)])
      refine zz_if_eq (tgt := 28) hx hb d_Mo_copy_23 (by decide) (by omega) (fun c23 => ?_) (fun c23 => False.elim (by omega))
      refine lv_aload_n hx hb d_Mo_copy_28 rfl (lv_at hl 0 rfl) ?_
      refine lv_iconst (v := iZ (0)) hx hb d_Mo_copy_29 (by decide +kernel) ?_
      refine lv_iconst (v := iZ (2)) hx hb d_Mo_copy_30 (by decide +kernel) ?_
      refine lv_iload_n hx hb d_Mo_copy_31 rfl (lv_at hl 2 rfl) ?_
      refine zz_imul hx hb d_Mo_copy_32 ?_
      rw [show (2 * (a : Int) : Int) = ((2 * a : Nat) : Int) by omega]
      refine cv (n := 2) (wr := [(oh, .inl (cI, 10000, .inl fh)), (og, .inl (cI, 32, .inl fs)), (on_, .inl (cI, 32, .inl fn))]) (w1 := (fun (u : (Nat → Int32) × (Nat → Int32)) => [(mo, .inr (8, [.int (iZ 0), .int (iZ (np : Int)), .ref ow, .ref om, .ref ok_, .ref oK, .ref og, .ref on_, .ref oh, .ref ox, .int qn, .int qf, .ref op_, .int ql])), (ow, .inl (cI, 108000, .inl u.1)), (om, .inl (cI, 9, .inl u.2)), (ok_, .inl (cI, 166400, .inl fk)), (oK, .inl (cI, 64, .inl fK))])) (As := [.int (iZ 0), .int (iZ ((2 * a : Nat) : Int))]) (rest := []) K hP hD hK hS hA hl.1 (c_Mo_load l D mo (iZ 0) np ow om ok_ oK og on_ oh ox qn qf op_ ql fw fm cI fk fK val (kvf tv bv) 0 (2 * a) H.size hW hMR.1 (by decide) (by omega)) [7, 0, 1, 3, 4] [2, 5, 6] [0] rfl rfl rfl (by decide) (by decide) (by decide) 0 rfl rfl (big_in mw_1238 rfl) (big_in mw_10 rfl) (big_in mw_1235 rfl) (big_in mw_1237 rfl) (big_in sp_31 rfl) rfl rfl (by decide +kernel) ⟨by rw [hR]; exact Nat.le_of_ble_eq_true rfl, by rw [hR]; exact Nat.le_of_ble_eq_true rfl⟩ rfl (Nat.le_of_ble_eq_true rfl) d_Mo_copy_33 ⟨by rw [hR]; exact Nat.le_of_ble_eq_true rfl, by rw [hR]; exact Nat.le_of_ble_eq_true rfl⟩ rfl (fun v u H locs hp4 hP hD hS _ => ?_)
      obtain ⟨fx1, fy1⟩ := u
      try dsimp only at hp4
      obtain ⟨rfl, w1⟩ := hp4
      have hP : va_P D cls0 [(oh, .inl (cI, 10000, .inl fh)), (og, .inl (cI, 32, .inl fs)), (on_, .inl (cI, 32, .inl fn)), (mo, .inr (8, [.int (iZ 0), .int (iZ (np : Int)), .ref ow, .ref om, .ref ok_, .ref oK, .ref og, .ref on_, .ref oh, .ref ox, .int qn, .int qf, .ref op_, .int ql])), (ow, .inl (cI, 108000, .inl fx1)), (om, .inl (cI, 9, .inl fy1)), (ok_, .inl (cI, 166400, .inl fk)), (oK, .inl (cI, 64, .inl fK))] H := hP
      have hD : va_D A [(oh, .inl (cI, 10000, .inl fh)), (og, .inl (cI, 32, .inl fs)), (on_, .inl (cI, 32, .inl fn)), (mo, .inr (8, [.int (iZ 0), .int (iZ (np : Int)), .ref ow, .ref om, .ref ok_, .ref oK, .ref og, .ref on_, .ref oh, .ref ox, .int qn, .int qf, .ref op_, .int ql])), (ow, .inl (cI, 108000, .inl fx1)), (om, .inl (cI, 9, .inl fy1)), (ok_, .inl (cI, 166400, .inl fk)), (oK, .inl (cI, 64, .inl fK))] := hD
      show W p l e R s m args below meth c H locs _ _ Q (F0 m 36 ls [])
      rw [kvf_0] at w1
      obtain ⟨v1, hv1⟩ : ∃ z, z = up val 0 (tv a) := ⟨_, rfl⟩
      rw [← hv1] at w1
      refine lv_aload_n hx hb d_Mo_copy_36 rfl (lv_at hl 0 rfl) ?_
      refine lv_iconst (v := iZ (1)) hx hb d_Mo_copy_37 (by decide +kernel) ?_
      refine lv_iconst (v := iZ (2)) hx hb d_Mo_copy_38 (by decide +kernel) ?_
      refine lv_iload_n hx hb d_Mo_copy_39 rfl (lv_at hl 2 rfl) ?_
      refine zz_imul hx hb d_Mo_copy_40 ?_
      refine lv_iconst (v := iZ (1)) hx hb d_Mo_copy_41 (by decide +kernel) ?_
      refine zz_iadd hx hb d_Mo_copy_42 ?_
      rw [show (2 * (a : Int) + 1 : Int) = ((2 * a + 1 : Nat) : Int) by omega]
      refine cv (n := 2) (wr := [(oh, .inl (cI, 10000, .inl fh)), (og, .inl (cI, 32, .inl fs)), (on_, .inl (cI, 32, .inl fn))]) (w1 := (fun (u : (Nat → Int32) × (Nat → Int32)) => [(mo, .inr (8, [.int (iZ 0), .int (iZ (np : Int)), .ref ow, .ref om, .ref ok_, .ref oK, .ref og, .ref on_, .ref oh, .ref ox, .int qn, .int qf, .ref op_, .int ql])), (ow, .inl (cI, 108000, .inl u.1)), (om, .inl (cI, 9, .inl u.2)), (ok_, .inl (cI, 166400, .inl fk)), (oK, .inl (cI, 64, .inl fK))])) (As := [.int (iZ 1), .int (iZ ((2 * a + 1 : Nat) : Int))]) (rest := []) K hP hD hK hS hA hl.1 (c_Mo_load l D mo (iZ 0) np ow om ok_ oK og on_ oh ox qn qf op_ ql fx1 fy1 cI fk fK v1 (kvf tv bv) 1 (2 * a + 1) H.size w1 hMR.1 (by decide) (by omega)) [3, 4, 5, 6, 7] [0, 1, 2] [0] rfl rfl rfl (by decide) (by decide) (by decide) 0 rfl rfl (big_in mw_1238 rfl) (big_in mw_10 rfl) (big_in mw_1235 rfl) (big_in mw_1237 rfl) (big_in sp_31 rfl) rfl rfl (by decide +kernel) ⟨by rw [hR]; exact Nat.le_of_ble_eq_true rfl, by rw [hR]; exact Nat.le_of_ble_eq_true rfl⟩ rfl (Nat.le_of_ble_eq_true rfl) d_Mo_copy_43 ⟨by rw [hR]; exact Nat.le_of_ble_eq_true rfl, by rw [hR]; exact Nat.le_of_ble_eq_true rfl⟩ rfl (fun v u H locs hp5 hP hD hS _ => ?_)
      obtain ⟨fx2, fy2⟩ := u
      try dsimp only at hp5
      obtain ⟨rfl, w2⟩ := hp5
      have hP : va_P D cls0 [(oh, .inl (cI, 10000, .inl fh)), (og, .inl (cI, 32, .inl fs)), (on_, .inl (cI, 32, .inl fn)), (mo, .inr (8, [.int (iZ 0), .int (iZ (np : Int)), .ref ow, .ref om, .ref ok_, .ref oK, .ref og, .ref on_, .ref oh, .ref ox, .int qn, .int qf, .ref op_, .int ql])), (ow, .inl (cI, 108000, .inl fx2)), (om, .inl (cI, 9, .inl fy2)), (ok_, .inl (cI, 166400, .inl fk)), (oK, .inl (cI, 64, .inl fK))] H := hP
      have hD : va_D A [(oh, .inl (cI, 10000, .inl fh)), (og, .inl (cI, 32, .inl fs)), (on_, .inl (cI, 32, .inl fn)), (mo, .inr (8, [.int (iZ 0), .int (iZ (np : Int)), .ref ow, .ref om, .ref ok_, .ref oK, .ref og, .ref on_, .ref oh, .ref ox, .int qn, .int qf, .ref op_, .int ql])), (ow, .inl (cI, 108000, .inl fx2)), (om, .inl (cI, 9, .inl fy2)), (ok_, .inl (cI, 166400, .inl fk)), (oK, .inl (cI, 64, .inl fK))] := hD
      show W p l e R s m args below meth c H locs _ _ Q (F0 m 46 ls [])
      rw [kvf_1] at w2
      obtain ⟨v2, hv2⟩ : ∃ z, z = up v1 1 (bv a) := ⟨_, rfl⟩
      rw [← hv2] at w2
      have e0 : v2 0 = tv a := by rw [hv2, up_n (by decide), hv1, up_s]
      have e1 : v2 1 = bv a := by rw [hv2, up_s]
      have ba := hlr a (by omega)
      refine lv_aload_n hx hb d_Mo_copy_46 rfl (lv_at hl 0 rfl) ?_
      refine lv_iload_n hx hb d_Mo_copy_47 rfl (lv_at hl 1 rfl) ?_
      refine lv_aload_n hx hb d_Mo_copy_48 rfl (lv_at hl 0 rfl) ?_
      refine va_get (D := D) (ci := 8) (v := .ref og) (C := R_Mo) (T := F_Mo) (N := 14) hx hb hts i_Mo hown hK hP 3 rfl rfl 6 (by decide) (hts _ (big_in mw_1121 rfl)) (fun _ h9 => h9) rfl d_Mo_copy_49 ?_
      refine lv_iload_n hx hb d_Mo_copy_52 rfl (lv_at hl 2 rfl) ?_
      refine zz_iald hx hb hK hP 1 0 rfl rfl (a) (by omega) (by omega) (by omega) d_Mo_copy_53 ?_
      rw [hMR.2.1 a (by omega)]
      refine lv_iconst (v := iZ (2)) hx hb d_Mo_copy_54 (by decide +kernel) ?_
      refine cv (n := 3) (wr := []) (w1 := (fun (u : (Nat → Int32) × (Nat → Int32) × (Nat → Int32) × (Nat → Int32) × (Nat → Int32) × (Nat → Int32) × (Nat → Int32) × (Nat → Nat)) => [(mo, .inr (8, [.int (iZ 0), .int (iZ (np : Int)), .ref ow, .ref om, .ref ok_, .ref oK, .ref og, .ref on_, .ref oh, .ref ox, .int qn, .int qf, .ref op_, .int ql])), (ow, .inl (cI, 108000, .inl u.1)), (om, .inl (cI, 9, .inl u.2.1)), (oh, .inl (cI, 10000, .inl u.2.2.1)), (ok_, .inl (cI, 166400, .inl u.2.2.2.1)), (oK, .inl (cI, 64, .inl u.2.2.2.2.1)), (og, .inl (cI, 32, .inl u.2.2.2.2.2.1)), (on_, .inl (cI, 32, .inl u.2.2.2.2.2.2.1))])) (As := [.int (iZ (to : Int)), .int (iZ (sg a)), .int (iZ 2)]) (rest := []) K hP hD hK hS hA hl.1 (c_Mo_store l D mo (iZ 0) np ow om ok_ oK og on_ oh ox qn qf op_ ql fx2 fy2 cI fh fk fK fs fn v2 tv bv sg to (sg a) 2 H.size w2 hMR (by omega) hnd hnp (by omega) (by decide) (by rw [e0]; omega) (by rw [e1]; omega) (by rw [e0, e1]; exact hfit)) [3, 4, 5, 0, 6, 7, 1, 2] [] [0] rfl rfl rfl (by decide) (by decide) (by decide) 0 rfl rfl (big_in mw_1215 rfl) (big_in mw_10 rfl) (big_in mw_1212 rfl) (big_in mw_1214 rfl) (big_in sp_27 rfl) rfl rfl (by decide +kernel) ⟨by rw [hR]; exact Nat.le_of_ble_eq_true rfl, by rw [hR]; exact Nat.le_of_ble_eq_true rfl⟩ rfl (Nat.le_of_ble_eq_true rfl) d_Mo_copy_55 ⟨by rw [hR]; exact Nat.le_of_ble_eq_true rfl, by rw [hR]; exact Nat.le_of_ble_eq_true rfl⟩ rfl (fun v u H locs hp6 hP hD hS _ => ?_)
      obtain ⟨fa, fb, fc, fd, fe, ff, fg, v9⟩ := u
      try dsimp only at hp6
      obtain ⟨rfl, w9, q9⟩ := hp6
      have hP : va_P D cls0 [(mo, .inr (8, [.int (iZ 0), .int (iZ (np : Int)), .ref ow, .ref om, .ref ok_, .ref oK, .ref og, .ref on_, .ref oh, .ref ox, .int qn, .int qf, .ref op_, .int ql])), (ow, .inl (cI, 108000, .inl fa)), (om, .inl (cI, 9, .inl fb)), (oh, .inl (cI, 10000, .inl fc)), (ok_, .inl (cI, 166400, .inl fd)), (oK, .inl (cI, 64, .inl fe)), (og, .inl (cI, 32, .inl ff)), (on_, .inl (cI, 32, .inl fg))] H := hP
      have hD : va_D A [(mo, .inr (8, [.int (iZ 0), .int (iZ (np : Int)), .ref ow, .ref om, .ref ok_, .ref oK, .ref og, .ref on_, .ref oh, .ref ox, .int qn, .int qf, .ref op_, .int ql])), (ow, .inl (cI, 108000, .inl fa)), (om, .inl (cI, 9, .inl fb)), (oh, .inl (cI, 10000, .inl fc)), (ok_, .inl (cI, 166400, .inl fd)), (oK, .inl (cI, 64, .inl fe)), (og, .inl (cI, 32, .inl ff)), (on_, .inl (cI, 32, .inl fg))] := hD
      show W p l e R s m args below meth c H locs _ _ Q (F0 m 58 ls [.int (iZ ((lm (v2 0) : Int) + (lm (v2 1) : Int)))])
      rw [e0, e1]
      rw [e0, e1] at q9
      have hP9 : va_P D cls0 [(mo, .inr (8, [.int (iZ 0), .int (iZ (np : Int)), .ref ow, .ref om, .ref ok_, .ref oK, .ref og, .ref on_, .ref oh, .ref ox, .int qn, .int qf, .ref op_, .int ql])), (ow, .inl (cI, 108000, .inl fa)), (om, .inl (cI, 9, .inl fb)), (oh, .inl (cI, 10000, .inl fc)), (ok_, .inl (cI, 166400, .inl fd)), (oK, .inl (cI, 64, .inl fe)), (og, .inl (cI, 32, .inl ff)), (on_, .inl (cI, 32, .inl fg))] H := hP.sub [0, 1, 2, 3, 4, 5, 6, 7] rfl
      have hD9 : va_D A [(mo, .inr (8, [.int (iZ 0), .int (iZ (np : Int)), .ref ow, .ref om, .ref ok_, .ref oK, .ref og, .ref on_, .ref oh, .ref ox, .int qn, .int qf, .ref op_, .int ql])), (ow, .inl (cI, 108000, .inl fa)), (om, .inl (cI, 9, .inl fb)), (oh, .inl (cI, 10000, .inl fc)), (ok_, .inl (cI, 166400, .inl fd)), (oK, .inl (cI, 64, .inl fe)), (og, .inl (cI, 32, .inl ff)), (on_, .inl (cI, 32, .inl fg))] := hD.sub [0, 1, 2, 3, 4, 5, 6, 7] (by decide) rfl
      rw [hQ, ← hAe]
      refine r_i (v := (iZ ((lm ((tv a)) : Int) + (lm ((bv a)) : Int)))) K (fa, fb, fc, fd, fe, ff, fg, v9) hS d_Mo_copy_58 ?_ (fun t ht hv => ?_)
      · try dsimp only
        refine ⟨rfl, w9, ?_⟩
        exact q9
      · exact ⟨by rw [ht]; exact hP9, va_K.moved hv hK, by rw [← hAe]; exact hD9⟩
set_option maxHeartbeats 4000000 in
set_option maxRecDepth 100000 in
/-- copy(to, a) -/
theorem f_Mo_copy (l : Launch) (D : va_G) (mo : Nat) (qc : Int32) (np : Nat) (ow : Nat) (om : Nat) (ok_ : Nat) (oK : Nat) (og : Nat) (on_ : Nat) (oh : Nat) (ox : Nat) (qn : Int32) (qf : Int32) (op_ : Nat) (ql : Int32) (fw : Nat → Int32) (fm : Nat → Int32) (cI : ClassId) (fh : Nat → Int32) (fk : Nat → Int32) (fK : Nat → Int32) (fs : Nat → Int32) (fn : Nat → Int32) (val : Nat → Nat) (tv : Nat → Nat) (bv : Nat → Nat) (sg : Nat → Int) (to : Nat) (a : Nat) (sz : Nat) (hW : WB fw fm val) (hMR : MoR fk fK fs fn tv bv sg) (hnd : ndS tv bv 32 ≤ np) (hnp : np ≤ 1024) (J : RgC tv bv sg) (hbv : ∀ r, r < 32 → 0 < bv r) (t1 : to < 32) (t2 : a < 32) (hfit : np + (lm (tv to) + lm (bv to)) < ndS tv bv 32 + (lm (tv a) + lm (bv a))) : Met l y_Mo_copy (wsB y_Mo_copy b_Mo_copy 3 (some .int)) ({ frames := 4, cells := 0, slots := 0, locals := 93 }) (va_Pc [.ref mo, .int (iZ (to : Int)), .int (iZ (a : Int))] (wPre D [(cI, .int)] [(mo, .inr (8, [.int qc, .int (iZ (np : Int)), .ref ow, .ref om, .ref ok_, .ref oK, .ref og, .ref on_, .ref oh, .ref ox, .int qn, .int qf, .ref op_, .int ql])), (ow, .inl (cI, 108000, .inl fw)), (om, .inl (cI, 9, .inl fm)), (oh, .inl (cI, 10000, .inl fh)), (ok_, .inl (cI, 166400, .inl fk)), (oK, .inl (cI, 64, .inl fK)), (og, .inl (cI, 32, .inl fs)), (on_, .inl (cI, 32, .inl fn))] sz)) (va_QV (fun (v_9 : Option Value) (u_9 : (Nat → Int32) × (Nat → Int32) × (Nat → Int32) × (Nat → Nat)) => v_9 = some (.int (iZ 0)) ∧ (WB u_9.1 u_9.2.1 u_9.2.2.2)) (fun u_9 => wPost D [(cI, .int)] [(mo, .inr (8, [.int qc, .int (iZ (np : Int)), .ref ow, .ref om, .ref ok_, .ref oK, .ref og, .ref on_, .ref oh, .ref ox, .int qn, .int qf, .ref op_, .int ql])), (ow, .inl (cI, 108000, .inl fw)), (om, .inl (cI, 9, .inl fm)), (oh, .inl (cI, 10000, .inl fh)), (ok_, .inl (cI, 166400, .inl fk)), (oK, .inl (cI, 64, .inl fK)), (og, .inl (cI, 32, .inl fs)), (on_, .inl (cI, 32, .inl fn))] [(mo, .inr (8, [.int (iZ 2), .int (iZ (np : Int)), .ref ow, .ref om, .ref ok_, .ref oK, .ref og, .ref on_, .ref oh, .ref ox, .int qn, .int qf, .ref op_, .int ql])), (ow, .inl (cI, 108000, .inl u_9.1)), (om, .inl (cI, 9, .inl u_9.2.1)), (oh, .inl (cI, 10000, .inl u_9.2.2.1)), (ok_, .inl (cI, 166400, .inl fk)), (oK, .inl (cI, 64, .inl fK)), (og, .inl (cI, 32, .inl fs)), (on_, .inl (cI, 32, .inl fn))] sz) (va_A [(mo, .inr (8, [.int qc, .int (iZ (np : Int)), .ref ow, .ref om, .ref ok_, .ref oK, .ref og, .ref on_, .ref oh, .ref ox, .int qn, .int qf, .ref op_, .int ql])), (ow, .inl (cI, 108000, .inl fw)), (om, .inl (cI, 9, .inl fm)), (oh, .inl (cI, 10000, .inl fh)), (ok_, .inl (cI, 166400, .inl fk)), (oK, .inl (cI, 64, .inl fK)), (og, .inl (cI, 32, .inl fs)), (on_, .inl (cI, 32, .inl fn))] sz)) 0 0 (va_A [(mo, .inr (8, [.int qc, .int (iZ (np : Int)), .ref ow, .ref om, .ref ok_, .ref oK, .ref og, .ref on_, .ref oh, .ref ox, .int qn, .int qf, .ref op_, .int ql])), (ow, .inl (cI, 108000, .inl fw)), (om, .inl (cI, 9, .inl fm)), (oh, .inl (cI, 10000, .inl fh)), (ok_, .inl (cI, 166400, .inl fk)), (oK, .inl (cI, 64, .inl fK)), (og, .inl (cI, 32, .inl fs)), (on_, .inl (cI, 32, .inl fn))] sz) := by
  refine met_enter (by decide +kernel) (Nat.le_of_ble_eq_true rfl) ?_
  intro p e s m args below meth c ls A R Q H locs K hin hAe hA hR hQ hP hK hD hS hl
  obtain ⟨hx, hb, hml, hrt, hlk, hts, hown, hno⟩ := id K
  have hl : lv_has ls 3 [(0, .ref mo), (1, .int (iZ (to : Int))), (2, .int (iZ (a : Int)))] := hl
  have hlr : ∀ q, q < 32 → lm (tv q) + lm (bv q) ≤ 1024 := fun q hq => by have z := ndS_le (tv := tv) (bv := bv) hq; omega
  have hnt : ∀ q, q < 32 → nd (tv q) ≤ 2600 := fun q hq => by have z := nd_lm (v := tv q) (L := 1024) (by have y := hlr q hq; omega); omega
  have hnb : ∀ q, q < 32 → nd (bv q) ≤ 2600 := fun q hq => by have z := nd_lm (v := bv q) (L := 1024) (by have y := hlr q hq; omega); omega
  obtain ⟨ja1, ja2, ja3⟩ := J a (by omega)
  refine lv_aload_n hx hb d_Mo_copy_0 rfl (lv_at hl 0 rfl) ?_
  refine lv_iload_n hx hb d_Mo_copy_1 rfl (lv_at hl 1 rfl) ?_
  refine cs (n := 1) (wr := [(mo, .inr (8, [.int qc, .int (iZ (np : Int)), .ref ow, .ref om, .ref ok_, .ref oK, .ref og, .ref on_, .ref oh, .ref ox, .int qn, .int qf, .ref op_, .int ql])), (ow, .inl (cI, 108000, .inl fw)), (om, .inl (cI, 9, .inl fm)), (oh, .inl (cI, 10000, .inl fh)), (ok_, .inl (cI, 166400, .inl fk)), (oK, .inl (cI, 64, .inl fK)), (og, .inl (cI, 32, .inl fs)), (on_, .inl (cI, 32, .inl fn))]) (w1 := (fun (u : Int) => [])) (As := [.int (iZ (to : Int))]) (rest := [.ref mo]) K hP hD hK hS hA hl.1 (c_Mo_isRegister l D (to : Int) H.size (by omega)) [] [0, 1, 2, 3, 4, 5, 6, 7] [] rfl rfl rfl (by decide) (by decide) (by decide) (big_in mw_1172 rfl) (big_in mw_10 rfl) (big_in mw_1170 rfl) (big_in mw_1171 rfl) rfl rfl (by decide +kernel) ⟨by rw [hR]; exact Nat.le_of_ble_eq_true rfl, by rw [hR]; exact Nat.le_of_ble_eq_true rfl⟩ rfl (Nat.le_of_ble_eq_true rfl) d_Mo_copy_2 ⟨by rw [hR]; exact Nat.le_of_ble_eq_true rfl, by rw [hR]; exact Nat.le_of_ble_eq_true rfl⟩ rfl (fun v u H locs hp1 hP hD hS _ => ?_)
  obtain ⟨r2, rfl⟩ : ∃ z, z = u := ⟨_, rfl⟩
  obtain ⟨rfl, p2⟩ := hp1
  have hP : va_P D cls0 [(mo, .inr (8, [.int qc, .int (iZ (np : Int)), .ref ow, .ref om, .ref ok_, .ref oK, .ref og, .ref on_, .ref oh, .ref ox, .int qn, .int qf, .ref op_, .int ql])), (ow, .inl (cI, 108000, .inl fw)), (om, .inl (cI, 9, .inl fm)), (oh, .inl (cI, 10000, .inl fh)), (ok_, .inl (cI, 166400, .inl fk)), (oK, .inl (cI, 64, .inl fK)), (og, .inl (cI, 32, .inl fs)), (on_, .inl (cI, 32, .inl fn))] H := hP
  have hD : va_D A [(mo, .inr (8, [.int qc, .int (iZ (np : Int)), .ref ow, .ref om, .ref ok_, .ref oK, .ref og, .ref on_, .ref oh, .ref ox, .int qn, .int qf, .ref op_, .int ql])), (ow, .inl (cI, 108000, .inl fw)), (om, .inl (cI, 9, .inl fm)), (oh, .inl (cI, 10000, .inl fh)), (ok_, .inl (cI, 166400, .inl fk)), (oK, .inl (cI, 64, .inl fK)), (og, .inl (cI, 32, .inl fs)), (on_, .inl (cI, 32, .inl fn))] := hD
  show W p l e R s m args below meth c H locs _ _ Q (F0 m 5 ls [.int (iZ r2), .ref mo])
  have b2 : 0 ≤ r2 ∧ r2 ≤ 1 := by omega
  refine zz_if_eq (tgt := 19) hx hb d_Mo_copy_5 (by decide) (by omega) (fun c5 => ?_) (fun c5 => ?_)
  · refine lv_iconst (v := iZ (1)) hx hb d_Mo_copy_19 (by decide +kernel) ?_
    exfalso
    omega
  · refine lv_iload_n hx hb d_Mo_copy_8 rfl (lv_at hl 2 rfl) ?_
    refine cs (n := 1) (wr := [(mo, .inr (8, [.int qc, .int (iZ (np : Int)), .ref ow, .ref om, .ref ok_, .ref oK, .ref og, .ref on_, .ref oh, .ref ox, .int qn, .int qf, .ref op_, .int ql])), (ow, .inl (cI, 108000, .inl fw)), (om, .inl (cI, 9, .inl fm)), (oh, .inl (cI, 10000, .inl fh)), (ok_, .inl (cI, 166400, .inl fk)), (oK, .inl (cI, 64, .inl fK)), (og, .inl (cI, 32, .inl fs)), (on_, .inl (cI, 32, .inl fn))]) (w1 := (fun (u : Int) => [])) (As := [.int (iZ (a : Int))]) (rest := [.ref mo]) K hP hD hK hS hA hl.1 (c_Mo_isRegister l D (a : Int) H.size (by omega)) [] [0, 1, 2, 3, 4, 5, 6, 7] [] rfl rfl rfl (by decide) (by decide) (by decide) (big_in mw_1172 rfl) (big_in mw_10 rfl) (big_in mw_1170 rfl) (big_in mw_1171 rfl) rfl rfl (by decide +kernel) ⟨by rw [hR]; exact Nat.le_of_ble_eq_true rfl, by rw [hR]; exact Nat.le_of_ble_eq_true rfl⟩ rfl (Nat.le_of_ble_eq_true rfl) d_Mo_copy_9 ⟨by rw [hR]; exact Nat.le_of_ble_eq_true rfl, by rw [hR]; exact Nat.le_of_ble_eq_true rfl⟩ rfl (fun v u H locs hp2 hP hD hS _ => ?_)
    obtain ⟨r9, rfl⟩ : ∃ z, z = u := ⟨_, rfl⟩
    obtain ⟨rfl, p9⟩ := hp2
    have hP : va_P D cls0 [(mo, .inr (8, [.int qc, .int (iZ (np : Int)), .ref ow, .ref om, .ref ok_, .ref oK, .ref og, .ref on_, .ref oh, .ref ox, .int qn, .int qf, .ref op_, .int ql])), (ow, .inl (cI, 108000, .inl fw)), (om, .inl (cI, 9, .inl fm)), (oh, .inl (cI, 10000, .inl fh)), (ok_, .inl (cI, 166400, .inl fk)), (oK, .inl (cI, 64, .inl fK)), (og, .inl (cI, 32, .inl fs)), (on_, .inl (cI, 32, .inl fn))] H := hP
    have hD : va_D A [(mo, .inr (8, [.int qc, .int (iZ (np : Int)), .ref ow, .ref om, .ref ok_, .ref oK, .ref og, .ref on_, .ref oh, .ref ox, .int qn, .int qf, .ref op_, .int ql])), (ow, .inl (cI, 108000, .inl fw)), (om, .inl (cI, 9, .inl fm)), (oh, .inl (cI, 10000, .inl fh)), (ok_, .inl (cI, 166400, .inl fk)), (oK, .inl (cI, 64, .inl fK)), (og, .inl (cI, 32, .inl fs)), (on_, .inl (cI, 32, .inl fn))] := hD
    show W p l e R s m args below meth c H locs _ _ Q (F0 m 12 ls [.int (iZ r9), .ref mo])
    have b9 : 0 ≤ r9 ∧ r9 ≤ 1 := by omega
    refine zz_if_eq (tgt := 19) hx hb d_Mo_copy_12 (by decide) (by omega) (fun c12 => ?_) (fun c12 => ?_)
    · refine lv_iconst (v := iZ (1)) hx hb d_Mo_copy_19 (by decide +kernel) ?_
      exfalso
      omega
    · refine lv_iconst (v := iZ (0)) hx hb d_Mo_copy_15 (by decide +kernel) ?_
      refine lv_goto (tgt := 20) hx hb d_Mo_copy_16 (by decide) ?_
      refine cv (n := 1) (wr := [(ow, .inl (cI, 108000, .inl fw)), (om, .inl (cI, 9, .inl fm)), (oh, .inl (cI, 10000, .inl fh)), (ok_, .inl (cI, 166400, .inl fk)), (oK, .inl (cI, 64, .inl fK)), (og, .inl (cI, 32, .inl fs)), (on_, .inl (cI, 32, .inl fn))]) (w1 := (fun (u : Int) => [(mo, .inr (8, [.int (iZ 0), .int (iZ (np : Int)), .ref ow, .ref om, .ref ok_, .ref oK, .ref og, .ref on_, .ref oh, .ref ox, .int qn, .int qf, .ref op_, .int ql]))])) (As := [.int (iZ 0)]) (rest := []) K hP hD hK hS hA hl.1 (c_Mo_refuses l D mo qc np ow om ok_ oK og on_ oh ox qn qf op_ ql 0 H.size (by omega)) [0] [1, 2, 3, 4, 5, 6, 7] [] rfl rfl rfl (by decide) (by decide) (by decide) 0 rfl rfl (big_in mw_1176 rfl) (big_in mw_10 rfl) (big_in mw_1173 rfl) (big_in mw_1175 rfl) (big_in sp_18 rfl) rfl rfl (by decide +kernel) ⟨by rw [hR]; exact Nat.le_of_ble_eq_true rfl, by rw [hR]; exact Nat.le_of_ble_eq_true rfl⟩ rfl (Nat.le_of_ble_eq_true rfl) d_Mo_copy_20 ⟨by rw [hR]; exact Nat.le_of_ble_eq_true rfl, by rw [hR]; exact Nat.le_of_ble_eq_true rfl⟩ rfl (fun v u H locs hp3 hP hD hS _ => ?_)
      obtain ⟨rf, rfl⟩ : ∃ z, z = u := ⟨_, rfl⟩
      obtain ⟨rfl, prf⟩ := hp3
      have hP : va_P D cls0 [(ow, .inl (cI, 108000, .inl fw)), (om, .inl (cI, 9, .inl fm)), (oh, .inl (cI, 10000, .inl fh)), (ok_, .inl (cI, 166400, .inl fk)), (oK, .inl (cI, 64, .inl fK)), (og, .inl (cI, 32, .inl fs)), (on_, .inl (cI, 32, .inl fn)), (mo, .inr (8, [.int (iZ 0), .int (iZ (np : Int)), .ref ow, .ref om, .ref ok_, .ref oK, .ref og, .ref on_, .ref oh, .ref ox, .int qn, .int qf, .ref op_, .int ql]))] H := hP
      have hD : va_D A [(ow, .inl (cI, 108000, .inl fw)), (om, .inl (cI, 9, .inl fm)), (oh, .inl (cI, 10000, .inl fh)), (ok_, .inl (cI, 166400, .inl fk)), (oK, .inl (cI, 64, .inl fK)), (og, .inl (cI, 32, .inl fs)), (on_, .inl (cI, 32, .inl fn)), (mo, .inr (8, [.int (iZ 0), .int (iZ (np : Int)), .ref ow, .ref om, .ref ok_, .ref oK, .ref og, .ref on_, .ref oh, .ref ox, .int qn, .int qf, .ref op_, .int ql]))] := hD
      show W p l e R s m args below meth c H locs _ _ Q (F0 m 23 ls [.int (iZ rf)])
      refine zz_if_eq (tgt := 28) hx hb d_Mo_copy_23 (by decide) (by omega) (fun c23 => ?_) (fun c23 => False.elim (by omega))
      refine lv_aload_n hx hb d_Mo_copy_28 rfl (lv_at hl 0 rfl) ?_
      refine lv_iconst (v := iZ (0)) hx hb d_Mo_copy_29 (by decide +kernel) ?_
      refine lv_iconst (v := iZ (2)) hx hb d_Mo_copy_30 (by decide +kernel) ?_
      refine lv_iload_n hx hb d_Mo_copy_31 rfl (lv_at hl 2 rfl) ?_
      refine zz_imul hx hb d_Mo_copy_32 ?_
      rw [show (2 * (a : Int) : Int) = ((2 * a : Nat) : Int) by omega]
      refine cv (n := 2) (wr := [(oh, .inl (cI, 10000, .inl fh)), (og, .inl (cI, 32, .inl fs)), (on_, .inl (cI, 32, .inl fn))]) (w1 := (fun (u : (Nat → Int32) × (Nat → Int32)) => [(mo, .inr (8, [.int (iZ 0), .int (iZ (np : Int)), .ref ow, .ref om, .ref ok_, .ref oK, .ref og, .ref on_, .ref oh, .ref ox, .int qn, .int qf, .ref op_, .int ql])), (ow, .inl (cI, 108000, .inl u.1)), (om, .inl (cI, 9, .inl u.2)), (ok_, .inl (cI, 166400, .inl fk)), (oK, .inl (cI, 64, .inl fK))])) (As := [.int (iZ 0), .int (iZ ((2 * a : Nat) : Int))]) (rest := []) K hP hD hK hS hA hl.1 (c_Mo_load l D mo (iZ 0) np ow om ok_ oK og on_ oh ox qn qf op_ ql fw fm cI fk fK val (kvf tv bv) 0 (2 * a) H.size hW hMR.1 (by decide) (by omega)) [7, 0, 1, 3, 4] [2, 5, 6] [0] rfl rfl rfl (by decide) (by decide) (by decide) 0 rfl rfl (big_in mw_1238 rfl) (big_in mw_10 rfl) (big_in mw_1235 rfl) (big_in mw_1237 rfl) (big_in sp_31 rfl) rfl rfl (by decide +kernel) ⟨by rw [hR]; exact Nat.le_of_ble_eq_true rfl, by rw [hR]; exact Nat.le_of_ble_eq_true rfl⟩ rfl (Nat.le_of_ble_eq_true rfl) d_Mo_copy_33 ⟨by rw [hR]; exact Nat.le_of_ble_eq_true rfl, by rw [hR]; exact Nat.le_of_ble_eq_true rfl⟩ rfl (fun v u H locs hp4 hP hD hS _ => ?_)
      obtain ⟨fx1, fy1⟩ := u
      try dsimp only at hp4
      obtain ⟨rfl, w1⟩ := hp4
      have hP : va_P D cls0 [(oh, .inl (cI, 10000, .inl fh)), (og, .inl (cI, 32, .inl fs)), (on_, .inl (cI, 32, .inl fn)), (mo, .inr (8, [.int (iZ 0), .int (iZ (np : Int)), .ref ow, .ref om, .ref ok_, .ref oK, .ref og, .ref on_, .ref oh, .ref ox, .int qn, .int qf, .ref op_, .int ql])), (ow, .inl (cI, 108000, .inl fx1)), (om, .inl (cI, 9, .inl fy1)), (ok_, .inl (cI, 166400, .inl fk)), (oK, .inl (cI, 64, .inl fK))] H := hP
      have hD : va_D A [(oh, .inl (cI, 10000, .inl fh)), (og, .inl (cI, 32, .inl fs)), (on_, .inl (cI, 32, .inl fn)), (mo, .inr (8, [.int (iZ 0), .int (iZ (np : Int)), .ref ow, .ref om, .ref ok_, .ref oK, .ref og, .ref on_, .ref oh, .ref ox, .int qn, .int qf, .ref op_, .int ql])), (ow, .inl (cI, 108000, .inl fx1)), (om, .inl (cI, 9, .inl fy1)), (ok_, .inl (cI, 166400, .inl fk)), (oK, .inl (cI, 64, .inl fK))] := hD
      show W p l e R s m args below meth c H locs _ _ Q (F0 m 36 ls [])
      rw [kvf_0] at w1
      obtain ⟨v1, hv1⟩ : ∃ z, z = up val 0 (tv a) := ⟨_, rfl⟩
      rw [← hv1] at w1
      refine lv_aload_n hx hb d_Mo_copy_36 rfl (lv_at hl 0 rfl) ?_
      refine lv_iconst (v := iZ (1)) hx hb d_Mo_copy_37 (by decide +kernel) ?_
      refine lv_iconst (v := iZ (2)) hx hb d_Mo_copy_38 (by decide +kernel) ?_
      refine lv_iload_n hx hb d_Mo_copy_39 rfl (lv_at hl 2 rfl) ?_
      refine zz_imul hx hb d_Mo_copy_40 ?_
      refine lv_iconst (v := iZ (1)) hx hb d_Mo_copy_41 (by decide +kernel) ?_
      refine zz_iadd hx hb d_Mo_copy_42 ?_
      rw [show (2 * (a : Int) + 1 : Int) = ((2 * a + 1 : Nat) : Int) by omega]
      refine cv (n := 2) (wr := [(oh, .inl (cI, 10000, .inl fh)), (og, .inl (cI, 32, .inl fs)), (on_, .inl (cI, 32, .inl fn))]) (w1 := (fun (u : (Nat → Int32) × (Nat → Int32)) => [(mo, .inr (8, [.int (iZ 0), .int (iZ (np : Int)), .ref ow, .ref om, .ref ok_, .ref oK, .ref og, .ref on_, .ref oh, .ref ox, .int qn, .int qf, .ref op_, .int ql])), (ow, .inl (cI, 108000, .inl u.1)), (om, .inl (cI, 9, .inl u.2)), (ok_, .inl (cI, 166400, .inl fk)), (oK, .inl (cI, 64, .inl fK))])) (As := [.int (iZ 1), .int (iZ ((2 * a + 1 : Nat) : Int))]) (rest := []) K hP hD hK hS hA hl.1 (c_Mo_load l D mo (iZ 0) np ow om ok_ oK og on_ oh ox qn qf op_ ql fx1 fy1 cI fk fK v1 (kvf tv bv) 1 (2 * a + 1) H.size w1 hMR.1 (by decide) (by omega)) [3, 4, 5, 6, 7] [0, 1, 2] [0] rfl rfl rfl (by decide) (by decide) (by decide) 0 rfl rfl (big_in mw_1238 rfl) (big_in mw_10 rfl) (big_in mw_1235 rfl) (big_in mw_1237 rfl) (big_in sp_31 rfl) rfl rfl (by decide +kernel) ⟨by rw [hR]; exact Nat.le_of_ble_eq_true rfl, by rw [hR]; exact Nat.le_of_ble_eq_true rfl⟩ rfl (Nat.le_of_ble_eq_true rfl) d_Mo_copy_43 ⟨by rw [hR]; exact Nat.le_of_ble_eq_true rfl, by rw [hR]; exact Nat.le_of_ble_eq_true rfl⟩ rfl (fun v u H locs hp5 hP hD hS _ => ?_)
      obtain ⟨fx2, fy2⟩ := u
      try dsimp only at hp5
      obtain ⟨rfl, w2⟩ := hp5
      have hP : va_P D cls0 [(oh, .inl (cI, 10000, .inl fh)), (og, .inl (cI, 32, .inl fs)), (on_, .inl (cI, 32, .inl fn)), (mo, .inr (8, [.int (iZ 0), .int (iZ (np : Int)), .ref ow, .ref om, .ref ok_, .ref oK, .ref og, .ref on_, .ref oh, .ref ox, .int qn, .int qf, .ref op_, .int ql])), (ow, .inl (cI, 108000, .inl fx2)), (om, .inl (cI, 9, .inl fy2)), (ok_, .inl (cI, 166400, .inl fk)), (oK, .inl (cI, 64, .inl fK))] H := hP
      have hD : va_D A [(oh, .inl (cI, 10000, .inl fh)), (og, .inl (cI, 32, .inl fs)), (on_, .inl (cI, 32, .inl fn)), (mo, .inr (8, [.int (iZ 0), .int (iZ (np : Int)), .ref ow, .ref om, .ref ok_, .ref oK, .ref og, .ref on_, .ref oh, .ref ox, .int qn, .int qf, .ref op_, .int ql])), (ow, .inl (cI, 108000, .inl fx2)), (om, .inl (cI, 9, .inl fy2)), (ok_, .inl (cI, 166400, .inl fk)), (oK, .inl (cI, 64, .inl fK))] := hD
      show W p l e R s m args below meth c H locs _ _ Q (F0 m 46 ls [])
      rw [kvf_1] at w2
      obtain ⟨v2, hv2⟩ : ∃ z, z = up v1 1 (bv a) := ⟨_, rfl⟩
      rw [← hv2] at w2
      have e0 : v2 0 = tv a := by rw [hv2, up_n (by decide), hv1, up_s]
      have e1 : v2 1 = bv a := by rw [hv2, up_s]
      have ba := hlr a (by omega)
      refine lv_aload_n hx hb d_Mo_copy_46 rfl (lv_at hl 0 rfl) ?_
      refine lv_iload_n hx hb d_Mo_copy_47 rfl (lv_at hl 1 rfl) ?_
      refine lv_aload_n hx hb d_Mo_copy_48 rfl (lv_at hl 0 rfl) ?_
      refine va_get (D := D) (ci := 8) (v := .ref og) (C := R_Mo) (T := F_Mo) (N := 14) hx hb hts i_Mo hown hK hP 3 rfl rfl 6 (by decide) (hts _ (big_in mw_1121 rfl)) (fun _ h9 => h9) rfl d_Mo_copy_49 ?_
      refine lv_iload_n hx hb d_Mo_copy_52 rfl (lv_at hl 2 rfl) ?_
      refine zz_iald hx hb hK hP 1 0 rfl rfl (a) (by omega) (by omega) (by omega) d_Mo_copy_53 ?_
      rw [hMR.2.1 a (by omega)]
      refine lv_iconst (v := iZ (2)) hx hb d_Mo_copy_54 (by decide +kernel) ?_
      refine cv (n := 3) (wr := []) (w1 := (fun (u : (Nat → Int32) × (Nat → Int32) × (Nat → Int32) × (Nat → Nat)) => [(mo, .inr (8, [.int (iZ 2), .int (iZ (np : Int)), .ref ow, .ref om, .ref ok_, .ref oK, .ref og, .ref on_, .ref oh, .ref ox, .int qn, .int qf, .ref op_, .int ql])), (ow, .inl (cI, 108000, .inl u.1)), (om, .inl (cI, 9, .inl u.2.1)), (oh, .inl (cI, 10000, .inl u.2.2.1)), (ok_, .inl (cI, 166400, .inl fk)), (oK, .inl (cI, 64, .inl fK)), (og, .inl (cI, 32, .inl fs)), (on_, .inl (cI, 32, .inl fn))])) (As := [.int (iZ (to : Int)), .int (iZ (sg a)), .int (iZ 2)]) (rest := []) K hP hD hK hS hA hl.1 (c_Mo_storeX l D mo (iZ 0) np ow om ok_ oK og on_ oh ox qn qf op_ ql fx2 fy2 cI fh fk fK fs fn v2 tv bv sg to (sg a) 2 H.size w2 hMR (by omega) hnd hnp (by omega) (by decide) (by rw [e0]; omega) (by rw [e1]; omega) (by rw [e0, e1]; exact hfit)) [3, 4, 5, 0, 6, 7, 1, 2] [] [0] rfl rfl rfl (by decide) (by decide) (by decide) 0 rfl rfl (big_in mw_1215 rfl) (big_in mw_10 rfl) (big_in mw_1212 rfl) (big_in mw_1214 rfl) (big_in sp_27 rfl) rfl rfl (by decide +kernel) ⟨by rw [hR]; exact Nat.le_of_ble_eq_true rfl, by rw [hR]; exact Nat.le_of_ble_eq_true rfl⟩ rfl (Nat.le_of_ble_eq_true rfl) d_Mo_copy_55 ⟨by rw [hR]; exact Nat.le_of_ble_eq_true rfl, by rw [hR]; exact Nat.le_of_ble_eq_true rfl⟩ rfl (fun v u H locs hp6 hP hD hS _ => ?_)
      obtain ⟨fa, fb, fc, v9⟩ := u
      try dsimp only at hp6
      obtain ⟨rfl, w9⟩ := hp6
      have hP : va_P D cls0 [(mo, .inr (8, [.int (iZ 2), .int (iZ (np : Int)), .ref ow, .ref om, .ref ok_, .ref oK, .ref og, .ref on_, .ref oh, .ref ox, .int qn, .int qf, .ref op_, .int ql])), (ow, .inl (cI, 108000, .inl fa)), (om, .inl (cI, 9, .inl fb)), (oh, .inl (cI, 10000, .inl fc)), (ok_, .inl (cI, 166400, .inl fk)), (oK, .inl (cI, 64, .inl fK)), (og, .inl (cI, 32, .inl fs)), (on_, .inl (cI, 32, .inl fn))] H := hP
      have hD : va_D A [(mo, .inr (8, [.int (iZ 2), .int (iZ (np : Int)), .ref ow, .ref om, .ref ok_, .ref oK, .ref og, .ref on_, .ref oh, .ref ox, .int qn, .int qf, .ref op_, .int ql])), (ow, .inl (cI, 108000, .inl fa)), (om, .inl (cI, 9, .inl fb)), (oh, .inl (cI, 10000, .inl fc)), (ok_, .inl (cI, 166400, .inl fk)), (oK, .inl (cI, 64, .inl fK)), (og, .inl (cI, 32, .inl fs)), (on_, .inl (cI, 32, .inl fn))] := hD
      show W p l e R s m args below meth c H locs _ _ Q (F0 m 58 ls [.int (iZ 0)])
      have hP9 : va_P D cls0 [(mo, .inr (8, [.int (iZ 2), .int (iZ (np : Int)), .ref ow, .ref om, .ref ok_, .ref oK, .ref og, .ref on_, .ref oh, .ref ox, .int qn, .int qf, .ref op_, .int ql])), (ow, .inl (cI, 108000, .inl fa)), (om, .inl (cI, 9, .inl fb)), (oh, .inl (cI, 10000, .inl fc)), (ok_, .inl (cI, 166400, .inl fk)), (oK, .inl (cI, 64, .inl fK)), (og, .inl (cI, 32, .inl fs)), (on_, .inl (cI, 32, .inl fn))] H := hP.sub [0, 1, 2, 3, 4, 5, 6, 7] rfl
      have hD9 : va_D A [(mo, .inr (8, [.int (iZ 2), .int (iZ (np : Int)), .ref ow, .ref om, .ref ok_, .ref oK, .ref og, .ref on_, .ref oh, .ref ox, .int qn, .int qf, .ref op_, .int ql])), (ow, .inl (cI, 108000, .inl fa)), (om, .inl (cI, 9, .inl fb)), (oh, .inl (cI, 10000, .inl fc)), (ok_, .inl (cI, 166400, .inl fk)), (oK, .inl (cI, 64, .inl fK)), (og, .inl (cI, 32, .inl fs)), (on_, .inl (cI, 32, .inl fn))] := hD.sub [0, 1, 2, 3, 4, 5, 6, 7] (by decide) rfl
      rw [hQ, ← hAe]
      refine r_i (v := (iZ 0)) K (fa, fb, fc, v9) hS d_Mo_copy_58 ?_ (fun t ht hv => ?_)
      · exact ⟨rfl, w9⟩
      · exact ⟨by rw [ht]; exact hP9, va_K.moved hv hK, by rw [← hAe]; exact hD9⟩
set_option maxHeartbeats 4000000 in
set_option maxRecDepth 100000 in
/-- Mo_copy refused with 1 -/
theorem r1_Mo_copy (l : Launch) (D : va_G) (mo : Nat) (qc : Int32) (np : Nat) (ow : Nat) (om : Nat) (ok_ : Nat) (oK : Nat) (og : Nat) (on_ : Nat) (oh : Nat) (ox : Nat) (qn : Int32) (qf : Int32) (op_ : Nat) (ql : Int32) (zt : Int) (za : Int) (sz : Nat) (hbad : (zt < 0 ∨ 32 ≤ zt) ∨ (za < 0 ∨ 32 ≤ za)) (hrng : -2147483648 ≤ zt ∧ zt < 2147483648 ∧ -2147483648 ≤ za ∧ za < 2147483648) : Met l y_Mo_copy (wsB y_Mo_copy b_Mo_copy 3 (some .int)) ({ frames := 1, cells := 0, slots := 0, locals := 21 }) (va_Pc [.ref mo, .int (iZ zt), .int (iZ za)] (wPre D [] [(mo, .inr (8, [.int qc, .int (iZ (np : Int)), .ref ow, .ref om, .ref ok_, .ref oK, .ref og, .ref on_, .ref oh, .ref ox, .int qn, .int qf, .ref op_, .int ql]))] sz)) (va_QV (fun (v_9 : Option Value) (u_9 : Unit) => v_9 = some (.int (iZ 0))) (fun u_9 => wPost D [] [(mo, .inr (8, [.int qc, .int (iZ (np : Int)), .ref ow, .ref om, .ref ok_, .ref oK, .ref og, .ref on_, .ref oh, .ref ox, .int qn, .int qf, .ref op_, .int ql]))] [(mo, .inr (8, [.int (iZ 1), .int (iZ (np : Int)), .ref ow, .ref om, .ref ok_, .ref oK, .ref og, .ref on_, .ref oh, .ref ox, .int qn, .int qf, .ref op_, .int ql]))] sz) (va_A [(mo, .inr (8, [.int qc, .int (iZ (np : Int)), .ref ow, .ref om, .ref ok_, .ref oK, .ref og, .ref on_, .ref oh, .ref ox, .int qn, .int qf, .ref op_, .int ql]))] sz)) 0 0 (va_A [(mo, .inr (8, [.int qc, .int (iZ (np : Int)), .ref ow, .ref om, .ref ok_, .ref oK, .ref og, .ref on_, .ref oh, .ref ox, .int qn, .int qf, .ref op_, .int ql]))] sz) := by
  refine met_enter (by decide +kernel) (Nat.le_of_ble_eq_true rfl) ?_
  intro p e s m args below meth c ls A R Q H locs K hin hAe hA hR hQ hP hK hD hS hl
  obtain ⟨hx, hb, hml, hrt, hlk, hts, hown, hno⟩ := id K
  have hl : lv_has ls 3 [(0, .ref mo), (1, .int (iZ zt)), (2, .int (iZ za))] := hl
  refine lv_aload_n hx hb d_Mo_copy_0 rfl (lv_at hl 0 rfl) ?_
  refine lv_iload_n hx hb d_Mo_copy_1 rfl (lv_at hl 1 rfl) ?_
  refine cs (n := 1) (wr := [(mo, .inr (8, [.int qc, .int (iZ (np : Int)), .ref ow, .ref om, .ref ok_, .ref oK, .ref og, .ref on_, .ref oh, .ref ox, .int qn, .int qf, .ref op_, .int ql]))]) (w1 := (fun (u : Int) => [])) (As := [.int (iZ zt)]) (rest := [.ref mo]) K hP hD hK hS hA hl.1 (c_Mo_isRegister l D zt H.size (by omega)) [] [0] [] rfl rfl rfl (by decide) (by decide) (by decide) (big_in mw_1172 rfl) (big_in mw_10 rfl) (big_in mw_1170 rfl) (big_in mw_1171 rfl) rfl rfl (by decide +kernel) ⟨by rw [hR]; exact Nat.le_of_ble_eq_true rfl, by rw [hR]; exact Nat.le_of_ble_eq_true rfl⟩ rfl (Nat.le_of_ble_eq_true rfl) d_Mo_copy_2 ⟨by rw [hR]; exact Nat.le_of_ble_eq_true rfl, by rw [hR]; exact Nat.le_of_ble_eq_true rfl⟩ rfl (fun v u H locs hp1 hP hD hS _ => ?_)
  obtain ⟨r2, rfl⟩ : ∃ z, z = u := ⟨_, rfl⟩
  obtain ⟨rfl, p2⟩ := hp1
  have hP : va_P D cls0 [(mo, .inr (8, [.int qc, .int (iZ (np : Int)), .ref ow, .ref om, .ref ok_, .ref oK, .ref og, .ref on_, .ref oh, .ref ox, .int qn, .int qf, .ref op_, .int ql]))] H := hP
  have hD : va_D A [(mo, .inr (8, [.int qc, .int (iZ (np : Int)), .ref ow, .ref om, .ref ok_, .ref oK, .ref og, .ref on_, .ref oh, .ref ox, .int qn, .int qf, .ref op_, .int ql]))] := hD
  show W p l e R s m args below meth c H locs _ _ Q (F0 m 5 ls [.int (iZ r2), .ref mo])
  have b2 : 0 ≤ r2 ∧ r2 ≤ 1 := by omega
  refine zz_if_eq (tgt := 19) hx hb d_Mo_copy_5 (by decide) (by omega) (fun c5 => ?_) (fun c5 => ?_)
  · refine lv_iconst (v := iZ (1)) hx hb d_Mo_copy_19 (by decide +kernel) ?_
    refine cv (n := 1) (wr := []) (w1 := (fun (u : Int) => [(mo, .inr (8, [.int (iZ 1), .int (iZ (np : Int)), .ref ow, .ref om, .ref ok_, .ref oK, .ref og, .ref on_, .ref oh, .ref ox, .int qn, .int qf, .ref op_, .int ql]))])) (As := [.int (iZ 1)]) (rest := []) K hP hD hK hS hA hl.1 (c_Mo_refuses l D mo qc np ow om ok_ oK og on_ oh ox qn qf op_ ql 1 H.size (by omega)) [0] [] [] rfl rfl rfl (by decide) (by decide) (by decide) 0 rfl rfl (big_in mw_1176 rfl) (big_in mw_10 rfl) (big_in mw_1173 rfl) (big_in mw_1175 rfl) (big_in sp_18 rfl) rfl rfl (by decide +kernel) ⟨by rw [hR]; exact Nat.le_of_ble_eq_true rfl, by rw [hR]; exact Nat.le_of_ble_eq_true rfl⟩ rfl (Nat.le_of_ble_eq_true rfl) d_Mo_copy_20 ⟨by rw [hR]; exact Nat.le_of_ble_eq_true rfl, by rw [hR]; exact Nat.le_of_ble_eq_true rfl⟩ rfl (fun v u H locs hp2 hP hD hS _ => ?_)
    obtain ⟨rf, rfl⟩ : ∃ z, z = u := ⟨_, rfl⟩
    obtain ⟨rfl, prf⟩ := hp2
    have hP : va_P D cls0 [(mo, .inr (8, [.int (iZ 1), .int (iZ (np : Int)), .ref ow, .ref om, .ref ok_, .ref oK, .ref og, .ref on_, .ref oh, .ref ox, .int qn, .int qf, .ref op_, .int ql]))] H := hP
    have hD : va_D A [(mo, .inr (8, [.int (iZ 1), .int (iZ (np : Int)), .ref ow, .ref om, .ref ok_, .ref oK, .ref og, .ref on_, .ref oh, .ref ox, .int qn, .int qf, .ref op_, .int ql]))] := hD
    show W p l e R s m args below meth c H locs _ _ Q (F0 m 23 ls [.int (iZ rf)])
    refine zz_if_eq (tgt := 28) hx hb d_Mo_copy_23 (by decide) (by omega) (fun c23 => False.elim (by omega)) (fun c23 => ?_)
    refine lv_iconst (v := iZ (0)) hx hb d_Mo_copy_26 (by decide +kernel) ?_
    have hP9 : va_P D cls0 [(mo, .inr (8, [.int (iZ 1), .int (iZ (np : Int)), .ref ow, .ref om, .ref ok_, .ref oK, .ref og, .ref on_, .ref oh, .ref ox, .int qn, .int qf, .ref op_, .int ql]))] H := hP.sub [0] rfl
    have hD9 : va_D A [(mo, .inr (8, [.int (iZ 1), .int (iZ (np : Int)), .ref ow, .ref om, .ref ok_, .ref oK, .ref og, .ref on_, .ref oh, .ref ox, .int qn, .int qf, .ref op_, .int ql]))] := hD.sub [0] (by decide) rfl
    rw [hQ, ← hAe]
    refine r_i (v := (iZ 0)) K () hS d_Mo_copy_27 ?_ (fun t ht hv => ?_)
    · exact rfl
    · exact ⟨by rw [ht]; exact hP9, va_K.moved hv hK, by rw [← hAe]; exact hD9⟩
  · refine lv_iload_n hx hb d_Mo_copy_8 rfl (lv_at hl 2 rfl) ?_
    refine cs (n := 1) (wr := [(mo, .inr (8, [.int qc, .int (iZ (np : Int)), .ref ow, .ref om, .ref ok_, .ref oK, .ref og, .ref on_, .ref oh, .ref ox, .int qn, .int qf, .ref op_, .int ql]))]) (w1 := (fun (u : Int) => [])) (As := [.int (iZ za)]) (rest := [.ref mo]) K hP hD hK hS hA hl.1 (c_Mo_isRegister l D za H.size (by omega)) [] [0] [] rfl rfl rfl (by decide) (by decide) (by decide) (big_in mw_1172 rfl) (big_in mw_10 rfl) (big_in mw_1170 rfl) (big_in mw_1171 rfl) rfl rfl (by decide +kernel) ⟨by rw [hR]; exact Nat.le_of_ble_eq_true rfl, by rw [hR]; exact Nat.le_of_ble_eq_true rfl⟩ rfl (Nat.le_of_ble_eq_true rfl) d_Mo_copy_9 ⟨by rw [hR]; exact Nat.le_of_ble_eq_true rfl, by rw [hR]; exact Nat.le_of_ble_eq_true rfl⟩ rfl (fun v u H locs hp3 hP hD hS _ => ?_)
    obtain ⟨r9, rfl⟩ : ∃ z, z = u := ⟨_, rfl⟩
    obtain ⟨rfl, p9⟩ := hp3
    have hP : va_P D cls0 [(mo, .inr (8, [.int qc, .int (iZ (np : Int)), .ref ow, .ref om, .ref ok_, .ref oK, .ref og, .ref on_, .ref oh, .ref ox, .int qn, .int qf, .ref op_, .int ql]))] H := hP
    have hD : va_D A [(mo, .inr (8, [.int qc, .int (iZ (np : Int)), .ref ow, .ref om, .ref ok_, .ref oK, .ref og, .ref on_, .ref oh, .ref ox, .int qn, .int qf, .ref op_, .int ql]))] := hD
    show W p l e R s m args below meth c H locs _ _ Q (F0 m 12 ls [.int (iZ r9), .ref mo])
    have b9 : 0 ≤ r9 ∧ r9 ≤ 1 := by omega
    refine zz_if_eq (tgt := 19) hx hb d_Mo_copy_12 (by decide) (by omega) (fun c12 => ?_) (fun c12 => ?_)
    · refine lv_iconst (v := iZ (1)) hx hb d_Mo_copy_19 (by decide +kernel) ?_
      refine cv (n := 1) (wr := []) (w1 := (fun (u : Int) => [(mo, .inr (8, [.int (iZ 1), .int (iZ (np : Int)), .ref ow, .ref om, .ref ok_, .ref oK, .ref og, .ref on_, .ref oh, .ref ox, .int qn, .int qf, .ref op_, .int ql]))])) (As := [.int (iZ 1)]) (rest := []) K hP hD hK hS hA hl.1 (c_Mo_refuses l D mo qc np ow om ok_ oK og on_ oh ox qn qf op_ ql 1 H.size (by omega)) [0] [] [] rfl rfl rfl (by decide) (by decide) (by decide) 0 rfl rfl (big_in mw_1176 rfl) (big_in mw_10 rfl) (big_in mw_1173 rfl) (big_in mw_1175 rfl) (big_in sp_18 rfl) rfl rfl (by decide +kernel) ⟨by rw [hR]; exact Nat.le_of_ble_eq_true rfl, by rw [hR]; exact Nat.le_of_ble_eq_true rfl⟩ rfl (Nat.le_of_ble_eq_true rfl) d_Mo_copy_20 ⟨by rw [hR]; exact Nat.le_of_ble_eq_true rfl, by rw [hR]; exact Nat.le_of_ble_eq_true rfl⟩ rfl (fun v u H locs hp4 hP hD hS _ => ?_)
      obtain ⟨rf, rfl⟩ : ∃ z, z = u := ⟨_, rfl⟩
      obtain ⟨rfl, prf⟩ := hp4
      have hP : va_P D cls0 [(mo, .inr (8, [.int (iZ 1), .int (iZ (np : Int)), .ref ow, .ref om, .ref ok_, .ref oK, .ref og, .ref on_, .ref oh, .ref ox, .int qn, .int qf, .ref op_, .int ql]))] H := hP
      have hD : va_D A [(mo, .inr (8, [.int (iZ 1), .int (iZ (np : Int)), .ref ow, .ref om, .ref ok_, .ref oK, .ref og, .ref on_, .ref oh, .ref ox, .int qn, .int qf, .ref op_, .int ql]))] := hD
      show W p l e R s m args below meth c H locs _ _ Q (F0 m 23 ls [.int (iZ rf)])
      refine zz_if_eq (tgt := 28) hx hb d_Mo_copy_23 (by decide) (by omega) (fun c23 => False.elim (by omega)) (fun c23 => ?_)
      refine lv_iconst (v := iZ (0)) hx hb d_Mo_copy_26 (by decide +kernel) ?_
      have hP9 : va_P D cls0 [(mo, .inr (8, [.int (iZ 1), .int (iZ (np : Int)), .ref ow, .ref om, .ref ok_, .ref oK, .ref og, .ref on_, .ref oh, .ref ox, .int qn, .int qf, .ref op_, .int ql]))] H := hP.sub [0] rfl
      have hD9 : va_D A [(mo, .inr (8, [.int (iZ 1), .int (iZ (np : Int)), .ref ow, .ref om, .ref ok_, .ref oK, .ref og, .ref on_, .ref oh, .ref ox, .int qn, .int qf, .ref op_, .int ql]))] := hD.sub [0] (by decide) rfl
      rw [hQ, ← hAe]
      refine r_i (v := (iZ 0)) K () hS d_Mo_copy_27 ?_ (fun t ht hv => ?_)
      · exact rfl
      · exact ⟨by rw [ht]; exact hP9, va_K.moved hv hK, by rw [← hAe]; exact hD9⟩
    · refine lv_iconst (v := iZ (0)) hx hb d_Mo_copy_15 (by decide +kernel) ?_
      refine lv_goto (tgt := 20) hx hb d_Mo_copy_16 (by decide) ?_
      exfalso
      omega
