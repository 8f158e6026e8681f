theorem sgn_b (x : Int) : -1 ≤ x.sign ∧ x.sign ≤ 1 := by
  rcases (show x < 0 ∨ x = 0 ∨ 0 < x by omega) with q | q | q
  · rw [Int.sign_eq_neg_one_of_neg q]; omega
  · rw [q]; decide
  · rw [Int.sign_eq_one_of_pos q]; omega
set_option maxHeartbeats 4000000 in
set_option maxRecDepth 100000 in
/-- Mo_sums -/
theorem c_Mo_sums0 (l : Launch) (D : va_G) (mo : Nat) (qc : Int32) (np : Nat) (ow : Nat) (om : Nat) (ok_ : Nat) (oK : Nat) (og : Nat) (on_ : Nat) (oh : Nat) (ox : Nat) (qn : Int32) (qf : Int32) (op_ : Nat) (ql : Int32) (fw : Nat → Int32) (fm : Nat → Int32) (cI : ClassId) (fh : Nat → Int32) (fk : Nat → Int32) (fK : Nat → Int32) (fs : Nat → Int32) (fn : Nat → Int32) (val : Nat → Nat) (tv : Nat → Nat) (bv : Nat → Nat) (sg : Nat → Int) (to : Nat) (a : Nat) (b_ : Nat) (sz : Nat) (hW : WB fw fm val) (hMR : MoR fk fK fs fn tv bv sg) (hnd : ndS tv bv 32 ≤ np) (hnp : np ≤ 1024) (J : RgC tv bv sg) (hbv : ∀ r, r < 32 → 0 < bv r) (t1 : to < 32) (t2 : a < 32) (t3_ : b_ < 32) (hfit : ndS tv bv 32 + (lm (rdN ((sg a * ((tv a * bv b_ : Nat) : Int) + sg b_ * ((tv b_ * bv a : Nat) : Int)).natAbs) (bv a * bv b_)) + lm (rdD ((sg a * ((tv a * bv b_ : Nat) : Int) + sg b_ * ((tv b_ * bv a : Nat) : Int)).natAbs) (bv a * bv b_))) ≤ np + (lm (tv to) + lm (bv to))) : Met l y_Mo_sums (wsB y_Mo_sums b_Mo_sums 6 (some .int)) ({ frames := 5, cells := 0, slots := 0, locals := 125 }) (va_Pc [.ref mo, .int (iZ (to : Int)), .int (iZ (a : Int)), .int (iZ (b_ : Int)), .int (iZ 0)] (wPre D [(cI, .int)] [(mo, .inr (8, [.int qc, .int (iZ (np : Int)), .ref ow, .ref om, .ref ok_, .ref oK, .ref og, .ref on_, .ref oh, .ref ox, .int qn, .int qf, .ref op_, .int ql])), (ow, .inl (cI, 108000, .inl fw)), (om, .inl (cI, 9, .inl fm)), (oh, .inl (cI, 10000, .inl fh)), (ok_, .inl (cI, 166400, .inl fk)), (oK, .inl (cI, 64, .inl fK)), (og, .inl (cI, 32, .inl fs)), (on_, .inl (cI, 32, .inl fn))] sz)) (va_QV (fun (v_9 : Option Value) (u_9 : (Nat → Int32) × (Nat → Int32) × (Nat → Int32) × (Nat → Int32) × (Nat → Int32) × (Nat → Int32) × (Nat → Int32) × (Nat → Nat)) => v_9 = some (.int (iZ ((lm (rdN ((sg a * ((tv a * bv b_ : Nat) : Int) + sg b_ * ((tv b_ * bv a : Nat) : Int)).natAbs) (bv a * bv b_)) : Int) + (lm (rdD ((sg a * ((tv a * bv b_ : Nat) : Int) + sg b_ * ((tv b_ * bv a : Nat) : Int)).natAbs) (bv a * bv b_)) : Int)))) ∧ (WB u_9.1 u_9.2.1 u_9.2.2.2.2.2.2.2) ∧ (MoR u_9.2.2.2.1 u_9.2.2.2.2.1 u_9.2.2.2.2.2.1 u_9.2.2.2.2.2.2.1 (up tv to (rdN ((sg a * ((tv a * bv b_ : Nat) : Int) + sg b_ * ((tv b_ * bv a : Nat) : Int)).natAbs) (bv a * bv b_))) (up bv to (rdD ((sg a * ((tv a * bv b_ : Nat) : Int) + sg b_ * ((tv b_ * bv a : Nat) : Int)).natAbs) (bv a * bv b_))) (up sg to (if rdN ((sg a * ((tv a * bv b_ : Nat) : Int) + sg b_ * ((tv b_ * bv a : Nat) : Int)).natAbs) (bv a * bv b_) = 0 then 0 else (sg a * ((tv a * bv b_ : Nat) : Int) + sg b_ * ((tv b_ * bv a : Nat) : Int)).sign)))) (fun u_9 => wPost D [(cI, .int)] [(mo, .inr (8, [.int qc, .int (iZ (np : Int)), .ref ow, .ref om, .ref ok_, .ref oK, .ref og, .ref on_, .ref oh, .ref ox, .int qn, .int qf, .ref op_, .int ql])), (ow, .inl (cI, 108000, .inl fw)), (om, .inl (cI, 9, .inl fm)), (oh, .inl (cI, 10000, .inl fh)), (ok_, .inl (cI, 166400, .inl fk)), (oK, .inl (cI, 64, .inl fK)), (og, .inl (cI, 32, .inl fs)), (on_, .inl (cI, 32, .inl fn))] [(mo, .inr (8, [.int (iZ 0), .int (iZ (np : Int)), .ref ow, .ref om, .ref ok_, .ref oK, .ref og, .ref on_, .ref oh, .ref ox, .int qn, .int qf, .ref op_, .int ql])), (ow, .inl (cI, 108000, .inl u_9.1)), (om, .inl (cI, 9, .inl u_9.2.1)), (oh, .inl (cI, 10000, .inl u_9.2.2.1)), (ok_, .inl (cI, 166400, .inl u_9.2.2.2.1)), (oK, .inl (cI, 64, .inl u_9.2.2.2.2.1)), (og, .inl (cI, 32, .inl u_9.2.2.2.2.2.1)), (on_, .inl (cI, 32, .inl u_9.2.2.2.2.2.2.1))] sz) (va_A [(mo, .inr (8, [.int qc, .int (iZ (np : Int)), .ref ow, .ref om, .ref ok_, .ref oK, .ref og, .ref on_, .ref oh, .ref ox, .int qn, .int qf, .ref op_, .int ql])), (ow, .inl (cI, 108000, .inl fw)), (om, .inl (cI, 9, .inl fm)), (oh, .inl (cI, 10000, .inl fh)), (ok_, .inl (cI, 166400, .inl fk)), (oK, .inl (cI, 64, .inl fK)), (og, .inl (cI, 32, .inl fs)), (on_, .inl (cI, 32, .inl fn))] sz)) 0 0 (va_A [(mo, .inr (8, [.int qc, .int (iZ (np : Int)), .ref ow, .ref om, .ref ok_, .ref oK, .ref og, .ref on_, .ref oh, .ref ox, .int qn, .int qf, .ref op_, .int ql])), (ow, .inl (cI, 108000, .inl fw)), (om, .inl (cI, 9, .inl fm)), (oh, .inl (cI, 10000, .inl fh)), (ok_, .inl (cI, 166400, .inl fk)), (oK, .inl (cI, 64, .inl fK)), (og, .inl (cI, 32, .inl fs)), (on_, .inl (cI, 32, .inl fn))] sz) := by
  refine met_enter (by decide +kernel) (Nat.le_of_ble_eq_true rfl) ?_
  intro p e s m args below meth c ls A R Q H locs K hin hAe hA hR hQ hP hK hD hS hl
  obtain ⟨hx, hb, hml, hrt, hlk, hts, hown, hno⟩ := id K
  have hl : lv_has ls 6 [(0, .ref mo), (1, .int (iZ (to : Int))), (2, .int (iZ (a : Int))), (3, .int (iZ (b_ : Int))), (4, .int (iZ 0))] := hl
  have hlr : ∀ q, q < 32 → lm (tv q) + lm (bv q) ≤ 1024 := fun q hq => by have z := ndS_le (tv := tv) (bv := bv) hq; omega
  have hnt : ∀ q, q < 32 → nd (tv q) ≤ 2600 := fun q hq => by have z := nd_lm (v := tv q) (L := 1024) (by have y := hlr q hq; omega); omega
  have hnb : ∀ q, q < 32 → nd (bv q) ≤ 2600 := fun q hq => by have z := nd_lm (v := bv q) (L := 1024) (by have y := hlr q hq; omega); omega
  obtain ⟨ja1, ja2, ja3⟩ := J a (by omega)
  obtain ⟨jb1, jb2, jb3⟩ := J b_ (by omega)
  have pa := hbv a (by omega)
  have pb := hbv b_ (by omega)
  have la := hlr a (by omega)
  have lb := hlr b_ (by omega)
  have n1 := hnt a (by omega)
  have n2 := hnb a (by omega)
  have n3 := hnt b_ (by omega)
  have n4 := hnb b_ (by omega)
  refine lv_aload_n hx hb d_Mo_sums_0 rfl (lv_at hl 0 rfl) ?_
  refine lv_iload_n hx hb d_Mo_sums_1 rfl (lv_at hl 1 rfl) ?_
  refine cs (n := 1) (wr := [(mo, .inr (8, [.int qc, .int (iZ (np : Int)), .ref ow, .ref om, .ref ok_, .ref oK, .ref og, .ref on_, .ref oh, .ref ox, .int qn, .int qf, .ref op_, .int ql])), (ow, .inl (cI, 108000, .inl fw)), (om, .inl (cI, 9, .inl fm)), (oh, .inl (cI, 10000, .inl fh)), (ok_, .inl (cI, 166400, .inl fk)), (oK, .inl (cI, 64, .inl fK)), (og, .inl (cI, 32, .inl fs)), (on_, .inl (cI, 32, .inl fn))]) (w1 := (fun (u : Int) => [])) (As := [.int (iZ (to : Int))]) (rest := [.ref mo]) K hP hD hK hS hA hl.1 (c_Mo_isRegister l D (to : Int) H.size (by omega)) [] [0, 1, 2, 3, 4, 5, 6, 7] [] rfl rfl rfl (by decide) (by decide) (by decide) (big_in mw_1172 rfl) (big_in mw_10 rfl) (big_in mw_1170 rfl) (big_in mw_1171 rfl) rfl rfl (by decide +kernel) ⟨by rw [hR]; exact Nat.le_of_ble_eq_true rfl, by rw [hR]; exact Nat.le_of_ble_eq_true rfl⟩ rfl (Nat.le_of_ble_eq_true rfl) d_Mo_sums_2 ⟨by rw [hR]; exact Nat.le_of_ble_eq_true rfl, by rw [hR]; exact Nat.le_of_ble_eq_true rfl⟩ rfl (fun v u H locs hp1 hP hD hS _ => ?_)
  obtain ⟨r2, rfl⟩ : ∃ z, z = u := ⟨_, rfl⟩
  obtain ⟨rfl, p2⟩ := hp1
  have hP : va_P D cls0 [(mo, .inr (8, [.int qc, .int (iZ (np : Int)), .ref ow, .ref om, .ref ok_, .ref oK, .ref og, .ref on_, .ref oh, .ref ox, .int qn, .int qf, .ref op_, .int ql])), (ow, .inl (cI, 108000, .inl fw)), (om, .inl (cI, 9, .inl fm)), (oh, .inl (cI, 10000, .inl fh)), (ok_, .inl (cI, 166400, .inl fk)), (oK, .inl (cI, 64, .inl fK)), (og, .inl (cI, 32, .inl fs)), (on_, .inl (cI, 32, .inl fn))] H := hP
  have hD : va_D A [(mo, .inr (8, [.int qc, .int (iZ (np : Int)), .ref ow, .ref om, .ref ok_, .ref oK, .ref og, .ref on_, .ref oh, .ref ox, .int qn, .int qf, .ref op_, .int ql])), (ow, .inl (cI, 108000, .inl fw)), (om, .inl (cI, 9, .inl fm)), (oh, .inl (cI, 10000, .inl fh)), (ok_, .inl (cI, 166400, .inl fk)), (oK, .inl (cI, 64, .inl fK)), (og, .inl (cI, 32, .inl fs)), (on_, .inl (cI, 32, .inl fn))] := hD
  show W p l e R s m args below meth c H locs _ _ Q (F0 m 5 ls [.int (iZ r2), .ref mo])
  have b2 : 0 ≤ r2 ∧ r2 ≤ 1 := by omega
  refine zz_if_eq (tgt := 26) hx hb d_Mo_sums_5 (by decide) (by omega) (fun c5 => ?_) (fun c5 => ?_)
  · refine lv_iconst (v := iZ (1)) hx hb d_Mo_sums_26 (by decide +kernel) ?_
    exfalso
    omega
  · refine lv_iload_n hx hb d_Mo_sums_8 rfl (lv_at hl 2 rfl) ?_
    refine cs (n := 1) (wr := [(mo, .inr (8, [.int qc, .int (iZ (np : Int)), .ref ow, .ref om, .ref ok_, .ref oK, .ref og, .ref on_, .ref oh, .ref ox, .int qn, .int qf, .ref op_, .int ql])), (ow, .inl (cI, 108000, .inl fw)), (om, .inl (cI, 9, .inl fm)), (oh, .inl (cI, 10000, .inl fh)), (ok_, .inl (cI, 166400, .inl fk)), (oK, .inl (cI, 64, .inl fK)), (og, .inl (cI, 32, .inl fs)), (on_, .inl (cI, 32, .inl fn))]) (w1 := (fun (u : Int) => [])) (As := [.int (iZ (a : Int))]) (rest := [.ref mo]) K hP hD hK hS hA hl.1 (c_Mo_isRegister l D (a : Int) H.size (by omega)) [] [0, 1, 2, 3, 4, 5, 6, 7] [] rfl rfl rfl (by decide) (by decide) (by decide) (big_in mw_1172 rfl) (big_in mw_10 rfl) (big_in mw_1170 rfl) (big_in mw_1171 rfl) rfl rfl (by decide +kernel) ⟨by rw [hR]; exact Nat.le_of_ble_eq_true rfl, by rw [hR]; exact Nat.le_of_ble_eq_true rfl⟩ rfl (Nat.le_of_ble_eq_true rfl) d_Mo_sums_9 ⟨by rw [hR]; exact Nat.le_of_ble_eq_true rfl, by rw [hR]; exact Nat.le_of_ble_eq_true rfl⟩ rfl (fun v u H locs hp2 hP hD hS _ => ?_)
    obtain ⟨r9, rfl⟩ : ∃ z, z = u := ⟨_, rfl⟩
    obtain ⟨rfl, p9⟩ := hp2
    have hP : va_P D cls0 [(mo, .inr (8, [.int qc, .int (iZ (np : Int)), .ref ow, .ref om, .ref ok_, .ref oK, .ref og, .ref on_, .ref oh, .ref ox, .int qn, .int qf, .ref op_, .int ql])), (ow, .inl (cI, 108000, .inl fw)), (om, .inl (cI, 9, .inl fm)), (oh, .inl (cI, 10000, .inl fh)), (ok_, .inl (cI, 166400, .inl fk)), (oK, .inl (cI, 64, .inl fK)), (og, .inl (cI, 32, .inl fs)), (on_, .inl (cI, 32, .inl fn))] H := hP
    have hD : va_D A [(mo, .inr (8, [.int qc, .int (iZ (np : Int)), .ref ow, .ref om, .ref ok_, .ref oK, .ref og, .ref on_, .ref oh, .ref ox, .int qn, .int qf, .ref op_, .int ql])), (ow, .inl (cI, 108000, .inl fw)), (om, .inl (cI, 9, .inl fm)), (oh, .inl (cI, 10000, .inl fh)), (ok_, .inl (cI, 166400, .inl fk)), (oK, .inl (cI, 64, .inl fK)), (og, .inl (cI, 32, .inl fs)), (on_, .inl (cI, 32, .inl fn))] := hD
    show W p l e R s m args below meth c H locs _ _ Q (F0 m 12 ls [.int (iZ r9), .ref mo])
    have b9 : 0 ≤ r9 ∧ r9 ≤ 1 := by omega
    refine zz_if_eq (tgt := 26) hx hb d_Mo_sums_12 (by decide) (by omega) (fun c12 => ?_) (fun c12 => ?_)
    · refine lv_iconst (v := iZ (1)) hx hb d_Mo_sums_26 (by decide +kernel) ?_
      exfalso
      omega
    · refine lv_iload_n hx hb d_Mo_sums_15 rfl (lv_at hl 3 rfl) ?_
      refine cs (n := 1) (wr := [(mo, .inr (8, [.int qc, .int (iZ (np : Int)), .ref ow, .ref om, .ref ok_, .ref oK, .ref og, .ref on_, .ref oh, .ref ox, .int qn, .int qf, .ref op_, .int ql])), (ow, .inl (cI, 108000, .inl fw)), (om, .inl (cI, 9, .inl fm)), (oh, .inl (cI, 10000, .inl fh)), (ok_, .inl (cI, 166400, .inl fk)), (oK, .inl (cI, 64, .inl fK)), (og, .inl (cI, 32, .inl fs)), (on_, .inl (cI, 32, .inl fn))]) (w1 := (fun (u : Int) => [])) (As := [.int (iZ (b_ : Int))]) (rest := [.ref mo]) K hP hD hK hS hA hl.1 (c_Mo_isRegister l D (b_ : Int) H.size (by omega)) [] [0, 1, 2, 3, 4, 5, 6, 7] [] rfl rfl rfl (by decide) (by decide) (by decide) (big_in mw_1172 rfl) (big_in mw_10 rfl) (big_in mw_1170 rfl) (big_in mw_1171 rfl) rfl rfl (by decide +kernel) ⟨by rw [hR]; exact Nat.le_of_ble_eq_true rfl, by rw [hR]; exact Nat.le_of_ble_eq_true rfl⟩ rfl (Nat.le_of_ble_eq_true rfl) d_Mo_sums_16 ⟨by rw [hR]; exact Nat.le_of_ble_eq_true rfl, by rw [hR]; exact Nat.le_of_ble_eq_true rfl⟩ rfl (fun v u H locs hp3 hP hD hS _ => ?_)
      obtain ⟨r16, rfl⟩ : ∃ z, z = u := ⟨_, rfl⟩
      obtain ⟨rfl, p16⟩ := hp3
      have hP : va_P D cls0 [(mo, .inr (8, [.int qc, .int (iZ (np : Int)), .ref ow, .ref om, .ref ok_, .ref oK, .ref og, .ref on_, .ref oh, .ref ox, .int qn, .int qf, .ref op_, .int ql])), (ow, .inl (cI, 108000, .inl fw)), (om, .inl (cI, 9, .inl fm)), (oh, .inl (cI, 10000, .inl fh)), (ok_, .inl (cI, 166400, .inl fk)), (oK, .inl (cI, 64, .inl fK)), (og, .inl (cI, 32, .inl fs)), (on_, .inl (cI, 32, .inl fn))] H := hP
      have hD : va_D A [(mo, .inr (8, [.int qc, .int (iZ (np : Int)), .ref ow, .ref om, .ref ok_, .ref oK, .ref og, .ref on_, .ref oh, .ref ox, .int qn, .int qf, .ref op_, .int ql])), (ow, .inl (cI, 108000, .inl fw)), (om, .inl (cI, 9, .inl fm)), (oh, .inl (cI, 10000, .inl fh)), (ok_, .inl (cI, 166400, .inl fk)), (oK, .inl (cI, 64, .inl fK)), (og, .inl (cI, 32, .inl fs)), (on_, .inl (cI, 32, .inl fn))] := hD
      show W p l e R s m args below meth c H locs _ _ Q (F0 m 19 ls [.int (iZ r16), .ref mo])
      have b16 : 0 ≤ r16 ∧ r16 ≤ 1 := by omega
      refine zz_if_eq (tgt := 26) hx hb d_Mo_sums_19 (by decide) (by omega) (fun c19 => ?_) (fun c19 => ?_)
      · refine lv_iconst (v := iZ (1)) hx hb d_Mo_sums_26 (by decide +kernel) ?_
        exfalso
        omega
      · refine lv_iconst (v := iZ (0)) hx hb d_Mo_sums_22 (by decide +kernel) ?_
        refine lv_goto (tgt := 27) hx hb d_Mo_sums_23 (by decide) ?_
        refine cv (n := 1) (wr := [(ow, .inl (cI, 108000, .inl fw)), (om, .inl (cI, 9, .inl fm)), (oh, .inl (cI, 10000, .inl fh)), (ok_, .inl (cI, 166400, .inl fk)), (oK, .inl (cI, 64, .inl fK)), (og, .inl (cI, 32, .inl fs)), (on_, .inl (cI, 32, .inl fn))]) (w1 := (fun (u : Int) => [(mo, .inr (8, [.int (iZ 0), .int (iZ (np : Int)), .ref ow, .ref om, .ref ok_, .ref oK, .ref og, .ref on_, .ref oh, .ref ox, .int qn, .int qf, .ref op_, .int ql]))])) (As := [.int (iZ 0)]) (rest := []) K hP hD hK hS hA hl.1 (c_Mo_refuses l D mo qc np ow om ok_ oK og on_ oh ox qn qf op_ ql 0 H.size (by omega)) [0] [1, 2, 3, 4, 5, 6, 7] [] rfl rfl rfl (by decide) (by decide) (by decide) 0 rfl rfl (big_in mw_1176 rfl) (big_in mw_10 rfl) (big_in mw_1173 rfl) (big_in mw_1175 rfl) (big_in sp_18 rfl) rfl rfl (by decide +kernel) ⟨by rw [hR]; exact Nat.le_of_ble_eq_true rfl, by rw [hR]; exact Nat.le_of_ble_eq_true rfl⟩ rfl (Nat.le_of_ble_eq_true rfl) d_Mo_sums_27 ⟨by rw [hR]; exact Nat.le_of_ble_eq_true rfl, by rw [hR]; exact Nat.le_of_ble_eq_true rfl⟩ rfl (fun v u H locs hp4 hP hD hS _ => ?_)
        obtain ⟨rf, rfl⟩ : ∃ z, z = u := ⟨_, rfl⟩
        obtain ⟨rfl, prf⟩ := hp4
        have hP : va_P D cls0 [(ow, .inl (cI, 108000, .inl fw)), (om, .inl (cI, 9, .inl fm)), (oh, .inl (cI, 10000, .inl fh)), (ok_, .inl (cI, 166400, .inl fk)), (oK, .inl (cI, 64, .inl fK)), (og, .inl (cI, 32, .inl fs)), (on_, .inl (cI, 32, .inl fn)), (mo, .inr (8, [.int (iZ 0), .int (iZ (np : Int)), .ref ow, .ref om, .ref ok_, .ref oK, .ref og, .ref on_, .ref oh, .ref ox, .int qn, .int qf, .ref op_, .int ql]))] H := hP
        have hD : va_D A [(ow, .inl (cI, 108000, .inl fw)), (om, .inl (cI, 9, .inl fm)), (oh, .inl (cI, 10000, .inl fh)), (ok_, .inl (cI, 166400, .inl fk)), (oK, .inl (cI, 64, .inl fK)), (og, .inl (cI, 32, .inl fs)), (on_, .inl (cI, 32, .inl fn)), (mo, .inr (8, [.int (iZ 0), .int (iZ (np : Int)), .ref ow, .ref om, .ref ok_, .ref oK, .ref og, .ref on_, .ref oh, .ref ox, .int qn, .int qf, .ref op_, .int ql]))] := hD
        show W p l e R s m args below meth c H locs _ _ Q (F0 m 30 ls [.int (iZ rf)])
        refine zz_if_eq (tgt := 35) hx hb d_Mo_sums_30 (by decide) (by omega) (fun c30 => ?_) (fun c30 => False.elim (by omega))
        refine lv_aload_n hx hb d_Mo_sums_35 rfl (lv_at hl 0 rfl) ?_
        refine lv_iconst (v := iZ (0)) hx hb d_Mo_sums_36 (by decide +kernel) ?_
        refine lv_iconst (v := iZ (2)) hx hb d_Mo_sums_37 (by decide +kernel) ?_
        refine lv_iload_n hx hb d_Mo_sums_38 rfl (lv_at hl 2 rfl) ?_
        refine zz_imul hx hb d_Mo_sums_39 ?_
        rw [show (2 * (a : Int) : Int) = ((2 * a : Nat) : Int) by omega]
        refine cv (n := 2) (wr := [(oh, .inl (cI, 10000, .inl fh)), (og, .inl (cI, 32, .inl fs)), (on_, .inl (cI, 32, .inl fn))]) (w1 := (fun (u : (Nat → Int32) × (Nat → Int32)) => [(mo, .inr (8, [.int (iZ 0), .int (iZ (np : Int)), .ref ow, .ref om, .ref ok_, .ref oK, .ref og, .ref on_, .ref oh, .ref ox, .int qn, .int qf, .ref op_, .int ql])), (ow, .inl (cI, 108000, .inl u.1)), (om, .inl (cI, 9, .inl u.2)), (ok_, .inl (cI, 166400, .inl fk)), (oK, .inl (cI, 64, .inl fK))])) (As := [.int (iZ 0), .int (iZ ((2 * a : Nat) : Int))]) (rest := []) K hP hD hK hS hA hl.1 (c_Mo_load l D mo (iZ 0) np ow om ok_ oK og on_ oh ox qn qf op_ ql fw fm cI fk fK val (kvf tv bv) 0 (2 * a) H.size hW hMR.1 (by decide) (by omega)) [7, 0, 1, 3, 4] [2, 5, 6] [0] rfl rfl rfl (by decide) (by decide) (by decide) 0 rfl rfl (big_in mw_1238 rfl) (big_in mw_10 rfl) (big_in mw_1235 rfl) (big_in mw_1237 rfl) (big_in sp_31 rfl) rfl rfl (by decide +kernel) ⟨by rw [hR]; exact Nat.le_of_ble_eq_true rfl, by rw [hR]; exact Nat.le_of_ble_eq_true rfl⟩ rfl (Nat.le_of_ble_eq_true rfl) d_Mo_sums_40 ⟨by rw [hR]; exact Nat.le_of_ble_eq_true rfl, by rw [hR]; exact Nat.le_of_ble_eq_true rfl⟩ rfl (fun v u H locs hp5 hP hD hS _ => ?_)
        obtain ⟨fx1, fy1⟩ := u
        try dsimp only at hp5
        obtain ⟨rfl, w1⟩ := hp5
        have hP : va_P D cls0 [(oh, .inl (cI, 10000, .inl fh)), (og, .inl (cI, 32, .inl fs)), (on_, .inl (cI, 32, .inl fn)), (mo, .inr (8, [.int (iZ 0), .int (iZ (np : Int)), .ref ow, .ref om, .ref ok_, .ref oK, .ref og, .ref on_, .ref oh, .ref ox, .int qn, .int qf, .ref op_, .int ql])), (ow, .inl (cI, 108000, .inl fx1)), (om, .inl (cI, 9, .inl fy1)), (ok_, .inl (cI, 166400, .inl fk)), (oK, .inl (cI, 64, .inl fK))] H := hP
        have hD : va_D A [(oh, .inl (cI, 10000, .inl fh)), (og, .inl (cI, 32, .inl fs)), (on_, .inl (cI, 32, .inl fn)), (mo, .inr (8, [.int (iZ 0), .int (iZ (np : Int)), .ref ow, .ref om, .ref ok_, .ref oK, .ref og, .ref on_, .ref oh, .ref ox, .int qn, .int qf, .ref op_, .int ql])), (ow, .inl (cI, 108000, .inl fx1)), (om, .inl (cI, 9, .inl fy1)), (ok_, .inl (cI, 166400, .inl fk)), (oK, .inl (cI, 64, .inl fK))] := hD
        show W p l e R s m args below meth c H locs _ _ Q (F0 m 43 ls [])
        rw [kvf_0] at w1
        obtain ⟨v1, hv1⟩ : ∃ z, z = up val 0 (tv a) := ⟨_, rfl⟩
        rw [← hv1] at w1
        refine lv_aload_n hx hb d_Mo_sums_43 rfl (lv_at hl 0 rfl) ?_
        refine lv_iconst (v := iZ (1)) hx hb d_Mo_sums_44 (by decide +kernel) ?_
        refine lv_iconst (v := iZ (2)) hx hb d_Mo_sums_45 (by decide +kernel) ?_
        refine lv_iload_n hx hb d_Mo_sums_46 rfl (lv_at hl 2 rfl) ?_
        refine zz_imul hx hb d_Mo_sums_47 ?_
        refine lv_iconst (v := iZ (1)) hx hb d_Mo_sums_48 (by decide +kernel) ?_
        refine zz_iadd hx hb d_Mo_sums_49 ?_
        rw [show (2 * (a : Int) + 1 : Int) = ((2 * a + 1 : Nat) : Int) by omega]
        refine cv (n := 2) (wr := [(oh, .inl (cI, 10000, .inl fh)), (og, .inl (cI, 32, .inl fs)), (on_, .inl (cI, 32, .inl fn))]) (w1 := (fun (u : (Nat → Int32) × (Nat → Int32)) => [(mo, .inr (8, [.int (iZ 0), .int (iZ (np : Int)), .ref ow, .ref om, .ref ok_, .ref oK, .ref og, .ref on_, .ref oh, .ref ox, .int qn, .int qf, .ref op_, .int ql])), (ow, .inl (cI, 108000, .inl u.1)), (om, .inl (cI, 9, .inl u.2)), (ok_, .inl (cI, 166400, .inl fk)), (oK, .inl (cI, 64, .inl fK))])) (As := [.int (iZ 1), .int (iZ ((2 * a + 1 : Nat) : Int))]) (rest := []) K hP hD hK hS hA hl.1 (c_Mo_load l D mo (iZ 0) np ow om ok_ oK og on_ oh ox qn qf op_ ql fx1 fy1 cI fk fK v1 (kvf tv bv) 1 (2 * a + 1) H.size w1 hMR.1 (by decide) (by omega)) [3, 4, 5, 6, 7] [0, 1, 2] [0] rfl rfl rfl (by decide) (by decide) (by decide) 0 rfl rfl (big_in mw_1238 rfl) (big_in mw_10 rfl) (big_in mw_1235 rfl) (big_in mw_1237 rfl) (big_in sp_31 rfl) rfl rfl (by decide +kernel) ⟨by rw [hR]; exact Nat.le_of_ble_eq_true rfl, by rw [hR]; exact Nat.le_of_ble_eq_true rfl⟩ rfl (Nat.le_of_ble_eq_true rfl) d_Mo_sums_50 ⟨by rw [hR]; exact Nat.le_of_ble_eq_true rfl, by rw [hR]; exact Nat.le_of_ble_eq_true rfl⟩ rfl (fun v u H locs hp6 hP hD hS _ => ?_)
        obtain ⟨fx2, fy2⟩ := u
        try dsimp only at hp6
        obtain ⟨rfl, w2⟩ := hp6
        have hP : va_P D cls0 [(oh, .inl (cI, 10000, .inl fh)), (og, .inl (cI, 32, .inl fs)), (on_, .inl (cI, 32, .inl fn)), (mo, .inr (8, [.int (iZ 0), .int (iZ (np : Int)), .ref ow, .ref om, .ref ok_, .ref oK, .ref og, .ref on_, .ref oh, .ref ox, .int qn, .int qf, .ref op_, .int ql])), (ow, .inl (cI, 108000, .inl fx2)), (om, .inl (cI, 9, .inl fy2)), (ok_, .inl (cI, 166400, .inl fk)), (oK, .inl (cI, 64, .inl fK))] H := hP
        have hD : va_D A [(oh, .inl (cI, 10000, .inl fh)), (og, .inl (cI, 32, .inl fs)), (on_, .inl (cI, 32, .inl fn)), (mo, .inr (8, [.int (iZ 0), .int (iZ (np : Int)), .ref ow, .ref om, .ref ok_, .ref oK, .ref og, .ref on_, .ref oh, .ref ox, .int qn, .int qf, .ref op_, .int ql])), (ow, .inl (cI, 108000, .inl fx2)), (om, .inl (cI, 9, .inl fy2)), (ok_, .inl (cI, 166400, .inl fk)), (oK, .inl (cI, 64, .inl fK))] := hD
        show W p l e R s m args below meth c H locs _ _ Q (F0 m 53 ls [])
        rw [kvf_1] at w2
        obtain ⟨v2, hv2⟩ : ∃ z, z = up v1 1 (bv a) := ⟨_, rfl⟩
        rw [← hv2] at w2
        refine lv_aload_n hx hb d_Mo_sums_53 rfl (lv_at hl 0 rfl) ?_
        refine lv_iconst (v := iZ (2)) hx hb d_Mo_sums_54 (by decide +kernel) ?_
        refine lv_iconst (v := iZ (2)) hx hb d_Mo_sums_55 (by decide +kernel) ?_
        refine lv_iload_n hx hb d_Mo_sums_56 rfl (lv_at hl 3 rfl) ?_
        refine zz_imul hx hb d_Mo_sums_57 ?_
        rw [show (2 * (b_ : Int) : Int) = ((2 * b_ : Nat) : Int) by omega]
        refine cv (n := 2) (wr := [(oh, .inl (cI, 10000, .inl fh)), (og, .inl (cI, 32, .inl fs)), (on_, .inl (cI, 32, .inl fn))]) (w1 := (fun (u : (Nat → Int32) × (Nat → Int32)) => [(mo, .inr (8, [.int (iZ 0), .int (iZ (np : Int)), .ref ow, .ref om, .ref ok_, .ref oK, .ref og, .ref on_, .ref oh, .ref ox, .int qn, .int qf, .ref op_, .int ql])), (ow, .inl (cI, 108000, .inl u.1)), (om, .inl (cI, 9, .inl u.2)), (ok_, .inl (cI, 166400, .inl fk)), (oK, .inl (cI, 64, .inl fK))])) (As := [.int (iZ 2), .int (iZ ((2 * b_ : Nat) : Int))]) (rest := []) K hP hD hK hS hA hl.1 (c_Mo_load l D mo (iZ 0) np ow om ok_ oK og on_ oh ox qn qf op_ ql fx2 fy2 cI fk fK v2 (kvf tv bv) 2 (2 * b_) H.size w2 hMR.1 (by decide) (by omega)) [3, 4, 5, 6, 7] [0, 1, 2] [0] rfl rfl rfl (by decide) (by decide) (by decide) 0 rfl rfl (big_in mw_1238 rfl) (big_in mw_10 rfl) (big_in mw_1235 rfl) (big_in mw_1237 rfl) (big_in sp_31 rfl) rfl rfl (by decide +kernel) ⟨by rw [hR]; exact Nat.le_of_ble_eq_true rfl, by rw [hR]; exact Nat.le_of_ble_eq_true rfl⟩ rfl (Nat.le_of_ble_eq_true rfl) d_Mo_sums_58 ⟨by rw [hR]; exact Nat.le_of_ble_eq_true rfl, by rw [hR]; exact Nat.le_of_ble_eq_true rfl⟩ rfl (fun v u H locs hp7 hP hD hS _ => ?_)
        obtain ⟨fx3, fy3⟩ := u
        try dsimp only at hp7
        obtain ⟨rfl, w3⟩ := hp7
        have hP : va_P D cls0 [(oh, .inl (cI, 10000, .inl fh)), (og, .inl (cI, 32, .inl fs)), (on_, .inl (cI, 32, .inl fn)), (mo, .inr (8, [.int (iZ 0), .int (iZ (np : Int)), .ref ow, .ref om, .ref ok_, .ref oK, .ref og, .ref on_, .ref oh, .ref ox, .int qn, .int qf, .ref op_, .int ql])), (ow, .inl (cI, 108000, .inl fx3)), (om, .inl (cI, 9, .inl fy3)), (ok_, .inl (cI, 166400, .inl fk)), (oK, .inl (cI, 64, .inl fK))] H := hP
        have hD : va_D A [(oh, .inl (cI, 10000, .inl fh)), (og, .inl (cI, 32, .inl fs)), (on_, .inl (cI, 32, .inl fn)), (mo, .inr (8, [.int (iZ 0), .int (iZ (np : Int)), .ref ow, .ref om, .ref ok_, .ref oK, .ref og, .ref on_, .ref oh, .ref ox, .int qn, .int qf, .ref op_, .int ql])), (ow, .inl (cI, 108000, .inl fx3)), (om, .inl (cI, 9, .inl fy3)), (ok_, .inl (cI, 166400, .inl fk)), (oK, .inl (cI, 64, .inl fK))] := hD
        show W p l e R s m args below meth c H locs _ _ Q (F0 m 61 ls [])
        rw [kvf_0] at w3
        obtain ⟨v3, hv3⟩ : ∃ z, z = up v2 2 (tv b_) := ⟨_, rfl⟩
        rw [← hv3] at w3
        refine lv_aload_n hx hb d_Mo_sums_61 rfl (lv_at hl 0 rfl) ?_
        refine lv_iconst (v := iZ (3)) hx hb d_Mo_sums_62 (by decide +kernel) ?_
        refine lv_iconst (v := iZ (2)) hx hb d_Mo_sums_63 (by decide +kernel) ?_
        refine lv_iload_n hx hb d_Mo_sums_64 rfl (lv_at hl 3 rfl) ?_
        refine zz_imul hx hb d_Mo_sums_65 ?_
        refine lv_iconst (v := iZ (1)) hx hb d_Mo_sums_66 (by decide +kernel) ?_
        refine zz_iadd hx hb d_Mo_sums_67 ?_
        rw [show (2 * (b_ : Int) + 1 : Int) = ((2 * b_ + 1 : Nat) : Int) by omega]
        refine cv (n := 2) (wr := [(oh, .inl (cI, 10000, .inl fh)), (og, .inl (cI, 32, .inl fs)), (on_, .inl (cI, 32, .inl fn))]) (w1 := (fun (u : (Nat → Int32) × (Nat → Int32)) => [(mo, .inr (8, [.int (iZ 0), .int (iZ (np : Int)), .ref ow, .ref om, .ref ok_, .ref oK, .ref og, .ref on_, .ref oh, .ref ox, .int qn, .int qf, .ref op_, .int ql])), (ow, .inl (cI, 108000, .inl u.1)), (om, .inl (cI, 9, .inl u.2)), (ok_, .inl (cI, 166400, .inl fk)), (oK, .inl (cI, 64, .inl fK))])) (As := [.int (iZ 3), .int (iZ ((2 * b_ + 1 : Nat) : Int))]) (rest := []) K hP hD hK hS hA hl.1 (c_Mo_load l D mo (iZ 0) np ow om ok_ oK og on_ oh ox qn qf op_ ql fx3 fy3 cI fk fK v3 (kvf tv bv) 3 (2 * b_ + 1) H.size w3 hMR.1 (by decide) (by omega)) [3, 4, 5, 6, 7] [0, 1, 2] [0] rfl rfl rfl (by decide) (by decide) (by decide) 0 rfl rfl (big_in mw_1238 rfl) (big_in mw_10 rfl) (big_in mw_1235 rfl) (big_in mw_1237 rfl) (big_in sp_31 rfl) rfl rfl (by decide +kernel) ⟨by rw [hR]; exact Nat.le_of_ble_eq_true rfl, by rw [hR]; exact Nat.le_of_ble_eq_true rfl⟩ rfl (Nat.le_of_ble_eq_true rfl) d_Mo_sums_68 ⟨by rw [hR]; exact Nat.le_of_ble_eq_true rfl, by rw [hR]; exact Nat.le_of_ble_eq_true rfl⟩ rfl (fun v u H locs hp8 hP hD hS _ => ?_)
        obtain ⟨fx4, fy4⟩ := u
        try dsimp only at hp8
        obtain ⟨rfl, w4⟩ := hp8
        have hP : va_P D cls0 [(oh, .inl (cI, 10000, .inl fh)), (og, .inl (cI, 32, .inl fs)), (on_, .inl (cI, 32, .inl fn)), (mo, .inr (8, [.int (iZ 0), .int (iZ (np : Int)), .ref ow, .ref om, .ref ok_, .ref oK, .ref og, .ref on_, .ref oh, .ref ox, .int qn, .int qf, .ref op_, .int ql])), (ow, .inl (cI, 108000, .inl fx4)), (om, .inl (cI, 9, .inl fy4)), (ok_, .inl (cI, 166400, .inl fk)), (oK, .inl (cI, 64, .inl fK))] H := hP
        have hD : va_D A [(oh, .inl (cI, 10000, .inl fh)), (og, .inl (cI, 32, .inl fs)), (on_, .inl (cI, 32, .inl fn)), (mo, .inr (8, [.int (iZ 0), .int (iZ (np : Int)), .ref ow, .ref om, .ref ok_, .ref oK, .ref og, .ref on_, .ref oh, .ref ox, .int qn, .int qf, .ref op_, .int ql])), (ow, .inl (cI, 108000, .inl fx4)), (om, .inl (cI, 9, .inl fy4)), (ok_, .inl (cI, 166400, .inl fk)), (oK, .inl (cI, 64, .inl fK))] := hD
        show W p l e R s m args below meth c H locs _ _ Q (F0 m 71 ls [])
        rw [kvf_1] at w4
        obtain ⟨v4, hv4⟩ : ∃ z, z = up v3 3 (bv b_) := ⟨_, rfl⟩
        rw [← hv4] at w4
        have y0 : v4 0 = tv a := by simp [hv4, hv3, hv2, hv1, up]
        have y1 : v4 1 = bv a := by simp [hv4, hv3, hv2, hv1, up]
        have y2 : v4 2 = tv b_ := by simp [hv4, hv3, hv2, hv1, up]
        have y3 : v4 3 = bv b_ := by simp [hv4, hv3, hv2, hv1, up]
        refine lv_aload_n hx hb d_Mo_sums_71 rfl (lv_at hl 0 rfl) ?_
        refine lv_aload_n hx hb d_Mo_sums_72 rfl (lv_at hl 0 rfl) ?_
        refine va_get (D := D) (ci := 8) (v := .ref og) (C := R_Mo) (T := F_Mo) (N := 14) hx hb hts i_Mo hown hK hP 3 rfl rfl 6 (by decide) (hts _ (big_in mw_1121 rfl)) (fun _ h9 => h9) rfl d_Mo_sums_73 ?_
        refine lv_iload_n hx hb d_Mo_sums_76 rfl (lv_at hl 2 rfl) ?_
        refine zz_iald hx hb hK hP 1 0 rfl rfl (a) (by omega) (by omega) (by omega) d_Mo_sums_77 ?_
        rw [hMR.2.1 a (by omega)]
        refine lv_iload hx hb d_Mo_sums_78 (lv_at hl 4 rfl) ?_
        refine zz_if_eq (tgt := 93) hx hb d_Mo_sums_80 (by decide) (by omega) (fun c80 => ?_) (fun c80 => False.elim (by omega))
        refine lv_aload_n hx hb d_Mo_sums_93 rfl (lv_at hl 0 rfl) ?_
        refine va_get (D := D) (ci := 8) (v := .ref og) (C := R_Mo) (T := F_Mo) (N := 14) hx hb hts i_Mo hown hK hP 3 rfl rfl 6 (by decide) (hts _ (big_in mw_1121 rfl)) (fun _ h9 => h9) rfl d_Mo_sums_94 ?_
        refine lv_iload_n hx hb d_Mo_sums_97 rfl (lv_at hl 3 rfl) ?_
        refine zz_iald hx hb hK hP 1 0 rfl rfl (b_) (by omega) (by omega) (by omega) d_Mo_sums_98 ?_
        rw [hMR.2.1 b_ (by omega)]
        refine cv (n := 2) (wr := [(oh, .inl (cI, 10000, .inl fh)), (og, .inl (cI, 32, .inl fs)), (on_, .inl (cI, 32, .inl fn)), (ok_, .inl (cI, 166400, .inl fk)), (oK, .inl (cI, 64, .inl fK))]) (w1 := (fun (u : Int × (Nat → Int32) × (Nat → Int32) × (Nat → Nat)) => [(mo, .inr (8, [.int (iZ 0), .int (iZ (np : Int)), .ref ow, .ref om, .ref ok_, .ref oK, .ref og, .ref on_, .ref oh, .ref ox, .int qn, .int qf, .ref op_, .int ql])), (ow, .inl (cI, 108000, .inl u.2.1)), (om, .inl (cI, 9, .inl u.2.2.1))])) (As := [.int (iZ (sg a)), .int (iZ (sg b_))]) (rest := []) K hP hD hK hS hA hl.1 (c_Mo_sum l D mo (iZ 0) np ow om ok_ oK og on_ oh ox qn qf op_ ql fx4 fy4 cI v4 (sg a) (sg b_) H.size w4 ja3 (by omega) (by rw [y0]; exact ja2) (by rw [y2]; exact jb2) (by rw [y1]; exact pa) (by rw [y3]; exact pb) (by rw [y0, y3]; omega) (by rw [y2, y1]; omega) (by rw [y1, y3]; omega)) [3, 4, 5] [0, 1, 2, 6, 7] [0] rfl rfl rfl (by decide) (by decide) (by decide) 0 rfl rfl (big_in mw_1254 rfl) (big_in mw_10 rfl) (big_in mw_1251 rfl) (big_in mw_1253 rfl) (big_in sp_33 rfl) rfl rfl (by decide +kernel) ⟨by rw [hR]; exact Nat.le_of_ble_eq_true rfl, by rw [hR]; exact Nat.le_of_ble_eq_true rfl⟩ rfl (Nat.le_of_ble_eq_true rfl) d_Mo_sums_99 ⟨by rw [hR]; exact Nat.le_of_ble_eq_true rfl, by rw [hR]; exact Nat.le_of_ble_eq_true rfl⟩ rfl (fun v u H locs hp9 hP hD hS _ => ?_)
        obtain ⟨rs, fx5, fy5, v5⟩ := u
        try dsimp only at hp9
        obtain ⟨rfl, ers, w5, x0, x1⟩ := hp9
        have hP : va_P D cls0 [(oh, .inl (cI, 10000, .inl fh)), (og, .inl (cI, 32, .inl fs)), (on_, .inl (cI, 32, .inl fn)), (ok_, .inl (cI, 166400, .inl fk)), (oK, .inl (cI, 64, .inl fK)), (mo, .inr (8, [.int (iZ 0), .int (iZ (np : Int)), .ref ow, .ref om, .ref ok_, .ref oK, .ref og, .ref on_, .ref oh, .ref ox, .int qn, .int qf, .ref op_, .int ql])), (ow, .inl (cI, 108000, .inl fx5)), (om, .inl (cI, 9, .inl fy5))] H := hP
        have hD : va_D A [(oh, .inl (cI, 10000, .inl fh)), (og, .inl (cI, 32, .inl fs)), (on_, .inl (cI, 32, .inl fn)), (ok_, .inl (cI, 166400, .inl fk)), (oK, .inl (cI, 64, .inl fK)), (mo, .inr (8, [.int (iZ 0), .int (iZ (np : Int)), .ref ow, .ref om, .ref ok_, .ref oK, .ref og, .ref on_, .ref oh, .ref ox, .int qn, .int qf, .ref op_, .int ql])), (ow, .inl (cI, 108000, .inl fx5)), (om, .inl (cI, 9, .inl fy5))] := hD
        show W p l e R s m args below meth c H locs _ _ Q (F0 m 102 ls [.int (iZ rs)])
        rw [y0, y1, y2, y3] at ers x0
        rw [y1, y3] at x1
        have l5 : lm (sg a * ((tv a * bv b_ : Nat) : Int) + sg b_ * ((tv b_ * bv a : Nat) : Int)).natAbs ≤ _ := sum_lm ja3 jb3
        have l6 := lm_mul (bv a) (bv b_)
        have srs : -1 ≤ rs ∧ rs ≤ 1 := by rw [ers]; exact sgn_b _
        refine lv_istore (lv' := [(5, .int (iZ rs)), (0, .ref mo), (1, .int (iZ (to : Int))), (2, .int (iZ (a : Int))), (3, .int (iZ (b_ : Int))), (4, .int (iZ 0))]) hx hb d_Mo_sums_102 hl (by decide) rfl (fun ls hl => ?_)
        refine lv_aload_n hx hb d_Mo_sums_104 rfl (lv_at hl 1 rfl) ?_
        refine lv_iload_n hx hb d_Mo_sums_105 rfl (lv_at hl 2 rfl) ?_
        refine lv_iload hx hb d_Mo_sums_106 (lv_at hl 0 rfl) ?_
        refine lv_iconst (v := iZ (2)) hx hb d_Mo_sums_108 (by decide +kernel) ?_
        refine cv (n := 3) (wr := []) (w1 := (fun (u : (Nat → Int32) × (Nat → Int32) × (Nat → Int32) × (Nat → Int32) × (Nat → Int32) × (Nat → Int32) × (Nat → Int32) × (Nat → Nat)) => [(mo, .inr (8, [.int (iZ 0), .int (iZ (np : Int)), .ref ow, .ref om, .ref ok_, .ref oK, .ref og, .ref on_, .ref oh, .ref ox, .int qn, .int qf, .ref op_, .int ql])), (ow, .inl (cI, 108000, .inl u.1)), (om, .inl (cI, 9, .inl u.2.1)), (oh, .inl (cI, 10000, .inl u.2.2.1)), (ok_, .inl (cI, 166400, .inl u.2.2.2.1)), (oK, .inl (cI, 64, .inl u.2.2.2.2.1)), (og, .inl (cI, 32, .inl u.2.2.2.2.2.1)), (on_, .inl (cI, 32, .inl u.2.2.2.2.2.2.1))])) (As := [.int (iZ (to : Int)), .int (iZ rs), .int (iZ 2)]) (rest := []) K hP hD hK hS hA hl.1 (c_Mo_put l D mo (iZ 0) np ow om ok_ oK og on_ oh ox qn qf op_ ql fx5 fy5 cI fh fk fK fs fn v5 tv bv sg to rs 2 H.size w5 hMR (by omega) hnd hnp (by omega) (by decide) (by rw [x1]; exact Nat.mul_pos pa pb) (by rw [x0]; omega) (by rw [x1]; omega) (by rw [x0, x1]; exact hfit)) [5, 6, 7, 0, 3, 4, 1, 2] [] [0] rfl rfl rfl (by decide) (by decide) (by decide) 0 rfl rfl (big_in mw_1185 rfl) (big_in mw_10 rfl) (big_in mw_1182 rfl) (big_in mw_1184 rfl) (big_in sp_20 rfl) rfl rfl (by decide +kernel) ⟨by rw [hR]; exact Nat.le_of_ble_eq_true rfl, by rw [hR]; exact Nat.le_of_ble_eq_true rfl⟩ rfl (Nat.le_of_ble_eq_true rfl) d_Mo_sums_109 ⟨by rw [hR]; exact Nat.le_of_ble_eq_true rfl, by rw [hR]; exact Nat.le_of_ble_eq_true rfl⟩ rfl (fun v u H locs hp10 hP hD hS _ => ?_)
        obtain ⟨fa, fb, fc, fd, fe, ff, fg, v9⟩ := u
        try dsimp only at hp10
        obtain ⟨rfl, w9, q9⟩ := hp10
        have hP : va_P D cls0 [(mo, .inr (8, [.int (iZ 0), .int (iZ (np : Int)), .ref ow, .ref om, .ref ok_, .ref oK, .ref og, .ref on_, .ref oh, .ref ox, .int qn, .int qf, .ref op_, .int ql])), (ow, .inl (cI, 108000, .inl fa)), (om, .inl (cI, 9, .inl fb)), (oh, .inl (cI, 10000, .inl fc)), (ok_, .inl (cI, 166400, .inl fd)), (oK, .inl (cI, 64, .inl fe)), (og, .inl (cI, 32, .inl ff)), (on_, .inl (cI, 32, .inl fg))] H := hP
        have hD : va_D A [(mo, .inr (8, [.int (iZ 0), .int (iZ (np : Int)), .ref ow, .ref om, .ref ok_, .ref oK, .ref og, .ref on_, .ref oh, .ref ox, .int qn, .int qf, .ref op_, .int ql])), (ow, .inl (cI, 108000, .inl fa)), (om, .inl (cI, 9, .inl fb)), (oh, .inl (cI, 10000, .inl fc)), (ok_, .inl (cI, 166400, .inl fd)), (oK, .inl (cI, 64, .inl fe)), (og, .inl (cI, 32, .inl ff)), (on_, .inl (cI, 32, .inl fg))] := hD
        show W p l e R s m args below meth c H locs _ _ Q (F0 m 112 ls [.int (iZ ((lm (rdN (v5 0) (v5 1)) : Int) + (lm (rdD (v5 0) (v5 1)) : Int)))])
        rw [x0, x1]
        rw [x0, x1] at q9
        have hP9 : va_P D cls0 [(mo, .inr (8, [.int (iZ 0), .int (iZ (np : Int)), .ref ow, .ref om, .ref ok_, .ref oK, .ref og, .ref on_, .ref oh, .ref ox, .int qn, .int qf, .ref op_, .int ql])), (ow, .inl (cI, 108000, .inl fa)), (om, .inl (cI, 9, .inl fb)), (oh, .inl (cI, 10000, .inl fc)), (ok_, .inl (cI, 166400, .inl fd)), (oK, .inl (cI, 64, .inl fe)), (og, .inl (cI, 32, .inl ff)), (on_, .inl (cI, 32, .inl fg))] H := hP.sub [0, 1, 2, 3, 4, 5, 6, 7] rfl
        have hD9 : va_D A [(mo, .inr (8, [.int (iZ 0), .int (iZ (np : Int)), .ref ow, .ref om, .ref ok_, .ref oK, .ref og, .ref on_, .ref oh, .ref ox, .int qn, .int qf, .ref op_, .int ql])), (ow, .inl (cI, 108000, .inl fa)), (om, .inl (cI, 9, .inl fb)), (oh, .inl (cI, 10000, .inl fc)), (ok_, .inl (cI, 166400, .inl fd)), (oK, .inl (cI, 64, .inl fe)), (og, .inl (cI, 32, .inl ff)), (on_, .inl (cI, 32, .inl fg))] := hD.sub [0, 1, 2, 3, 4, 5, 6, 7] (by decide) rfl
        rw [hQ, ← hAe]
        refine r_i (v := (iZ ((lm (rdN (((sg a * ((tv a * bv b_ : Nat) : Int) + sg b_ * ((tv b_ * bv a : Nat) : Int)).natAbs)) ((bv a * bv b_))) : Int) + (lm (rdD (((sg a * ((tv a * bv b_ : Nat) : Int) + sg b_ * ((tv b_ * bv a : Nat) : Int)).natAbs)) ((bv a * bv b_))) : Int)))) K (fa, fb, fc, fd, fe, ff, fg, v9) hS d_Mo_sums_112 ?_ (fun t ht hv => ?_)
        · try dsimp only
          refine ⟨rfl, w9, ?_⟩
          rw [← ers]; exact q9
        · exact ⟨by rw [ht]; exact hP9, va_K.moved hv hK, by rw [← hAe]; exact hD9⟩
set_option maxHeartbeats 4000000 in
set_option maxRecDepth 100000 in
/-- Mo_sums -/
theorem f_Mo_sums0 (l : Launch) (D : va_G) (mo : Nat) (qc : Int32) (np : Nat) (ow : Nat) (om : Nat) (ok_ : Nat) (oK : Nat) (og : Nat) (on_ : Nat) (oh : Nat) (ox : Nat) (qn : Int32) (qf : Int32) (op_ : Nat) (ql : Int32) (fw : Nat → Int32) (fm : Nat → Int32) (cI : ClassId) (fh : Nat → Int32) (fk : Nat → Int32) (fK : Nat → Int32) (fs : Nat → Int32) (fn : Nat → Int32) (val : Nat → Nat) (tv : Nat → Nat) (bv : Nat → Nat) (sg : Nat → Int) (to : Nat) (a : Nat) (b_ : Nat) (sz : Nat) (hW : WB fw fm val) (hMR : MoR fk fK fs fn tv bv sg) (hnd : ndS tv bv 32 ≤ np) (hnp : np ≤ 1024) (J : RgC tv bv sg) (hbv : ∀ r, r < 32 → 0 < bv r) (t1 : to < 32) (t2 : a < 32) (t3_ : b_ < 32) (hfit : np + (lm (tv to) + lm (bv to)) < ndS tv bv 32 + (lm (rdN ((sg a * ((tv a * bv b_ : Nat) : Int) + sg b_ * ((tv b_ * bv a : Nat) : Int)).natAbs) (bv a * bv b_)) + lm (rdD ((sg a * ((tv a * bv b_ : Nat) : Int) + sg b_ * ((tv b_ * bv a : Nat) : Int)).natAbs) (bv a * bv b_)))) : Met l y_Mo_sums (wsB y_Mo_sums b_Mo_sums 6 (some .int)) ({ frames := 5, cells := 0, slots := 0, locals := 125 }) (va_Pc [.ref mo, .int (iZ (to : Int)), .int (iZ (a : Int)), .int (iZ (b_ : Int)), .int (iZ 0)] (wPre D [(cI, .int)] [(mo, .inr (8, [.int qc, .int (iZ (np : Int)), .ref ow, .ref om, .ref ok_, .ref oK, .ref og, .ref on_, .ref oh, .ref ox, .int qn, .int qf, .ref op_, .int ql])), (ow, .inl (cI, 108000, .inl fw)), (om, .inl (cI, 9, .inl fm)), (oh, .inl (cI, 10000, .inl fh)), (ok_, .inl (cI, 166400, .inl fk)), (oK, .inl (cI, 64, .inl fK)), (og, .inl (cI, 32, .inl fs)), (on_, .inl (cI, 32, .inl fn))] sz)) (va_QV (fun (v_9 : Option Value) (u_9 : (Nat → Int32) × (Nat → Int32) × (Nat → Int32) × (Nat → Nat)) => v_9 = some (.int (iZ 0)) ∧ (WB u_9.1 u_9.2.1 u_9.2.2.2)) (fun u_9 => wPost D [(cI, .int)] [(mo, .inr (8, [.int qc, .int (iZ (np : Int)), .ref ow, .ref om, .ref ok_, .ref oK, .ref og, .ref on_, .ref oh, .ref ox, .int qn, .int qf, .ref op_, .int ql])), (ow, .inl (cI, 108000, .inl fw)), (om, .inl (cI, 9, .inl fm)), (oh, .inl (cI, 10000, .inl fh)), (ok_, .inl (cI, 166400, .inl fk)), (oK, .inl (cI, 64, .inl fK)), (og, .inl (cI, 32, .inl fs)), (on_, .inl (cI, 32, .inl fn))] [(mo, .inr (8, [.int (iZ 2), .int (iZ (np : Int)), .ref ow, .ref om, .ref ok_, .ref oK, .ref og, .ref on_, .ref oh, .ref ox, .int qn, .int qf, .ref op_, .int ql])), (ow, .inl (cI, 108000, .inl u_9.1)), (om, .inl (cI, 9, .inl u_9.2.1)), (oh, .inl (cI, 10000, .inl u_9.2.2.1)), (ok_, .inl (cI, 166400, .inl fk)), (oK, .inl (cI, 64, .inl fK)), (og, .inl (cI, 32, .inl fs)), (on_, .inl (cI, 32, .inl fn))] sz) (va_A [(mo, .inr (8, [.int qc, .int (iZ (np : Int)), .ref ow, .ref om, .ref ok_, .ref oK, .ref og, .ref on_, .ref oh, .ref ox, .int qn, .int qf, .ref op_, .int ql])), (ow, .inl (cI, 108000, .inl fw)), (om, .inl (cI, 9, .inl fm)), (oh, .inl (cI, 10000, .inl fh)), (ok_, .inl (cI, 166400, .inl fk)), (oK, .inl (cI, 64, .inl fK)), (og, .inl (cI, 32, .inl fs)), (on_, .inl (cI, 32, .inl fn))] sz)) 0 0 (va_A [(mo, .inr (8, [.int qc, .int (iZ (np : Int)), .ref ow, .ref om, .ref ok_, .ref oK, .ref og, .ref on_, .ref oh, .ref ox, .int qn, .int qf, .ref op_, .int ql])), (ow, .inl (cI, 108000, .inl fw)), (om, .inl (cI, 9, .inl fm)), (oh, .inl (cI, 10000, .inl fh)), (ok_, .inl (cI, 166400, .inl fk)), (oK, .inl (cI, 64, .inl fK)), (og, .inl (cI, 32, .inl fs)), (on_, .inl (cI, 32, .inl fn))] sz) := by
  refine met_enter (by decide +kernel) (Nat.le_of_ble_eq_true rfl) ?_
  intro p e s m args below meth c ls A R Q H locs K hin hAe hA hR hQ hP hK hD hS hl
  obtain ⟨hx, hb, hml, hrt, hlk, hts, hown, hno⟩ := id K
  have hl : lv_has ls 6 [(0, .ref mo), (1, .int (iZ (to : Int))), (2, .int (iZ (a : Int))), (3, .int (iZ (b_ : Int))), (4, .int (iZ 0))] := hl
  have hlr : ∀ q, q < 32 → lm (tv q) + lm (bv q) ≤ 1024 := fun q hq => by have z := ndS_le (tv := tv) (bv := bv) hq; omega
  have hnt : ∀ q, q < 32 → nd (tv q) ≤ 2600 := fun q hq => by have z := nd_lm (v := tv q) (L := 1024) (by have y := hlr q hq; omega); omega
  have hnb : ∀ q, q < 32 → nd (bv q) ≤ 2600 := fun q hq => by have z := nd_lm (v := bv q) (L := 1024) (by have y := hlr q hq; omega); omega
  obtain ⟨ja1, ja2, ja3⟩ := J a (by omega)
  obtain ⟨jb1, jb2, jb3⟩ := J b_ (by omega)
  have pa := hbv a (by omega)
  have pb := hbv b_ (by omega)
  have la := hlr a (by omega)
  have lb := hlr b_ (by omega)
  have n1 := hnt a (by omega)
  have n2 := hnb a (by omega)
  have n3 := hnt b_ (by omega)
  have n4 := hnb b_ (by omega)
  refine lv_aload_n hx hb d_Mo_sums_0 rfl (lv_at hl 0 rfl) ?_
  refine lv_iload_n hx hb d_Mo_sums_1 rfl (lv_at hl 1 rfl) ?_
  refine cs (n := 1) (wr := [(mo, .inr (8, [.int qc, .int (iZ (np : Int)), .ref ow, .ref om, .ref ok_, .ref oK, .ref og, .ref on_, .ref oh, .ref ox, .int qn, .int qf, .ref op_, .int ql])), (ow, .inl (cI, 108000, .inl fw)), (om, .inl (cI, 9, .inl fm)), (oh, .inl (cI, 10000, .inl fh)), (ok_, .inl (cI, 166400, .inl fk)), (oK, .inl (cI, 64, .inl fK)), (og, .inl (cI, 32, .inl fs)), (on_, .inl (cI, 32, .inl fn))]) (w1 := (fun (u : Int) => [])) (As := [.int (iZ (to : Int))]) (rest := [.ref mo]) K hP hD hK hS hA hl.1 (c_Mo_isRegister l D (to : Int) H.size (by omega)) [] [0, 1, 2, 3, 4, 5, 6, 7] [] rfl rfl rfl (by decide) (by decide) (by decide) (big_in mw_1172 rfl) (big_in mw_10 rfl) (big_in mw_1170 rfl) (big_in mw_1171 rfl) rfl rfl (by decide +kernel) ⟨by rw [hR]; exact Nat.le_of_ble_eq_true rfl, by rw [hR]; exact Nat.le_of_ble_eq_true rfl⟩ rfl (Nat.le_of_ble_eq_true rfl) d_Mo_sums_2 ⟨by rw [hR]; exact Nat.le_of_ble_eq_true rfl, by rw [hR]; exact Nat.le_of_ble_eq_true rfl⟩ rfl (fun v u H locs hp1 hP hD hS _ => ?_)
  obtain ⟨r2, rfl⟩ : ∃ z, z = u := ⟨_, rfl⟩
  obtain ⟨rfl, p2⟩ := hp1
  have hP : va_P D cls0 [(mo, .inr (8, [.int qc, .int (iZ (np : Int)), .ref ow, .ref om, .ref ok_, .ref oK, .ref og, .ref on_, .ref oh, .ref ox, .int qn, .int qf, .ref op_, .int ql])), (ow, .inl (cI, 108000, .inl fw)), (om, .inl (cI, 9, .inl fm)), (oh, .inl (cI, 10000, .inl fh)), (ok_, .inl (cI, 166400, .inl fk)), (oK, .inl (cI, 64, .inl fK)), (og, .inl (cI, 32, .inl fs)), (on_, .inl (cI, 32, .inl fn))] H := hP
  have hD : va_D A [(mo, .inr (8, [.int qc, .int (iZ (np : Int)), .ref ow, .ref om, .ref ok_, .ref oK, .ref og, .ref on_, .ref oh, .ref ox, .int qn, .int qf, .ref op_, .int ql])), (ow, .inl (cI, 108000, .inl fw)), (om, .inl (cI, 9, .inl fm)), (oh, .inl (cI, 10000, .inl fh)), (ok_, .inl (cI, 166400, .inl fk)), (oK, .inl (cI, 64, .inl fK)), (og, .inl (cI, 32, .inl fs)), (on_, .inl (cI, 32, .inl fn))] := hD
  show W p l e R s m args below meth c H locs _ _ Q (F0 m 5 ls [.int (iZ r2), .ref mo])
  have b2 : 0 ≤ r2 ∧ r2 ≤ 1 := by omega
  refine zz_if_eq (tgt := 26) hx hb d_Mo_sums_5 (by decide) (by omega) (fun c5 => ?_) (fun c5 => ?_)
  · refine lv_iconst (v := iZ (1)) hx hb d_Mo_sums_26 (by decide +kernel) ?_
    exfalso
    omega
  · refine lv_iload_n hx hb d_Mo_sums_8 rfl (lv_at hl 2 rfl) ?_
    refine cs (n := 1) (wr := [(mo, .inr (8, [.int qc, .int (iZ (np : Int)), .ref ow, .ref om, .ref ok_, .ref oK, .ref og, .ref on_, .ref oh, .ref ox, .int qn, .int qf, .ref op_, .int ql])), (ow, .inl (cI, 108000, .inl fw)), (om, .inl (cI, 9, .inl fm)), (oh, .inl (cI, 10000, .inl fh)), (ok_, .inl (cI, 166400, .inl fk)), (oK, .inl (cI, 64, .inl fK)), (og, .inl (cI, 32, .inl fs)), (on_, .inl (cI, 32, .inl fn))]) (w1 := (fun (u : Int) => [])) (As := [.int (iZ (a : Int))]) (rest := [.ref mo]) K hP hD hK hS hA hl.1 (c_Mo_isRegister l D (a : Int) H.size (by omega)) [] [0, 1, 2, 3, 4, 5, 6, 7] [] rfl rfl rfl (by decide) (by decide) (by decide) (big_in mw_1172 rfl) (big_in mw_10 rfl) (big_in mw_1170 rfl) (big_in mw_1171 rfl) rfl rfl (by decide +kernel) ⟨by rw [hR]; exact Nat.le_of_ble_eq_true rfl, by rw [hR]; exact Nat.le_of_ble_eq_true rfl⟩ rfl (Nat.le_of_ble_eq_true rfl) d_Mo_sums_9 ⟨by rw [hR]; exact Nat.le_of_ble_eq_true rfl, by rw [hR]; exact Nat.le_of_ble_eq_true rfl⟩ rfl (fun v u H locs hp2 hP hD hS _ => ?_)
    obtain ⟨r9, rfl⟩ : ∃ z, z = u := ⟨_, rfl⟩
    obtain ⟨rfl, p9⟩ := hp2
    have hP : va_P D cls0 [(mo, .inr (8, [.int qc, .int (iZ (np : Int)), .ref ow, .ref om, .ref ok_, .ref oK, .ref og, .ref on_, .ref oh, .ref ox, .int qn, .int qf, .ref op_, .int ql])), (ow, .inl (cI, 108000, .inl fw)), (om, .inl (cI, 9, .inl fm)), (oh, .inl (cI, 10000, .inl fh)), (ok_, .inl (cI, 166400, .inl fk)), (oK, .inl (cI, 64, .inl fK)), (og, .inl (cI, 32, .inl fs)), (on_, .inl (cI, 32, .inl fn))] H := hP
    have hD : va_D A [(mo, .inr (8, [.int qc, .int (iZ (np : Int)), .ref ow, .ref om, .ref ok_, .ref oK, .ref og, .ref on_, .ref oh, .ref ox, .int qn, .int qf, .ref op_, .int ql])), (ow, .inl (cI, 108000, .inl fw)), (om, .inl (cI, 9, .inl fm)), (oh, .inl (cI, 10000, .inl fh)), (ok_, .inl (cI, 166400, .inl fk)), (oK, .inl (cI, 64, .inl fK)), (og, .inl (cI, 32, .inl fs)), (on_, .inl (cI, 32, .inl fn))] := hD
    show W p l e R s m args below meth c H locs _ _ Q (F0 m 12 ls [.int (iZ r9), .ref mo])
    have b9 : 0 ≤ r9 ∧ r9 ≤ 1 := by omega
    refine zz_if_eq (tgt := 26) hx hb d_Mo_sums_12 (by decide) (by omega) (fun c12 => ?_) (fun c12 => ?_)
    · refine lv_iconst (v := iZ (1)) hx hb d_Mo_sums_26 (by decide +kernel) ?_
      exfalso
      omega
    · refine lv_iload_n hx hb d_Mo_sums_15 rfl (lv_at hl 3 rfl) ?_
      refine cs (n := 1) (wr := [(mo, .inr (8, [.int qc, .int (iZ (np : Int)), .ref ow, .ref om, .ref ok_, .ref oK, .ref og, .ref on_, .ref oh, .ref ox, .int qn, .int qf, .ref op_, .int ql])), (ow, .inl (cI, 108000, .inl fw)), (om, .inl (cI, 9, .inl fm)), (oh, .inl (cI, 10000, .inl fh)), (ok_, .inl (cI, 166400, .inl fk)), (oK, .inl (cI, 64, .inl fK)), (og, .inl (cI, 32, .inl fs)), (on_, .inl (cI, 32, .inl fn))]) (w1 := (fun (u : Int) => [])) (As := [.int (iZ (b_ : Int))]) (rest := [.ref mo]) K hP hD hK hS hA hl.1 (c_Mo_isRegister l D (b_ : Int) H.size (by omega)) [] [0, 1, 2, 3, 4, 5, 6, 7] [] rfl rfl rfl (by decide) (by decide) (by decide) (big_in mw_1172 rfl) (big_in mw_10 rfl) (big_in mw_1170 rfl) (big_in mw_1171 rfl) rfl rfl (by decide +kernel) ⟨by rw [hR]; exact Nat.le_of_ble_eq_true rfl, by rw [hR]; exact Nat.le_of_ble_eq_true rfl⟩ rfl (Nat.le_of_ble_eq_true rfl) d_Mo_sums_16 ⟨by rw [hR]; exact Nat.le_of_ble_eq_true rfl, by rw [hR]; exact Nat.le_of_ble_eq_true rfl⟩ rfl (fun v u H locs hp3 hP hD hS _ => ?_)
      obtain ⟨r16, rfl⟩ : ∃ z, z = u := ⟨_, rfl⟩
      obtain ⟨rfl, p16⟩ := hp3
      have hP : va_P D cls0 [(mo, .inr (8, [.int qc, .int (iZ (np : Int)), .ref ow, .ref om, .ref ok_, .ref oK, .ref og, .ref on_, .ref oh, .ref ox, .int qn, .int qf, .ref op_, .int ql])), (ow, .inl (cI, 108000, .inl fw)), (om, .inl (cI, 9, .inl fm)), (oh, .inl (cI, 10000, .inl fh)), (ok_, .inl (cI, 166400, .inl fk)), (oK, .inl (cI, 64, .inl fK)), (og, .inl (cI, 32, .inl fs)), (on_, .inl (cI, 32, .inl fn))] H := hP
      have hD : va_D A [(mo, .inr (8, [.int qc, .int (iZ (np : Int)), .ref ow, .ref om, .ref ok_, .ref oK, .ref og, .ref on_, .ref oh, .ref ox, .int qn, .int qf, .ref op_, .int ql])), (ow, .inl (cI, 108000, .inl fw)), (om, .inl (cI, 9, .inl fm)), (oh, .inl (cI, 10000, .inl fh)), (ok_, .inl (cI, 166400, .inl fk)), (oK, .inl (cI, 64, .inl fK)), (og, .inl (cI, 32, .inl fs)), (on_, .inl (cI, 32, .inl fn))] := hD
      show W p l e R s m args below meth c H locs _ _ Q (F0 m 19 ls [.int (iZ r16), .ref mo])
      have b16 : 0 ≤ r16 ∧ r16 ≤ 1 := by omega
      refine zz_if_eq (tgt := 26) hx hb d_Mo_sums_19 (by decide) (by omega) (fun c19 => ?_) (fun c19 => ?_)
      · refine lv_iconst (v := iZ (1)) hx hb d_Mo_sums_26 (by decide +kernel) ?_
        exfalso
        omega
      · refine lv_iconst (v := iZ (0)) hx hb d_Mo_sums_22 (by decide +kernel) ?_
        refine lv_goto (tgt := 27) hx hb d_Mo_sums_23 (by decide) ?_
        refine cv (n := 1) (wr := [(ow, .inl (cI, 108000, .inl fw)), (om, .inl (cI, 9, .inl fm)), (oh, .inl (cI, 10000, .inl fh)), (ok_, .inl (cI, 166400, .inl fk)), (oK, .inl (cI, 64, .inl fK)), (og, .inl (cI, 32, .inl fs)), (on_, .inl (cI, 32, .inl fn))]) (w1 := (fun (u : Int) => [(mo, .inr (8, [.int (iZ 0), .int (iZ (np : Int)), .ref ow, .ref om, .ref ok_, .ref oK, .ref og, .ref on_, .ref oh, .ref ox, .int qn, .int qf, .ref op_, .int ql]))])) (As := [.int (iZ 0)]) (rest := []) K hP hD hK hS hA hl.1 (c_Mo_refuses l D mo qc np ow om ok_ oK og on_ oh ox qn qf op_ ql 0 H.size (by omega)) [0] [1, 2, 3, 4, 5, 6, 7] [] rfl rfl rfl (by decide) (by decide) (by decide) 0 rfl rfl (big_in mw_1176 rfl) (big_in mw_10 rfl) (big_in mw_1173 rfl) (big_in mw_1175 rfl) (big_in sp_18 rfl) rfl rfl (by decide +kernel) ⟨by rw [hR]; exact Nat.le_of_ble_eq_true rfl, by rw [hR]; exact Nat.le_of_ble_eq_true rfl⟩ rfl (Nat.le_of_ble_eq_true rfl) d_Mo_sums_27 ⟨by rw [hR]; exact Nat.le_of_ble_eq_true rfl, by rw [hR]; exact Nat.le_of_ble_eq_true rfl⟩ rfl (fun v u H locs hp4 hP hD hS _ => ?_)
        obtain ⟨rf, rfl⟩ : ∃ z, z = u := ⟨_, rfl⟩
        obtain ⟨rfl, prf⟩ := hp4
        have hP : va_P D cls0 [(ow, .inl (cI, 108000, .inl fw)), (om, .inl (cI, 9, .inl fm)), (oh, .inl (cI, 10000, .inl fh)), (ok_, .inl (cI, 166400, .inl fk)), (oK, .inl (cI, 64, .inl fK)), (og, .inl (cI, 32, .inl fs)), (on_, .inl (cI, 32, .inl fn)), (mo, .inr (8, [.int (iZ 0), .int (iZ (np : Int)), .ref ow, .ref om, .ref ok_, .ref oK, .ref og, .ref on_, .ref oh, .ref ox, .int qn, .int qf, .ref op_, .int ql]))] H := hP
        have hD : va_D A [(ow, .inl (cI, 108000, .inl fw)), (om, .inl (cI, 9, .inl fm)), (oh, .inl (cI, 10000, .inl fh)), (ok_, .inl (cI, 166400, .inl fk)), (oK, .inl (cI, 64, .inl fK)), (og, .inl (cI, 32, .inl fs)), (on_, .inl (cI, 32, .inl fn)), (mo, .inr (8, [.int (iZ 0), .int (iZ (np : Int)), .ref ow, .ref om, .ref ok_, .ref oK, .ref og, .ref on_, .ref oh, .ref ox, .int qn, .int qf, .ref op_, .int ql]))] := hD
        show W p l e R s m args below meth c H locs _ _ Q (F0 m 30 ls [.int (iZ rf)])
        refine zz_if_eq (tgt := 35) hx hb d_Mo_sums_30 (by decide) (by omega) (fun c30 => ?_) (fun c30 => False.elim (by omega))
        refine lv_aload_n hx hb d_Mo_sums_35 rfl (lv_at hl 0 rfl) ?_
        refine lv_iconst (v := iZ (0)) hx hb d_Mo_sums_36 (by decide +kernel) ?_
        refine lv_iconst (v := iZ (2)) hx hb d_Mo_sums_37 (by decide +kernel) ?_
        refine lv_iload_n hx hb d_Mo_sums_38 rfl (lv_at hl 2 rfl) ?_
        refine zz_imul hx hb d_Mo_sums_39 ?_
        rw [show (2 * (a : Int) : Int) = ((2 * a : Nat) : Int) by omega]
        refine cv (n := 2) (wr := [(oh, .inl (cI, 10000, .inl fh)), (og, .inl (cI, 32, .inl fs)), (on_, .inl (cI, 32, .inl fn))]) (w1 := (fun (u : (Nat → Int32) × (Nat → Int32)) => [(mo, .inr (8, [.int (iZ 0), .int (iZ (np : Int)), .ref ow, .ref om, .ref ok_, .ref oK, .ref og, .ref on_, .ref oh, .ref ox, .int qn, .int qf, .ref op_, .int ql])), (ow, .inl (cI, 108000, .inl u.1)), (om, .inl (cI, 9, .inl u.2)), (ok_, .inl (cI, 166400, .inl fk)), (oK, .inl (cI, 64, .inl fK))])) (As := [.int (iZ 0), .int (iZ ((2 * a : Nat) : Int))]) (rest := []) K hP hD hK hS hA hl.1 (c_Mo_load l D mo (iZ 0) np ow om ok_ oK og on_ oh ox qn qf op_ ql fw fm cI fk fK val (kvf tv bv) 0 (2 * a) H.size hW hMR.1 (by decide) (by omega)) [7, 0, 1, 3, 4] [2, 5, 6] [0] rfl rfl rfl (by decide) (by decide) (by decide) 0 rfl rfl (big_in mw_1238 rfl) (big_in mw_10 rfl) (big_in mw_1235 rfl) (big_in mw_1237 rfl) (big_in sp_31 rfl) rfl rfl (by decide +kernel) ⟨by rw [hR]; exact Nat.le_of_ble_eq_true rfl, by rw [hR]; exact Nat.le_of_ble_eq_true rfl⟩ rfl (Nat.le_of_ble_eq_true rfl) d_Mo_sums_40 ⟨by rw [hR]; exact Nat.le_of_ble_eq_true rfl, by rw [hR]; exact Nat.le_of_ble_eq_true rfl⟩ rfl (fun v u H locs hp5 hP hD hS _ => ?_)
        obtain ⟨fx1, fy1⟩ := u
        try dsimp only at hp5
        obtain ⟨rfl, w1⟩ := hp5
        have hP : va_P D cls0 [(oh, .inl (cI, 10000, .inl fh)), (og, .inl (cI, 32, .inl fs)), (on_, .inl (cI, 32, .inl fn)), (mo, .inr (8, [.int (iZ 0), .int (iZ (np : Int)), .ref ow, .ref om, .ref ok_, .ref oK, .ref og, .ref on_, .ref oh, .ref ox, .int qn, .int qf, .ref op_, .int ql])), (ow, .inl (cI, 108000, .inl fx1)), (om, .inl (cI, 9, .inl fy1)), (ok_, .inl (cI, 166400, .inl fk)), (oK, .inl (cI, 64, .inl fK))] H := hP
        have hD : va_D A [(oh, .inl (cI, 10000, .inl fh)), (og, .inl (cI, 32, .inl fs)), (on_, .inl (cI, 32, .inl fn)), (mo, .inr (8, [.int (iZ 0), .int (iZ (np : Int)), .ref ow, .ref om, .ref ok_, .ref oK, .ref og, .ref on_, .ref oh, .ref ox, .int qn, .int qf, .ref op_, .int ql])), (ow, .inl (cI, 108000, .inl fx1)), (om, .inl (cI, 9, .inl fy1)), (ok_, .inl (cI, 166400, .inl fk)), (oK, .inl (cI, 64, .inl fK))] := hD
        show W p l e R s m args below meth c H locs _ _ Q (F0 m 43 ls [])
        rw [kvf_0] at w1
        obtain ⟨v1, hv1⟩ : ∃ z, z = up val 0 (tv a) := ⟨_, rfl⟩
        rw [← hv1] at w1
        refine lv_aload_n hx hb d_Mo_sums_43 rfl (lv_at hl 0 rfl) ?_
        refine lv_iconst (v := iZ (1)) hx hb d_Mo_sums_44 (by decide +kernel) ?_
        refine lv_iconst (v := iZ (2)) hx hb d_Mo_sums_45 (by decide +kernel) ?_
        refine lv_iload_n hx hb d_Mo_sums_46 rfl (lv_at hl 2 rfl) ?_
        refine zz_imul hx hb d_Mo_sums_47 ?_
        refine lv_iconst (v := iZ (1)) hx hb d_Mo_sums_48 (by decide +kernel) ?_
        refine zz_iadd hx hb d_Mo_sums_49 ?_
        rw [show (2 * (a : Int) + 1 : Int) = ((2 * a + 1 : Nat) : Int) by omega]
        refine cv (n := 2) (wr := [(oh, .inl (cI, 10000, .inl fh)), (og, .inl (cI, 32, .inl fs)), (on_, .inl (cI, 32, .inl fn))]) (w1 := (fun (u : (Nat → Int32) × (Nat → Int32)) => [(mo, .inr (8, [.int (iZ 0), .int (iZ (np : Int)), .ref ow, .ref om, .ref ok_, .ref oK, .ref og, .ref on_, .ref oh, .ref ox, .int qn, .int qf, .ref op_, .int ql])), (ow, .inl (cI, 108000, .inl u.1)), (om, .inl (cI, 9, .inl u.2)), (ok_, .inl (cI, 166400, .inl fk)), (oK, .inl (cI, 64, .inl fK))])) (As := [.int (iZ 1), .int (iZ ((2 * a + 1 : Nat) : Int))]) (rest := []) K hP hD hK hS hA hl.1 (c_Mo_load l D mo (iZ 0) np ow om ok_ oK og on_ oh ox qn qf op_ ql fx1 fy1 cI fk fK v1 (kvf tv bv) 1 (2 * a + 1) H.size w1 hMR.1 (by decide) (by omega)) [3, 4, 5, 6, 7] [0, 1, 2] [0] rfl rfl rfl (by decide) (by decide) (by decide) 0 rfl rfl (big_in mw_1238 rfl) (big_in mw_10 rfl) (big_in mw_1235 rfl) (big_in mw_1237 rfl) (big_in sp_31 rfl) rfl rfl (by decide +kernel) ⟨by rw [hR]; exact Nat.le_of_ble_eq_true rfl, by rw [hR]; exact Nat.le_of_ble_eq_true rfl⟩ rfl (Nat.le_of_ble_eq_true rfl) d_Mo_sums_50 ⟨by rw [hR]; exact Nat.le_of_ble_eq_true rfl, by rw [hR]; exact Nat.le_of_ble_eq_true rfl⟩ rfl (fun v u H locs hp6 hP hD hS _ => ?_)
        obtain ⟨fx2, fy2⟩ := u
        try dsimp only at hp6
        obtain ⟨rfl, w2⟩ := hp6
        have hP : va_P D cls0 [(oh, .inl (cI, 10000, .inl fh)), (og, .inl (cI, 32, .inl fs)), (on_, .inl (cI, 32, .inl fn)), (mo, .inr (8, [.int (iZ 0), .int (iZ (np : Int)), .ref ow, .ref om, .ref ok_, .ref oK, .ref og, .ref on_, .ref oh, .ref ox, .int qn, .int qf, .ref op_, .int ql])), (ow, .inl (cI, 108000, .inl fx2)), (om, .inl (cI, 9, .inl fy2)), (ok_, .inl (cI, 166400, .inl fk)), (oK, .inl (cI, 64, .inl fK))] H := hP
        have hD : va_D A [(oh, .inl (cI, 10000, .inl fh)), (og, .inl (cI, 32, .inl fs)), (on_, .inl (cI, 32, .inl fn)), (mo, .inr (8, [.int (iZ 0), .int (iZ (np : Int)), .ref ow, .ref om, .ref ok_, .ref oK, .ref og, .ref on_, .ref oh, .ref ox, .int qn, .int qf, .ref op_, .int ql])), (ow, .inl (cI, 108000, .inl fx2)), (om, .inl (cI, 9, .inl fy2)), (ok_, .inl (cI, 166400, .inl fk)), (oK, .inl (cI, 64, .inl fK))] := hD
        show W p l e R s m args below meth c H locs _ _ Q (F0 m 53 ls [])
        rw [kvf_1] at w2
        obtain ⟨v2, hv2⟩ : ∃ z, z = up v1 1 (bv a) := ⟨_, rfl⟩
        rw [← hv2] at w2
        refine lv_aload_n hx hb d_Mo_sums_53 rfl (lv_at hl 0 rfl) ?_
        refine lv_iconst (v := iZ (2)) hx hb d_Mo_sums_54 (by decide +kernel) ?_
        refine lv_iconst (v := iZ (2)) hx hb d_Mo_sums_55 (by decide +kernel) ?_
        refine lv_iload_n hx hb d_Mo_sums_56 rfl (lv_at hl 3 rfl) ?_
        refine zz_imul hx hb d_Mo_sums_57 ?_
        rw [show (2 * (b_ : Int) : Int) = ((2 * b_ : Nat) : Int) by omega]
        refine cv (n := 2) (wr := [(oh, .inl (cI, 10000, .inl fh)), (og, .inl (cI, 32, .inl fs)), (on_, .inl (cI, 32, .inl fn))]) (w1 := (fun (u : (Nat → Int32) × (Nat → Int32)) => [(mo, .inr (8, [.int (iZ 0), .int (iZ (np : Int)), .ref ow, .ref om, .ref ok_, .ref oK, .ref og, .ref on_, .ref oh, .ref ox, .int qn, .int qf, .ref op_, .int ql])), (ow, .inl (cI, 108000, .inl u.1)), (om, .inl (cI, 9, .inl u.2)), (ok_, .inl (cI, 166400, .inl fk)), (oK, .inl (cI, 64, .inl fK))])) (As := [.int (iZ 2), .int (iZ ((2 * b_ : Nat) : Int))]) (rest := []) K hP hD hK hS hA hl.1 (c_Mo_load l D mo (iZ 0) np ow om ok_ oK og on_ oh ox qn qf op_ ql fx2 fy2 cI fk fK v2 (kvf tv bv) 2 (2 * b_) H.size w2 hMR.1 (by decide) (by omega)) [3, 4, 5, 6, 7] [0, 1, 2] [0] rfl rfl rfl (by decide) (by decide) (by decide) 0 rfl rfl (big_in mw_1238 rfl) (big_in mw_10 rfl) (big_in mw_1235 rfl) (big_in mw_1237 rfl) (big_in sp_31 rfl) rfl rfl (by decide +kernel) ⟨by rw [hR]; exact Nat.le_of_ble_eq_true rfl, by rw [hR]; exact Nat.le_of_ble_eq_true rfl⟩ rfl (Nat.le_of_ble_eq_true rfl) d_Mo_sums_58 ⟨by rw [hR]; exact Nat.le_of_ble_eq_true rfl, by rw [hR]; exact Nat.le_of_ble_eq_true rfl⟩ rfl (fun v u H locs hp7 hP hD hS _ => ?_)
        obtain ⟨fx3, fy3⟩ := u
        try dsimp only at hp7
        obtain ⟨rfl, w3⟩ := hp7
        have hP : va_P D cls0 [(oh, .inl (cI, 10000, .inl fh)), (og, .inl (cI, 32, .inl fs)), (on_, .inl (cI, 32, .inl fn)), (mo, .inr (8, [.int (iZ 0), .int (iZ (np : Int)), .ref ow, .ref om, .ref ok_, .ref oK, .ref og, .ref on_, .ref oh, .ref ox, .int qn, .int qf, .ref op_, .int ql])), (ow, .inl (cI, 108000, .inl fx3)), (om, .inl (cI, 9, .inl fy3)), (ok_, .inl (cI, 166400, .inl fk)), (oK, .inl (cI, 64, .inl fK))] H := hP
        have hD : va_D A [(oh, .inl (cI, 10000, .inl fh)), (og, .inl (cI, 32, .inl fs)), (on_, .inl (cI, 32, .inl fn)), (mo, .inr (8, [.int (iZ 0), .int (iZ (np : Int)), .ref ow, .ref om, .ref ok_, .ref oK, .ref og, .ref on_, .ref oh, .ref ox, .int qn, .int qf, .ref op_, .int ql])), (ow, .inl (cI, 108000, .inl fx3)), (om, .inl (cI, 9, .inl fy3)), (ok_, .inl (cI, 166400, .inl fk)), (oK, .inl (cI, 64, .inl fK))] := hD
        show W p l e R s m args below meth c H locs _ _ Q (F0 m 61 ls [])
        rw [kvf_0] at w3
        obtain ⟨v3, hv3⟩ : ∃ z, z = up v2 2 (tv b_) := ⟨_, rfl⟩
        rw [← hv3] at w3
        refine lv_aload_n hx hb d_Mo_sums_61 rfl (lv_at hl 0 rfl) ?_
        refine lv_iconst (v := iZ (3)) hx hb d_Mo_sums_62 (by decide +kernel) ?_
        refine lv_iconst (v := iZ (2)) hx hb d_Mo_sums_63 (by decide +kernel) ?_
        refine lv_iload_n hx hb d_Mo_sums_64 rfl (lv_at hl 3 rfl) ?_
        refine zz_imul hx hb d_Mo_sums_65 ?_
        refine lv_iconst (v := iZ (1)) hx hb d_Mo_sums_66 (by decide +kernel) ?_
        refine zz_iadd hx hb d_Mo_sums_67 ?_
        rw [show (2 * (b_ : Int) + 1 : Int) = ((2 * b_ + 1 : Nat) : Int) by omega]
        refine cv (n := 2) (wr := [(oh, .inl (cI, 10000, .inl fh)), (og, .inl (cI, 32, .inl fs)), (on_, .inl (cI, 32, .inl fn))]) (w1 := (fun (u : (Nat → Int32) × (Nat → Int32)) => [(mo, .inr (8, [.int (iZ 0), .int (iZ (np : Int)), .ref ow, .ref om, .ref ok_, .ref oK, .ref og, .ref on_, .ref oh, .ref ox, .int qn, .int qf, .ref op_, .int ql])), (ow, .inl (cI, 108000, .inl u.1)), (om, .inl (cI, 9, .inl u.2)), (ok_, .inl (cI, 166400, .inl fk)), (oK, .inl (cI, 64, .inl fK))])) (As := [.int (iZ 3), .int (iZ ((2 * b_ + 1 : Nat) : Int))]) (rest := []) K hP hD hK hS hA hl.1 (c_Mo_load l D mo (iZ 0) np ow om ok_ oK og on_ oh ox qn qf op_ ql fx3 fy3 cI fk fK v3 (kvf tv bv) 3 (2 * b_ + 1) H.size w3 hMR.1 (by decide) (by omega)) [3, 4, 5, 6, 7] [0, 1, 2] [0] rfl rfl rfl (by decide) (by decide) (by decide) 0 rfl rfl (big_in mw_1238 rfl) (big_in mw_10 rfl) (big_in mw_1235 rfl) (big_in mw_1237 rfl) (big_in sp_31 rfl) rfl rfl (by decide +kernel) ⟨by rw [hR]; exact Nat.le_of_ble_eq_true rfl, by rw [hR]; exact Nat.le_of_ble_eq_true rfl⟩ rfl (Nat.le_of_ble_eq_true rfl) d_Mo_sums_68 ⟨by rw [hR]; exact Nat.le_of_ble_eq_true rfl, by rw [hR]; exact Nat.le_of_ble_eq_true rfl⟩ rfl (fun v u H locs hp8 hP hD hS _ => ?_)
        obtain ⟨fx4, fy4⟩ := u
        try dsimp only at hp8
        obtain ⟨rfl, w4⟩ := hp8
        have hP : va_P D cls0 [(oh, .inl (cI, 10000, .inl fh)), (og, .inl (cI, 32, .inl fs)), (on_, .inl (cI, 32, .inl fn)), (mo, .inr (8, [.int (iZ 0), .int (iZ (np : Int)), .ref ow, .ref om, .ref ok_, .ref oK, .ref og, .ref on_, .ref oh, .ref ox, .int qn, .int qf, .ref op_, .int ql])), (ow, .inl (cI, 108000, .inl fx4)), (om, .inl (cI, 9, .inl fy4)), (ok_, .inl (cI, 166400, .inl fk)), (oK, .inl (cI, 64, .inl fK))] H := hP
        have hD : va_D A [(oh, .inl (cI, 10000, .inl fh)), (og, .inl (cI, 32, .inl fs)), (on_, .inl (cI, 32, .inl fn)), (mo, .inr (8, [.int (iZ 0), .int (iZ (np : Int)), .ref ow, .ref om, .ref ok_, .ref oK, .ref og, .ref on_, .ref oh, .ref ox, .int qn, .int qf, .ref op_, .int ql])), (ow, .inl (cI, 108000, .inl fx4)), (om, .inl (cI, 9, .inl fy4)), (ok_, .inl (cI, 166400, .inl fk)), (oK, .inl (cI, 64, .inl fK))] := hD
        show W p l e R s m args below meth c H locs _ _ Q (F0 m 71 ls [])
        rw [kvf_1] at w4
        obtain ⟨v4, hv4⟩ : ∃ z, z = up v3 3 (bv b_) := ⟨_, rfl⟩
        rw [← hv4] at w4
        have y0 : v4 0 = tv a := by simp [hv4, hv3, hv2, hv1, up]
        have y1 : v4 1 = bv a := by simp [hv4, hv3, hv2, hv1, up]
        have y2 : v4 2 = tv b_ := by simp [hv4, hv3, hv2, hv1, up]
        have y3 : v4 3 = bv b_ := by simp [hv4, hv3, hv2, hv1, up]
        refine lv_aload_n hx hb d_Mo_sums_71 rfl (lv_at hl 0 rfl) ?_
        refine lv_aload_n hx hb d_Mo_sums_72 rfl (lv_at hl 0 rfl) ?_
        refine va_get (D := D) (ci := 8) (v := .ref og) (C := R_Mo) (T := F_Mo) (N := 14) hx hb hts i_Mo hown hK hP 3 rfl rfl 6 (by decide) (hts _ (big_in mw_1121 rfl)) (fun _ h9 => h9) rfl d_Mo_sums_73 ?_
        refine lv_iload_n hx hb d_Mo_sums_76 rfl (lv_at hl 2 rfl) ?_
        refine zz_iald hx hb hK hP 1 0 rfl rfl (a) (by omega) (by omega) (by omega) d_Mo_sums_77 ?_
        rw [hMR.2.1 a (by omega)]
        refine lv_iload hx hb d_Mo_sums_78 (lv_at hl 4 rfl) ?_
        refine zz_if_eq (tgt := 93) hx hb d_Mo_sums_80 (by decide) (by omega) (fun c80 => ?_) (fun c80 => False.elim (by omega))
        refine lv_aload_n hx hb d_Mo_sums_93 rfl (lv_at hl 0 rfl) ?_
        refine va_get (D := D) (ci := 8) (v := .ref og) (C := R_Mo) (T := F_Mo) (N := 14) hx hb hts i_Mo hown hK hP 3 rfl rfl 6 (by decide) (hts _ (big_in mw_1121 rfl)) (fun _ h9 => h9) rfl d_Mo_sums_94 ?_
        refine lv_iload_n hx hb d_Mo_sums_97 rfl (lv_at hl 3 rfl) ?_
        refine zz_iald hx hb hK hP 1 0 rfl rfl (b_) (by omega) (by omega) (by omega) d_Mo_sums_98 ?_
        rw [hMR.2.1 b_ (by omega)]
        refine cv (n := 2) (wr := [(oh, .inl (cI, 10000, .inl fh)), (og, .inl (cI, 32, .inl fs)), (on_, .inl (cI, 32, .inl fn)), (ok_, .inl (cI, 166400, .inl fk)), (oK, .inl (cI, 64, .inl fK))]) (w1 := (fun (u : Int × (Nat → Int32) × (Nat → Int32) × (Nat → Nat)) => [(mo, .inr (8, [.int (iZ 0), .int (iZ (np : Int)), .ref ow, .ref om, .ref ok_, .ref oK, .ref og, .ref on_, .ref oh, .ref ox, .int qn, .int qf, .ref op_, .int ql])), (ow, .inl (cI, 108000, .inl u.2.1)), (om, .inl (cI, 9, .inl u.2.2.1))])) (As := [.int (iZ (sg a)), .int (iZ (sg b_))]) (rest := []) K hP hD hK hS hA hl.1 (c_Mo_sum l D mo (iZ 0) np ow om ok_ oK og on_ oh ox qn qf op_ ql fx4 fy4 cI v4 (sg a) (sg b_) H.size w4 ja3 (by omega) (by rw [y0]; exact ja2) (by rw [y2]; exact jb2) (by rw [y1]; exact pa) (by rw [y3]; exact pb) (by rw [y0, y3]; omega) (by rw [y2, y1]; omega) (by rw [y1, y3]; omega)) [3, 4, 5] [0, 1, 2, 6, 7] [0] rfl rfl rfl (by decide) (by decide) (by decide) 0 rfl rfl (big_in mw_1254 rfl) (big_in mw_10 rfl) (big_in mw_1251 rfl) (big_in mw_1253 rfl) (big_in sp_33 rfl) rfl rfl (by decide +kernel) ⟨by rw [hR]; exact Nat.le_of_ble_eq_true rfl, by rw [hR]; exact Nat.le_of_ble_eq_true rfl⟩ rfl (Nat.le_of_ble_eq_true rfl) d_Mo_sums_99 ⟨by rw [hR]; exact Nat.le_of_ble_eq_true rfl, by rw [hR]; exact Nat.le_of_ble_eq_true rfl⟩ rfl (fun v u H locs hp9 hP hD hS _ => ?_)
        obtain ⟨rs, fx5, fy5, v5⟩ := u
        try dsimp only at hp9
        obtain ⟨rfl, ers, w5, x0, x1⟩ := hp9
        have hP : va_P D cls0 [(oh, .inl (cI, 10000, .inl fh)), (og, .inl (cI, 32, .inl fs)), (on_, .inl (cI, 32, .inl fn)), (ok_, .inl (cI, 166400, .inl fk)), (oK, .inl (cI, 64, .inl fK)), (mo, .inr (8, [.int (iZ 0), .int (iZ (np : Int)), .ref ow, .ref om, .ref ok_, .ref oK, .ref og, .ref on_, .ref oh, .ref ox, .int qn, .int qf, .ref op_, .int ql])), (ow, .inl (cI, 108000, .inl fx5)), (om, .inl (cI, 9, .inl fy5))] H := hP
        have hD : va_D A [(oh, .inl (cI, 10000, .inl fh)), (og, .inl (cI, 32, .inl fs)), (on_, .inl (cI, 32, .inl fn)), (ok_, .inl (cI, 166400, .inl fk)), (oK, .inl (cI, 64, .inl fK)), (mo, .inr (8, [.int (iZ 0), .int (iZ (np : Int)), .ref ow, .ref om, .ref ok_, .ref oK, .ref og, .ref on_, .ref oh, .ref ox, .int qn, .int qf, .ref op_, .int ql])), (ow, .inl (cI, 108000, .inl fx5)), (om, .inl (cI, 9, .inl fy5))] := hD
        show W p l e R s m args below meth c H locs _ _ Q (F0 m 102 ls [.int (iZ rs)])
        rw [y0, y1, y2, y3] at ers x0
        rw [y1, y3] at x1
        have l5 : lm (sg a * ((tv a * bv b_ : Nat) : Int) + sg b_ * ((tv b_ * bv a : Nat) : Int)).natAbs ≤ _ := sum_lm ja3 jb3
        have l6 := lm_mul (bv a) (bv b_)
        have srs : -1 ≤ rs ∧ rs ≤ 1 := by rw [ers]; exact sgn_b _
        refine lv_istore (lv' := [(5, .int (iZ rs)), (0, .ref mo), (1, .int (iZ (to : Int))), (2, .int (iZ (a : Int))), (3, .int (iZ (b_ : Int))), (4, .int (iZ 0))]) hx hb d_Mo_sums_102 hl (by decide) rfl (fun ls hl => ?_)
        refine lv_aload_n hx hb d_Mo_sums_104 rfl (lv_at hl 1 rfl) ?_
        refine lv_iload_n hx hb d_Mo_sums_105 rfl (lv_at hl 2 rfl) ?_
        refine lv_iload hx hb d_Mo_sums_106 (lv_at hl 0 rfl) ?_
        refine lv_iconst (v := iZ (2)) hx hb d_Mo_sums_108 (by decide +kernel) ?_
        refine cv (n := 3) (wr := []) (w1 := (fun (u : (Nat → Int32) × (Nat → Int32) × (Nat → Int32) × (Nat → Nat)) => [(mo, .inr (8, [.int (iZ 2), .int (iZ (np : Int)), .ref ow, .ref om, .ref ok_, .ref oK, .ref og, .ref on_, .ref oh, .ref ox, .int qn, .int qf, .ref op_, .int ql])), (ow, .inl (cI, 108000, .inl u.1)), (om, .inl (cI, 9, .inl u.2.1)), (oh, .inl (cI, 10000, .inl u.2.2.1)), (ok_, .inl (cI, 166400, .inl fk)), (oK, .inl (cI, 64, .inl fK)), (og, .inl (cI, 32, .inl fs)), (on_, .inl (cI, 32, .inl fn))])) (As := [.int (iZ (to : Int)), .int (iZ rs), .int (iZ 2)]) (rest := []) K hP hD hK hS hA hl.1 (c_Mo_putX l D mo (iZ 0) np ow om ok_ oK og on_ oh ox qn qf op_ ql fx5 fy5 cI fh fk fK fs fn v5 tv bv sg to rs 2 H.size w5 hMR (by omega) hnd hnp (by omega) (by decide) (by rw [x1]; exact Nat.mul_pos pa pb) (by rw [x0]; omega) (by rw [x1]; omega) (by rw [x0, x1]; exact hfit)) [5, 6, 7, 0, 3, 4, 1, 2] [] [0] rfl rfl rfl (by decide) (by decide) (by decide) 0 rfl rfl (big_in mw_1185 rfl) (big_in mw_10 rfl) (big_in mw_1182 rfl) (big_in mw_1184 rfl) (big_in sp_20 rfl) rfl rfl (by decide +kernel) ⟨by rw [hR]; exact Nat.le_of_ble_eq_true rfl, by rw [hR]; exact Nat.le_of_ble_eq_true rfl⟩ rfl (Nat.le_of_ble_eq_true rfl) d_Mo_sums_109 ⟨by rw [hR]; exact Nat.le_of_ble_eq_true rfl, by rw [hR]; exact Nat.le_of_ble_eq_true rfl⟩ rfl (fun v u H locs hp10 hP hD hS _ => ?_)
        obtain ⟨fa, fb, fc, v9⟩ := u
        try dsimp only at hp10
        obtain ⟨rfl, w9⟩ := hp10
        have hP : va_P D cls0 [(mo, .inr (8, [.int (iZ 2), .int (iZ (np : Int)), .ref ow, .ref om, .ref ok_, .ref oK, .ref og, .ref on_, .ref oh, .ref ox, .int qn, .int qf, .ref op_, .int ql])), (ow, .inl (cI, 108000, .inl fa)), (om, .inl (cI, 9, .inl fb)), (oh, .inl (cI, 10000, .inl fc)), (ok_, .inl (cI, 166400, .inl fk)), (oK, .inl (cI, 64, .inl fK)), (og, .inl (cI, 32, .inl fs)), (on_, .inl (cI, 32, .inl fn))] H := hP
        have hD : va_D A [(mo, .inr (8, [.int (iZ 2), .int (iZ (np : Int)), .ref ow, .ref om, .ref ok_, .ref oK, .ref og, .ref on_, .ref oh, .ref ox, .int qn, .int qf, .ref op_, .int ql])), (ow, .inl (cI, 108000, .inl fa)), (om, .inl (cI, 9, .inl fb)), (oh, .inl (cI, 10000, .inl fc)), (ok_, .inl (cI, 166400, .inl fk)), (oK, .inl (cI, 64, .inl fK)), (og, .inl (cI, 32, .inl fs)), (on_, .inl (cI, 32, .inl fn))] := hD
        show W p l e R s m args below meth c H locs _ _ Q (F0 m 112 ls [.int (iZ 0)])
        have hP9 : va_P D cls0 [(mo, .inr (8, [.int (iZ 2), .int (iZ (np : Int)), .ref ow, .ref om, .ref ok_, .ref oK, .ref og, .ref on_, .ref oh, .ref ox, .int qn, .int qf, .ref op_, .int ql])), (ow, .inl (cI, 108000, .inl fa)), (om, .inl (cI, 9, .inl fb)), (oh, .inl (cI, 10000, .inl fc)), (ok_, .inl (cI, 166400, .inl fk)), (oK, .inl (cI, 64, .inl fK)), (og, .inl (cI, 32, .inl fs)), (on_, .inl (cI, 32, .inl fn))] H := hP.sub [0, 1, 2, 3, 4, 5, 6, 7] rfl
        have hD9 : va_D A [(mo, .inr (8, [.int (iZ 2), .int (iZ (np : Int)), .ref ow, .ref om, .ref ok_, .ref oK, .ref og, .ref on_, .ref oh, .ref ox, .int qn, .int qf, .ref op_, .int ql])), (ow, .inl (cI, 108000, .inl fa)), (om, .inl (cI, 9, .inl fb)), (oh, .inl (cI, 10000, .inl fc)), (ok_, .inl (cI, 166400, .inl fk)), (oK, .inl (cI, 64, .inl fK)), (og, .inl (cI, 32, .inl fs)), (on_, .inl (cI, 32, .inl fn))] := hD.sub [0, 1, 2, 3, 4, 5, 6, 7] (by decide) rfl
        rw [hQ, ← hAe]
        refine r_i (v := (iZ 0)) K (fa, fb, fc, v9) hS d_Mo_sums_112 ?_ (fun t ht hv => ?_)
        · exact ⟨rfl, w9⟩
        · exact ⟨by rw [ht]; exact hP9, va_K.moved hv hK, by rw [← hAe]; exact hD9⟩
set_option maxHeartbeats 4000000 in
set_option maxRecDepth 100000 in
/-- Mo_sums -/
theorem c_Mo_sums1 (l : Launch) (D : va_G) (mo : Nat) (qc : Int32) (np : Nat) (ow : Nat) (om : Nat) (ok_ : Nat) (oK : Nat) (og : Nat) (on_ : Nat) (oh : Nat) (ox : Nat) (qn : Int32) (qf : Int32) (op_ : Nat) (ql : Int32) (fw : Nat → Int32) (fm : Nat → Int32) (cI : ClassId) (fh : Nat → Int32) (fk : Nat → Int32) (fK : Nat → Int32) (fs : Nat → Int32) (fn : Nat → Int32) (val : Nat → Nat) (tv : Nat → Nat) (bv : Nat → Nat) (sg : Nat → Int) (to : Nat) (a : Nat) (b_ : Nat) (sz : Nat) (hW : WB fw fm val) (hMR : MoR fk fK fs fn tv bv sg) (hnd : ndS tv bv 32 ≤ np) (hnp : np ≤ 1024) (J : RgC tv bv sg) (hbv : ∀ r, r < 32 → 0 < bv r) (t1 : to < 32) (t2 : a < 32) (t3_ : b_ < 32) (hfit : ndS tv bv 32 + (lm (rdN ((sg a * ((tv a * bv b_ : Nat) : Int) + -(sg b_) * ((tv b_ * bv a : Nat) : Int)).natAbs) (bv a * bv b_)) + lm (rdD ((sg a * ((tv a * bv b_ : Nat) : Int) + -(sg b_) * ((tv b_ * bv a : Nat) : Int)).natAbs) (bv a * bv b_))) ≤ np + (lm (tv to) + lm (bv to))) : Met l y_Mo_sums (wsB y_Mo_sums b_Mo_sums 6 (some .int)) ({ frames := 5, cells := 0, slots := 0, locals := 125 }) (va_Pc [.ref mo, .int (iZ (to : Int)), .int (iZ (a : Int)), .int (iZ (b_ : Int)), .int (iZ 1)] (wPre D [(cI, .int)] [(mo, .inr (8, [.int qc, .int (iZ (np : Int)), .ref ow, .ref om, .ref ok_, .ref oK, .ref og, .ref on_, .ref oh, .ref ox, .int qn, .int qf, .ref op_, .int ql])), (ow, .inl (cI, 108000, .inl fw)), (om, .inl (cI, 9, .inl fm)), (oh, .inl (cI, 10000, .inl fh)), (ok_, .inl (cI, 166400, .inl fk)), (oK, .inl (cI, 64, .inl fK)), (og, .inl (cI, 32, .inl fs)), (on_, .inl (cI, 32, .inl fn))] sz)) (va_QV (fun (v_9 : Option Value) (u_9 : (Nat → Int32) × (Nat → Int32) × (Nat → Int32) × (Nat → Int32) × (Nat → Int32) × (Nat → Int32) × (Nat → Int32) × (Nat → Nat)) => v_9 = some (.int (iZ ((lm (rdN ((sg a * ((tv a * bv b_ : Nat) : Int) + -(sg b_) * ((tv b_ * bv a : Nat) : Int)).natAbs) (bv a * bv b_)) : Int) + (lm (rdD ((sg a * ((tv a * bv b_ : Nat) : Int) + -(sg b_) * ((tv b_ * bv a : Nat) : Int)).natAbs) (bv a * bv b_)) : Int)))) ∧ (WB u_9.1 u_9.2.1 u_9.2.2.2.2.2.2.2) ∧ (MoR u_9.2.2.2.1 u_9.2.2.2.2.1 u_9.2.2.2.2.2.1 u_9.2.2.2.2.2.2.1 (up tv to (rdN ((sg a * ((tv a * bv b_ : Nat) : Int) + -(sg b_) * ((tv b_ * bv a : Nat) : Int)).natAbs) (bv a * bv b_))) (up bv to (rdD ((sg a * ((tv a * bv b_ : Nat) : Int) + -(sg b_) * ((tv b_ * bv a : Nat) : Int)).natAbs) (bv a * bv b_))) (up sg to (if rdN ((sg a * ((tv a * bv b_ : Nat) : Int) + -(sg b_) * ((tv b_ * bv a : Nat) : Int)).natAbs) (bv a * bv b_) = 0 then 0 else (sg a * ((tv a * bv b_ : Nat) : Int) + -(sg b_) * ((tv b_ * bv a : Nat) : Int)).sign)))) (fun u_9 => wPost D [(cI, .int)] [(mo, .inr (8, [.int qc, .int (iZ (np : Int)), .ref ow, .ref om, .ref ok_, .ref oK, .ref og, .ref on_, .ref oh, .ref ox, .int qn, .int qf, .ref op_, .int ql])), (ow, .inl (cI, 108000, .inl fw)), (om, .inl (cI, 9, .inl fm)), (oh, .inl (cI, 10000, .inl fh)), (ok_, .inl (cI, 166400, .inl fk)), (oK, .inl (cI, 64, .inl fK)), (og, .inl (cI, 32, .inl fs)), (on_, .inl (cI, 32, .inl fn))] [(mo, .inr (8, [.int (iZ 0), .int (iZ (np : Int)), .ref ow, .ref om, .ref ok_, .ref oK, .ref og, .ref on_, .ref oh, .ref ox, .int qn, .int qf, .ref op_, .int ql])), (ow, .inl (cI, 108000, .inl u_9.1)), (om, .inl (cI, 9, .inl u_9.2.1)), (oh, .inl (cI, 10000, .inl u_9.2.2.1)), (ok_, .inl (cI, 166400, .inl u_9.2.2.2.1)), (oK, .inl (cI, 64, .inl u_9.2.2.2.2.1)), (og, .inl (cI, 32, .inl u_9.2.2.2.2.2.1)), (on_, .inl (cI, 32, .inl u_9.2.2.2.2.2.2.1))] sz) (va_A [(mo, .inr (8, [.int qc, .int (iZ (np : Int)), .ref ow, .ref om, .ref ok_, .ref oK, .ref og, .ref on_, .ref oh, .ref ox, .int qn, .int qf, .ref op_, .int ql])), (ow, .inl (cI, 108000, .inl fw)), (om, .inl (cI, 9, .inl fm)), (oh, .inl (cI, 10000, .inl fh)), (ok_, .inl (cI, 166400, .inl fk)), (oK, .inl (cI, 64, .inl fK)), (og, .inl (cI, 32, .inl fs)), (on_, .inl (cI, 32, .inl fn))] sz)) 0 0 (va_A [(mo, .inr (8, [.int qc, .int (iZ (np : Int)), .ref ow, .ref om, .ref ok_, .ref oK, .ref og, .ref on_, .ref oh, .ref ox, .int qn, .int qf, .ref op_, .int ql])), (ow, .inl (cI, 108000, .inl fw)), (om, .inl (cI, 9, .inl fm)), (oh, .inl (cI, 10000, .inl fh)), (ok_, .inl (cI, 166400, .inl fk)), (oK, .inl (cI, 64, .inl fK)), (og, .inl (cI, 32, .inl fs)), (on_, .inl (cI, 32, .inl fn))] sz) := by
  refine met_enter (by decide +kernel) (Nat.le_of_ble_eq_true rfl) ?_
  intro p e s m args below meth c ls A R Q H locs K hin hAe hA hR hQ hP hK hD hS hl
  obtain ⟨hx, hb, hml, hrt, hlk, hts, hown, hno⟩ := id K
  have hl : lv_has ls 6 [(0, .ref mo), (1, .int (iZ (to : Int))), (2, .int (iZ (a : Int))), (3, .int (iZ (b_ : Int))), (4, .int (iZ 1))] := hl
  have hlr : ∀ q, q < 32 → lm (tv q) + lm (bv q) ≤ 1024 := fun q hq => by have z := ndS_le (tv := tv) (bv := bv) hq; omega
  have hnt : ∀ q, q < 32 → nd (tv q) ≤ 2600 := fun q hq => by have z := nd_lm (v := tv q) (L := 1024) (by have y := hlr q hq; omega); omega
  have hnb : ∀ q, q < 32 → nd (bv q) ≤ 2600 := fun q hq => by have z := nd_lm (v := bv q) (L := 1024) (by have y := hlr q hq; omega); omega
  obtain ⟨ja1, ja2, ja3⟩ := J a (by omega)
  obtain ⟨jb1, jb2, jb3⟩ := J b_ (by omega)
  have pa := hbv a (by omega)
  have pb := hbv b_ (by omega)
  have la := hlr a (by omega)
  have lb := hlr b_ (by omega)
  have n1 := hnt a (by omega)
  have n2 := hnb a (by omega)
  have n3 := hnt b_ (by omega)
  have n4 := hnb b_ (by omega)
  refine lv_aload_n hx hb d_Mo_sums_0 rfl (lv_at hl 0 rfl) ?_
  refine lv_iload_n hx hb d_Mo_sums_1 rfl (lv_at hl 1 rfl) ?_
  refine cs (n := 1) (wr := [(mo, .inr (8, [.int qc, .int (iZ (np : Int)), .ref ow, .ref om, .ref ok_, .ref oK, .ref og, .ref on_, .ref oh, .ref ox, .int qn, .int qf, .ref op_, .int ql])), (ow, .inl (cI, 108000, .inl fw)), (om, .inl (cI, 9, .inl fm)), (oh, .inl (cI, 10000, .inl fh)), (ok_, .inl (cI, 166400, .inl fk)), (oK, .inl (cI, 64, .inl fK)), (og, .inl (cI, 32, .inl fs)), (on_, .inl (cI, 32, .inl fn))]) (w1 := (fun (u : Int) => [])) (As := [.int (iZ (to : Int))]) (rest := [.ref mo]) K hP hD hK hS hA hl.1 (c_Mo_isRegister l D (to : Int) H.size (by omega)) [] [0, 1, 2, 3, 4, 5, 6, 7] [] rfl rfl rfl (by decide) (by decide) (by decide) (big_in mw_1172 rfl) (big_in mw_10 rfl) (big_in mw_1170 rfl) (big_in mw_1171 rfl) rfl rfl (by decide +kernel) ⟨by rw [hR]; exact Nat.le_of_ble_eq_true rfl, by rw [hR]; exact Nat.le_of_ble_eq_true rfl⟩ rfl (Nat.le_of_ble_eq_true rfl) d_Mo_sums_2 ⟨by rw [hR]; exact Nat.le_of_ble_eq_true rfl, by rw [hR]; exact Nat.le_of_ble_eq_true rfl⟩ rfl (fun v u H locs hp1 hP hD hS _ => ?_)
  obtain ⟨r2, rfl⟩ : ∃ z, z = u := ⟨_, rfl⟩
  obtain ⟨rfl, p2⟩ := hp1
  have hP : va_P D cls0 [(mo, .inr (8, [.int qc, .int (iZ (np : Int)), .ref ow, .ref om, .ref ok_, .ref oK, .ref og, .ref on_, .ref oh, .ref ox, .int qn, .int qf, .ref op_, .int ql])), (ow, .inl (cI, 108000, .inl fw)), (om, .inl (cI, 9, .inl fm)), (oh, .inl (cI, 10000, .inl fh)), (ok_, .inl (cI, 166400, .inl fk)), (oK, .inl (cI, 64, .inl fK)), (og, .inl (cI, 32, .inl fs)), (on_, .inl (cI, 32, .inl fn))] H := hP
  have hD : va_D A [(mo, .inr (8, [.int qc, .int (iZ (np : Int)), .ref ow, .ref om, .ref ok_, .ref oK, .ref og, .ref on_, .ref oh, .ref ox, .int qn, .int qf, .ref op_, .int ql])), (ow, .inl (cI, 108000, .inl fw)), (om, .inl (cI, 9, .inl fm)), (oh, .inl (cI, 10000, .inl fh)), (ok_, .inl (cI, 166400, .inl fk)), (oK, .inl (cI, 64, .inl fK)), (og, .inl (cI, 32, .inl fs)), (on_, .inl (cI, 32, .inl fn))] := hD
  show W p l e R s m args below meth c H locs _ _ Q (F0 m 5 ls [.int (iZ r2), .ref mo])
  have b2 : 0 ≤ r2 ∧ r2 ≤ 1 := by omega
  refine zz_if_eq (tgt := 26) hx hb d_Mo_sums_5 (by decide) (by omega) (fun c5 => ?_) (fun c5 => ?_)
  · refine lv_iconst (v := iZ (1)) hx hb d_Mo_sums_26 (by decide +kernel) ?_
    exfalso
    omega
  · refine lv_iload_n hx hb d_Mo_sums_8 rfl (lv_at hl 2 rfl) ?_
    refine cs (n := 1) (wr := [(mo, .inr (8, [.int qc, .int (iZ (np : Int)), .ref ow, .ref om, .ref ok_, .ref oK, .ref og, .ref on_, .ref oh, .ref ox, .int qn, .int qf, .ref op_, .int ql])), (ow, .inl (cI, 108000, .inl fw)), (om, .inl (cI, 9, .inl fm)), (oh, .inl (cI, 10000, .inl fh)), (ok_, .inl (cI, 166400, .inl fk)), (oK, .inl (cI, 64, .inl fK)), (og, .inl (cI, 32, .inl fs)), (on_, .inl (cI, 32, .inl fn))]) (w1 := (fun (u : Int) => [])) (As := [.int (iZ (a : Int))]) (rest := [.ref mo]) K hP hD hK hS hA hl.1 (c_Mo_isRegister l D (a : Int) H.size (by omega)) [] [0, 1, 2, 3, 4, 5, 6, 7] [] rfl rfl rfl (by decide) (by decide) (by decide) (big_in mw_1172 rfl) (big_in mw_10 rfl) (big_in mw_1170 rfl) (big_in mw_1171 rfl) rfl rfl (by decide +kernel) ⟨by rw [hR]; exact Nat.le_of_ble_eq_true rfl, by rw [hR]; exact Nat.le_of_ble_eq_true rfl⟩ rfl (Nat.le_of_ble_eq_true rfl) d_Mo_sums_9 ⟨by rw [hR]; exact Nat.le_of_ble_eq_true rfl, by rw [hR]; exact Nat.le_of_ble_eq_true rfl⟩ rfl (fun v u H locs hp2 hP hD hS _ => ?_)
    obtain ⟨r9, rfl⟩ : ∃ z, z = u := ⟨_, rfl⟩
    obtain ⟨rfl, p9⟩ := hp2
    have hP : va_P D cls0 [(mo, .inr (8, [.int qc, .int (iZ (np : Int)), .ref ow, .ref om, .ref ok_, .ref oK, .ref og, .ref on_, .ref oh, .ref ox, .int qn, .int qf, .ref op_, .int ql])), (ow, .inl (cI, 108000, .inl fw)), (om, .inl (cI, 9, .inl fm)), (oh, .inl (cI, 10000, .inl fh)), (ok_, .inl (cI, 166400, .inl fk)), (oK, .inl (cI, 64, .inl fK)), (og, .inl (cI, 32, .inl fs)), (on_, .inl (cI, 32, .inl fn))] H := hP
    have hD : va_D A [(mo, .inr (8, [.int qc, .int (iZ (np : Int)), .ref ow, .ref om, .ref ok_, .ref oK, .ref og, .ref on_, .ref oh, .ref ox, .int qn, .int qf, .ref op_, .int ql])), (ow, .inl (cI, 108000, .inl fw)), (om, .inl (cI, 9, .inl fm)), (oh, .inl (cI, 10000, .inl fh)), (ok_, .inl (cI, 166400, .inl fk)), (oK, .inl (cI, 64, .inl fK)), (og, .inl (cI, 32, .inl fs)), (on_, .inl (cI, 32, .inl fn))] := hD
    show W p l e R s m args below meth c H locs _ _ Q (F0 m 12 ls [.int (iZ r9), .ref mo])
    have b9 : 0 ≤ r9 ∧ r9 ≤ 1 := by omega
    refine zz_if_eq (tgt := 26) hx hb d_Mo_sums_12 (by decide) (by omega) (fun c12 => ?_) (fun c12 => ?_)
    · refine lv_iconst (v := iZ (1)) hx hb d_Mo_sums_26 (by decide +kernel) ?_
      exfalso
      omega
    · refine lv_iload_n hx hb d_Mo_sums_15 rfl (lv_at hl 3 rfl) ?_
      refine cs (n := 1) (wr := [(mo, .inr (8, [.int qc, .int (iZ (np : Int)), .ref ow, .ref om, .ref ok_, .ref oK, .ref og, .ref on_, .ref oh, .ref ox, .int qn, .int qf, .ref op_, .int ql])), (ow, .inl (cI, 108000, .inl fw)), (om, .inl (cI, 9, .inl fm)), (oh, .inl (cI, 10000, .inl fh)), (ok_, .inl (cI, 166400, .inl fk)), (oK, .inl (cI, 64, .inl fK)), (og, .inl (cI, 32, .inl fs)), (on_, .inl (cI, 32, .inl fn))]) (w1 := (fun (u : Int) => [])) (As := [.int (iZ (b_ : Int))]) (rest := [.ref mo]) K hP hD hK hS hA hl.1 (c_Mo_isRegister l D (b_ : Int) H.size (by omega)) [] [0, 1, 2, 3, 4, 5, 6, 7] [] rfl rfl rfl (by decide) (by decide) (by decide) (big_in mw_1172 rfl) (big_in mw_10 rfl) (big_in mw_1170 rfl) (big_in mw_1171 rfl) rfl rfl (by decide +kernel) ⟨by rw [hR]; exact Nat.le_of_ble_eq_true rfl, by rw [hR]; exact Nat.le_of_ble_eq_true rfl⟩ rfl (Nat.le_of_ble_eq_true rfl) d_Mo_sums_16 ⟨by rw [hR]; exact Nat.le_of_ble_eq_true rfl, by rw [hR]; exact Nat.le_of_ble_eq_true rfl⟩ rfl (fun v u H locs hp3 hP hD hS _ => ?_)
      obtain ⟨r16, rfl⟩ : ∃ z, z = u := ⟨_, rfl⟩
      obtain ⟨rfl, p16⟩ := hp3
      have hP : va_P D cls0 [(mo, .inr (8, [.int qc, .int (iZ (np : Int)), .ref ow, .ref om, .ref ok_, .ref oK, .ref og, .ref on_, .ref oh, .ref ox, .int qn, .int qf, .ref op_, .int ql])), (ow, .inl (cI, 108000, .inl fw)), (om, .inl (cI, 9, .inl fm)), (oh, .inl (cI, 10000, .inl fh)), (ok_, .inl (cI, 166400, .inl fk)), (oK, .inl (cI, 64, .inl fK)), (og, .inl (cI, 32, .inl fs)), (on_, .inl (cI, 32, .inl fn))] H := hP
      have hD : va_D A [(mo, .inr (8, [.int qc, .int (iZ (np : Int)), .ref ow, .ref om, .ref ok_, .ref oK, .ref og, .ref on_, .ref oh, .ref ox, .int qn, .int qf, .ref op_, .int ql])), (ow, .inl (cI, 108000, .inl fw)), (om, .inl (cI, 9, .inl fm)), (oh, .inl (cI, 10000, .inl fh)), (ok_, .inl (cI, 166400, .inl fk)), (oK, .inl (cI, 64, .inl fK)), (og, .inl (cI, 32, .inl fs)), (on_, .inl (cI, 32, .inl fn))] := hD
      show W p l e R s m args below meth c H locs _ _ Q (F0 m 19 ls [.int (iZ r16), .ref mo])
      have b16 : 0 ≤ r16 ∧ r16 ≤ 1 := by omega
      refine zz_if_eq (tgt := 26) hx hb d_Mo_sums_19 (by decide) (by omega) (fun c19 => ?_) (fun c19 => ?_)
      · refine lv_iconst (v := iZ (1)) hx hb d_Mo_sums_26 (by decide +kernel) ?_
        exfalso
        omega
      · refine lv_iconst (v := iZ (0)) hx hb d_Mo_sums_22 (by decide +kernel) ?_
        refine lv_goto (tgt := 27) hx hb d_Mo_sums_23 (by decide) ?_
        refine cv (n := 1) (wr := [(ow, .inl (cI, 108000, .inl fw)), (om, .inl (cI, 9, .inl fm)), (oh, .inl (cI, 10000, .inl fh)), (ok_, .inl (cI, 166400, .inl fk)), (oK, .inl (cI, 64, .inl fK)), (og, .inl (cI, 32, .inl fs)), (on_, .inl (cI, 32, .inl fn))]) (w1 := (fun (u : Int) => [(mo, .inr (8, [.int (iZ 0), .int (iZ (np : Int)), .ref ow, .ref om, .ref ok_, .ref oK, .ref og, .ref on_, .ref oh, .ref ox, .int qn, .int qf, .ref op_, .int ql]))])) (As := [.int (iZ 0)]) (rest := []) K hP hD hK hS hA hl.1 (c_Mo_refuses l D mo qc np ow om ok_ oK og on_ oh ox qn qf op_ ql 0 H.size (by omega)) [0] [1, 2, 3, 4, 5, 6, 7] [] rfl rfl rfl (by decide) (by decide) (by decide) 0 rfl rfl (big_in mw_1176 rfl) (big_in mw_10 rfl) (big_in mw_1173 rfl) (big_in mw_1175 rfl) (big_in sp_18 rfl) rfl rfl (by decide +kernel) ⟨by rw [hR]; exact Nat.le_of_ble_eq_true rfl, by rw [hR]; exact Nat.le_of_ble_eq_true rfl⟩ rfl (Nat.le_of_ble_eq_true rfl) d_Mo_sums_27 ⟨by rw [hR]; exact Nat.le_of_ble_eq_true rfl, by rw [hR]; exact Nat.le_of_ble_eq_true rfl⟩ rfl (fun v u H locs hp4 hP hD hS _ => ?_)
        obtain ⟨rf, rfl⟩ : ∃ z, z = u := ⟨_, rfl⟩
        obtain ⟨rfl, prf⟩ := hp4
        have hP : va_P D cls0 [(ow, .inl (cI, 108000, .inl fw)), (om, .inl (cI, 9, .inl fm)), (oh, .inl (cI, 10000, .inl fh)), (ok_, .inl (cI, 166400, .inl fk)), (oK, .inl (cI, 64, .inl fK)), (og, .inl (cI, 32, .inl fs)), (on_, .inl (cI, 32, .inl fn)), (mo, .inr (8, [.int (iZ 0), .int (iZ (np : Int)), .ref ow, .ref om, .ref ok_, .ref oK, .ref og, .ref on_, .ref oh, .ref ox, .int qn, .int qf, .ref op_, .int ql]))] H := hP
        have hD : va_D A [(ow, .inl (cI, 108000, .inl fw)), (om, .inl (cI, 9, .inl fm)), (oh, .inl (cI, 10000, .inl fh)), (ok_, .inl (cI, 166400, .inl fk)), (oK, .inl (cI, 64, .inl fK)), (og, .inl (cI, 32, .inl fs)), (on_, .inl (cI, 32, .inl fn)), (mo, .inr (8, [.int (iZ 0), .int (iZ (np : Int)), .ref ow, .ref om, .ref ok_, .ref oK, .ref og, .ref on_, .ref oh, .ref ox, .int qn, .int qf, .ref op_, .int ql]))] := hD
        show W p l e R s m args below meth c H locs _ _ Q (F0 m 30 ls [.int (iZ rf)])
        refine zz_if_eq (tgt := 35) hx hb d_Mo_sums_30 (by decide) (by omega) (fun c30 => ?_) (fun c30 => False.elim (by omega))
        refine lv_aload_n hx hb d_Mo_sums_35 rfl (lv_at hl 0 rfl) ?_
        refine lv_iconst (v := iZ (0)) hx hb d_Mo_sums_36 (by decide +kernel) ?_
        refine lv_iconst (v := iZ (2)) hx hb d_Mo_sums_37 (by decide +kernel) ?_
        refine lv_iload_n hx hb d_Mo_sums_38 rfl (lv_at hl 2 rfl) ?_
        refine zz_imul hx hb d_Mo_sums_39 ?_
        rw [show (2 * (a : Int) : Int) = ((2 * a : Nat) : Int) by omega]
        refine cv (n := 2) (wr := [(oh, .inl (cI, 10000, .inl fh)), (og, .inl (cI, 32, .inl fs)), (on_, .inl (cI, 32, .inl fn))]) (w1 := (fun (u : (Nat → Int32) × (Nat → Int32)) => [(mo, .inr (8, [.int (iZ 0), .int (iZ (np : Int)), .ref ow, .ref om, .ref ok_, .ref oK, .ref og, .ref on_, .ref oh, .ref ox, .int qn, .int qf, .ref op_, .int ql])), (ow, .inl (cI, 108000, .inl u.1)), (om, .inl (cI, 9, .inl u.2)), (ok_, .inl (cI, 166400, .inl fk)), (oK, .inl (cI, 64, .inl fK))])) (As := [.int (iZ 0), .int (iZ ((2 * a : Nat) : Int))]) (rest := []) K hP hD hK hS hA hl.1 (c_Mo_load l D mo (iZ 0) np ow om ok_ oK og on_ oh ox qn qf op_ ql fw fm cI fk fK val (kvf tv bv) 0 (2 * a) H.size hW hMR.1 (by decide) (by omega)) [7, 0, 1, 3, 4] [2, 5, 6] [0] rfl rfl rfl (by decide) (by decide) (by decide) 0 rfl rfl (big_in mw_1238 rfl) (big_in mw_10 rfl) (big_in mw_1235 rfl) (big_in mw_1237 rfl) (big_in sp_31 rfl) rfl rfl (by decide +kernel) ⟨by rw [hR]; exact Nat.le_of_ble_eq_true rfl, by rw [hR]; exact Nat.le_of_ble_eq_true rfl⟩ rfl (Nat.le_of_ble_eq_true rfl) d_Mo_sums_40 ⟨by rw [hR]; exact Nat.le_of_ble_eq_true rfl, by rw [hR]; exact Nat.le_of_ble_eq_true rfl⟩ rfl (fun v u H locs hp5 hP hD hS _ => ?_)
        obtain ⟨fx1, fy1⟩ := u
        try dsimp only at hp5
        obtain ⟨rfl, w1⟩ := hp5
        have hP : va_P D cls0 [(oh, .inl (cI, 10000, .inl fh)), (og, .inl (cI, 32, .inl fs)), (on_, .inl (cI, 32, .inl fn)), (mo, .inr (8, [.int (iZ 0), .int (iZ (np : Int)), .ref ow, .ref om, .ref ok_, .ref oK, .ref og, .ref on_, .ref oh, .ref ox, .int qn, .int qf, .ref op_, .int ql])), (ow, .inl (cI, 108000, .inl fx1)), (om, .inl (cI, 9, .inl fy1)), (ok_, .inl (cI, 166400, .inl fk)), (oK, .inl (cI, 64, .inl fK))] H := hP
        have hD : va_D A [(oh, .inl (cI, 10000, .inl fh)), (og, .inl (cI, 32, .inl fs)), (on_, .inl (cI, 32, .inl fn)), (mo, .inr (8, [.int (iZ 0), .int (iZ (np : Int)), .ref ow, .ref om, .ref ok_, .ref oK, .ref og, .ref on_, .ref oh, .ref ox, .int qn, .int qf, .ref op_, .int ql])), (ow, .inl (cI, 108000, .inl fx1)), (om, .inl (cI, 9, .inl fy1)), (ok_, .inl (cI, 166400, .inl fk)), (oK, .inl (cI, 64, .inl fK))] := hD
        show W p l e R s m args below meth c H locs _ _ Q (F0 m 43 ls [])
        rw [kvf_0] at w1
        obtain ⟨v1, hv1⟩ : ∃ z, z = up val 0 (tv a) := ⟨_, rfl⟩
        rw [← hv1] at w1
        refine lv_aload_n hx hb d_Mo_sums_43 rfl (lv_at hl 0 rfl) ?_
        refine lv_iconst (v := iZ (1)) hx hb d_Mo_sums_44 (by decide +kernel) ?_
        refine lv_iconst (v := iZ (2)) hx hb d_Mo_sums_45 (by decide +kernel) ?_
        refine lv_iload_n hx hb d_Mo_sums_46 rfl (lv_at hl 2 rfl) ?_
        refine zz_imul hx hb d_Mo_sums_47 ?_
        refine lv_iconst (v := iZ (1)) hx hb d_Mo_sums_48 (by decide +kernel) ?_
        refine zz_iadd hx hb d_Mo_sums_49 ?_
        rw [show (2 * (a : Int) + 1 : Int) = ((2 * a + 1 : Nat) : Int) by omega]
        refine cv (n := 2) (wr := [(oh, .inl (cI, 10000, .inl fh)), (og, .inl (cI, 32, .inl fs)), (on_, .inl (cI, 32, .inl fn))]) (w1 := (fun (u : (Nat → Int32) × (Nat → Int32)) => [(mo, .inr (8, [.int (iZ 0), .int (iZ (np : Int)), .ref ow, .ref om, .ref ok_, .ref oK, .ref og, .ref on_, .ref oh, .ref ox, .int qn, .int qf, .ref op_, .int ql])), (ow, .inl (cI, 108000, .inl u.1)), (om, .inl (cI, 9, .inl u.2)), (ok_, .inl (cI, 166400, .inl fk)), (oK, .inl (cI, 64, .inl fK))])) (As := [.int (iZ 1), .int (iZ ((2 * a + 1 : Nat) : Int))]) (rest := []) K hP hD hK hS hA hl.1 (c_Mo_load l D mo (iZ 0) np ow om ok_ oK og on_ oh ox qn qf op_ ql fx1 fy1 cI fk fK v1 (kvf tv bv) 1 (2 * a + 1) H.size w1 hMR.1 (by decide) (by omega)) [3, 4, 5, 6, 7] [0, 1, 2] [0] rfl rfl rfl (by decide) (by decide) (by decide) 0 rfl rfl (big_in mw_1238 rfl) (big_in mw_10 rfl) (big_in mw_1235 rfl) (big_in mw_1237 rfl) (big_in sp_31 rfl) rfl rfl (by decide +kernel) ⟨by rw [hR]; exact Nat.le_of_ble_eq_true rfl, by rw [hR]; exact Nat.le_of_ble_eq_true rfl⟩ rfl (Nat.le_of_ble_eq_true rfl) d_Mo_sums_50 ⟨by rw [hR]; exact Nat.le_of_ble_eq_true rfl, by rw [hR]; exact Nat.le_of_ble_eq_true rfl⟩ rfl (fun v u H locs hp6 hP hD hS _ => ?_)
        obtain ⟨fx2, fy2⟩ := u
        try dsimp only at hp6
        obtain ⟨rfl, w2⟩ := hp6
        have hP : va_P D cls0 [(oh, .inl (cI, 10000, .inl fh)), (og, .inl (cI, 32, .inl fs)), (on_, .inl (cI, 32, .inl fn)), (mo, .inr (8, [.int (iZ 0), .int (iZ (np : Int)), .ref ow, .ref om, .ref ok_, .ref oK, .ref og, .ref on_, .ref oh, .ref ox, .int qn, .int qf, .ref op_, .int ql])), (ow, .inl (cI, 108000, .inl fx2)), (om, .inl (cI, 9, .inl fy2)), (ok_, .inl (cI, 166400, .inl fk)), (oK, .inl (cI, 64, .inl fK))] H := hP
        have hD : va_D A [(oh, .inl (cI, 10000, .inl fh)), (og, .inl (cI, 32, .inl fs)), (on_, .inl (cI, 32, .inl fn)), (mo, .inr (8, [.int (iZ 0), .int (iZ (np : Int)), .ref ow, .ref om, .ref ok_, .ref oK, .ref og, .ref on_, .ref oh, .ref ox, .int qn, .int qf, .ref op_, .int ql])), (ow, .inl (cI, 108000, .inl fx2)), (om, .inl (cI, 9, .inl fy2)), (ok_, .inl (cI, 166400, .inl fk)), (oK, .inl (cI, 64, .inl fK))] := hD
        show W p l e R s m args below meth c H locs _ _ Q (F0 m 53 ls [])
        rw [kvf_1] at w2
        obtain ⟨v2, hv2⟩ : ∃ z, z = up v1 1 (bv a) := ⟨_, rfl⟩
        rw [← hv2] at w2
        refine lv_aload_n hx hb d_Mo_sums_53 rfl (lv_at hl 0 rfl) ?_
        refine lv_iconst (v := iZ (2)) hx hb d_Mo_sums_54 (by decide +kernel) ?_
        refine lv_iconst (v := iZ (2)) hx hb d_Mo_sums_55 (by decide +kernel) ?_
        refine lv_iload_n hx hb d_Mo_sums_56 rfl (lv_at hl 3 rfl) ?_
        refine zz_imul hx hb d_Mo_sums_57 ?_
        rw [show (2 * (b_ : Int) : Int) = ((2 * b_ : Nat) : Int) by omega]
        refine cv (n := 2) (wr := [(oh, .inl (cI, 10000, .inl fh)), (og, .inl (cI, 32, .inl fs)), (on_, .inl (cI, 32, .inl fn))]) (w1 := (fun (u : (Nat → Int32) × (Nat → Int32)) => [(mo, .inr (8, [.int (iZ 0), .int (iZ (np : Int)), .ref ow, .ref om, .ref ok_, .ref oK, .ref og, .ref on_, .ref oh, .ref ox, .int qn, .int qf, .ref op_, .int ql])), (ow, .inl (cI, 108000, .inl u.1)), (om, .inl (cI, 9, .inl u.2)), (ok_, .inl (cI, 166400, .inl fk)), (oK, .inl (cI, 64, .inl fK))])) (As := [.int (iZ 2), .int (iZ ((2 * b_ : Nat) : Int))]) (rest := []) K hP hD hK hS hA hl.1 (c_Mo_load l D mo (iZ 0) np ow om ok_ oK og on_ oh ox qn qf op_ ql fx2 fy2 cI fk fK v2 (kvf tv bv) 2 (2 * b_) H.size w2 hMR.1 (by decide) (by omega)) [3, 4, 5, 6, 7] [0, 1, 2] [0] rfl rfl rfl (by decide) (by decide) (by decide) 0 rfl rfl (big_in mw_1238 rfl) (big_in mw_10 rfl) (big_in mw_1235 rfl) (big_in mw_1237 rfl) (big_in sp_31 rfl) rfl rfl (by decide +kernel) ⟨by rw [hR]; exact Nat.le_of_ble_eq_true rfl, by rw [hR]; exact Nat.le_of_ble_eq_true rfl⟩ rfl (Nat.le_of_ble_eq_true rfl) d_Mo_sums_58 ⟨by rw [hR]; exact Nat.le_of_ble_eq_true rfl, by rw [hR]; exact Nat.le_of_ble_eq_true rfl⟩ rfl (fun v u H locs hp7 hP hD hS _ => ?_)
        obtain ⟨fx3, fy3⟩ := u
        try dsimp only at hp7
        obtain ⟨rfl, w3⟩ := hp7
        have hP : va_P D cls0 [(oh, .inl (cI, 10000, .inl fh)), (og, .inl (cI, 32, .inl fs)), (on_, .inl (cI, 32, .inl fn)), (mo, .inr (8, [.int (iZ 0), .int (iZ (np : Int)), .ref ow, .ref om, .ref ok_, .ref oK, .ref og, .ref on_, .ref oh, .ref ox, .int qn, .int qf, .ref op_, .int ql])), (ow, .inl (cI, 108000, .inl fx3)), (om, .inl (cI, 9, .inl fy3)), (ok_, .inl (cI, 166400, .inl fk)), (oK, .inl (cI, 64, .inl fK))] H := hP
        have hD : va_D A [(oh, .inl (cI, 10000, .inl fh)), (og, .inl (cI, 32, .inl fs)), (on_, .inl (cI, 32, .inl fn)), (mo, .inr (8, [.int (iZ 0), .int (iZ (np : Int)), .ref ow, .ref om, .ref ok_, .ref oK, .ref og, .ref on_, .ref oh, .ref ox, .int qn, .int qf, .ref op_, .int ql])), (ow, .inl (cI, 108000, .inl fx3)), (om, .inl (cI, 9, .inl fy3)), (ok_, .inl (cI, 166400, .inl fk)), (oK, .inl (cI, 64, .inl fK))] := hD
        show W p l e R s m args below meth c H locs _ _ Q (F0 m 61 ls [])
        rw [kvf_0] at w3
        obtain ⟨v3, hv3⟩ : ∃ z, z = up v2 2 (tv b_) := ⟨_, rfl⟩
        rw [← hv3] at w3
        refine lv_aload_n hx hb d_Mo_sums_61 rfl (lv_at hl 0 rfl) ?_
        refine lv_iconst (v := iZ (3)) hx hb d_Mo_sums_62 (by decide +kernel) ?_
        refine lv_iconst (v := iZ (2)) hx hb d_Mo_sums_63 (by decide +kernel) ?_
        refine lv_iload_n hx hb d_Mo_sums_64 rfl (lv_at hl 3 rfl) ?_
        refine zz_imul hx hb d_Mo_sums_65 ?_
        refine lv_iconst (v := iZ (1)) hx hb d_Mo_sums_66 (by decide +kernel) ?_
        refine zz_iadd hx hb d_Mo_sums_67 ?_
        rw [show (2 * (b_ : Int) + 1 : Int) = ((2 * b_ + 1 : Nat) : Int) by omega]
        refine cv (n := 2) (wr := [(oh, .inl (cI, 10000, .inl fh)), (og, .inl (cI, 32, .inl fs)), (on_, .inl (cI, 32, .inl fn))]) (w1 := (fun (u : (Nat → Int32) × (Nat → Int32)) => [(mo, .inr (8, [.int (iZ 0), .int (iZ (np : Int)), .ref ow, .ref om, .ref ok_, .ref oK, .ref og, .ref on_, .ref oh, .ref ox, .int qn, .int qf, .ref op_, .int ql])), (ow, .inl (cI, 108000, .inl u.1)), (om, .inl (cI, 9, .inl u.2)), (ok_, .inl (cI, 166400, .inl fk)), (oK, .inl (cI, 64, .inl fK))])) (As := [.int (iZ 3), .int (iZ ((2 * b_ + 1 : Nat) : Int))]) (rest := []) K hP hD hK hS hA hl.1 (c_Mo_load l D mo (iZ 0) np ow om ok_ oK og on_ oh ox qn qf op_ ql fx3 fy3 cI fk fK v3 (kvf tv bv) 3 (2 * b_ + 1) H.size w3 hMR.1 (by decide) (by omega)) [3, 4, 5, 6, 7] [0, 1, 2] [0] rfl rfl rfl (by decide) (by decide) (by decide) 0 rfl rfl (big_in mw_1238 rfl) (big_in mw_10 rfl) (big_in mw_1235 rfl) (big_in mw_1237 rfl) (big_in sp_31 rfl) rfl rfl (by decide +kernel) ⟨by rw [hR]; exact Nat.le_of_ble_eq_true rfl, by rw [hR]; exact Nat.le_of_ble_eq_true rfl⟩ rfl (Nat.le_of_ble_eq_true rfl) d_Mo_sums_68 ⟨by rw [hR]; exact Nat.le_of_ble_eq_true rfl, by rw [hR]; exact Nat.le_of_ble_eq_true rfl⟩ rfl (fun v u H locs hp8 hP hD hS _ => ?_)
        obtain ⟨fx4, fy4⟩ := u
        try dsimp only at hp8
        obtain ⟨rfl, w4⟩ := hp8
        have hP : va_P D cls0 [(oh, .inl (cI, 10000, .inl fh)), (og, .inl (cI, 32, .inl fs)), (on_, .inl (cI, 32, .inl fn)), (mo, .inr (8, [.int (iZ 0), .int (iZ (np : Int)), .ref ow, .ref om, .ref ok_, .ref oK, .ref og, .ref on_, .ref oh, .ref ox, .int qn, .int qf, .ref op_, .int ql])), (ow, .inl (cI, 108000, .inl fx4)), (om, .inl (cI, 9, .inl fy4)), (ok_, .inl (cI, 166400, .inl fk)), (oK, .inl (cI, 64, .inl fK))] H := hP
        have hD : va_D A [(oh, .inl (cI, 10000, .inl fh)), (og, .inl (cI, 32, .inl fs)), (on_, .inl (cI, 32, .inl fn)), (mo, .inr (8, [.int (iZ 0), .int (iZ (np : Int)), .ref ow, .ref om, .ref ok_, .ref oK, .ref og, .ref on_, .ref oh, .ref ox, .int qn, .int qf, .ref op_, .int ql])), (ow, .inl (cI, 108000, .inl fx4)), (om, .inl (cI, 9, .inl fy4)), (ok_, .inl (cI, 166400, .inl fk)), (oK, .inl (cI, 64, .inl fK))] := hD
        show W p l e R s m args below meth c H locs _ _ Q (F0 m 71 ls [])
        rw [kvf_1] at w4
        obtain ⟨v4, hv4⟩ : ∃ z, z = up v3 3 (bv b_) := ⟨_, rfl⟩
        rw [← hv4] at w4
        have y0 : v4 0 = tv a := by simp [hv4, hv3, hv2, hv1, up]
        have y1 : v4 1 = bv a := by simp [hv4, hv3, hv2, hv1, up]
        have y2 : v4 2 = tv b_ := by simp [hv4, hv3, hv2, hv1, up]
        have y3 : v4 3 = bv b_ := by simp [hv4, hv3, hv2, hv1, up]
        refine lv_aload_n hx hb d_Mo_sums_71 rfl (lv_at hl 0 rfl) ?_
        refine lv_aload_n hx hb d_Mo_sums_72 rfl (lv_at hl 0 rfl) ?_
        refine va_get (D := D) (ci := 8) (v := .ref og) (C := R_Mo) (T := F_Mo) (N := 14) hx hb hts i_Mo hown hK hP 3 rfl rfl 6 (by decide) (hts _ (big_in mw_1121 rfl)) (fun _ h9 => h9) rfl d_Mo_sums_73 ?_
        refine lv_iload_n hx hb d_Mo_sums_76 rfl (lv_at hl 2 rfl) ?_
        refine zz_iald hx hb hK hP 1 0 rfl rfl (a) (by omega) (by omega) (by omega) d_Mo_sums_77 ?_
        rw [hMR.2.1 a (by omega)]
        refine lv_iload hx hb d_Mo_sums_78 (lv_at hl 4 rfl) ?_
        refine zz_if_eq (tgt := 93) hx hb d_Mo_sums_80 (by decide) (by omega) (fun c80 => False.elim (by omega)) (fun c80 => ?_)
        refine lv_aload_n hx hb d_Mo_sums_83 rfl (lv_at hl 0 rfl) ?_
        refine va_get (D := D) (ci := 8) (v := .ref og) (C := R_Mo) (T := F_Mo) (N := 14) hx hb hts i_Mo hown hK hP 3 rfl rfl 6 (by decide) (hts _ (big_in mw_1121 rfl)) (fun _ h9 => h9) rfl d_Mo_sums_84 ?_
        refine lv_iload_n hx hb d_Mo_sums_87 rfl (lv_at hl 3 rfl) ?_
        refine zz_iald hx hb hK hP 1 0 rfl rfl (b_) (by omega) (by omega) (by omega) d_Mo_sums_88 ?_
        rw [hMR.2.1 b_ (by omega)]
        refine zz_ineg hx hb d_Mo_sums_89 ?_
        refine lv_goto (tgt := 99) hx hb d_Mo_sums_90 (by decide) ?_
        refine cv (n := 2) (wr := [(oh, .inl (cI, 10000, .inl fh)), (og, .inl (cI, 32, .inl fs)), (on_, .inl (cI, 32, .inl fn)), (ok_, .inl (cI, 166400, .inl fk)), (oK, .inl (cI, 64, .inl fK))]) (w1 := (fun (u : Int × (Nat → Int32) × (Nat → Int32) × (Nat → Nat)) => [(mo, .inr (8, [.int (iZ 0), .int (iZ (np : Int)), .ref ow, .ref om, .ref ok_, .ref oK, .ref og, .ref on_, .ref oh, .ref ox, .int qn, .int qf, .ref op_, .int ql])), (ow, .inl (cI, 108000, .inl u.2.1)), (om, .inl (cI, 9, .inl u.2.2.1))])) (As := [.int (iZ (sg a)), .int (iZ (-(sg b_)))]) (rest := []) K hP hD hK hS hA hl.1 (c_Mo_sum l D mo (iZ 0) np ow om ok_ oK og on_ oh ox qn qf op_ ql fx4 fy4 cI v4 (sg a) (-(sg b_)) H.size w4 ja3 (by omega) (by rw [y0]; exact ja2) (by rw [y2]; rw [← jb2]; omega) (by rw [y1]; exact pa) (by rw [y3]; exact pb) (by rw [y0, y3]; omega) (by rw [y2, y1]; omega) (by rw [y1, y3]; omega)) [3, 4, 5] [0, 1, 2, 6, 7] [0] rfl rfl rfl (by decide) (by decide) (by decide) 0 rfl rfl (big_in mw_1254 rfl) (big_in mw_10 rfl) (big_in mw_1251 rfl) (big_in mw_1253 rfl) (big_in sp_33 rfl) rfl rfl (by decide +kernel) ⟨by rw [hR]; exact Nat.le_of_ble_eq_true rfl, by rw [hR]; exact Nat.le_of_ble_eq_true rfl⟩ rfl (Nat.le_of_ble_eq_true rfl) d_Mo_sums_99 ⟨by rw [hR]; exact Nat.le_of_ble_eq_true rfl, by rw [hR]; exact Nat.le_of_ble_eq_true rfl⟩ rfl (fun v u H locs hp9 hP hD hS _ => ?_)
        obtain ⟨rs, fx5, fy5, v5⟩ := u
        try dsimp only at hp9
        obtain ⟨rfl, ers, w5, x0, x1⟩ := hp9
        have hP : va_P D cls0 [(oh, .inl (cI, 10000, .inl fh)), (og, .inl (cI, 32, .inl fs)), (on_, .inl (cI, 32, .inl fn)), (ok_, .inl (cI, 166400, .inl fk)), (oK, .inl (cI, 64, .inl fK)), (mo, .inr (8, [.int (iZ 0), .int (iZ (np : Int)), .ref ow, .ref om, .ref ok_, .ref oK, .ref og, .ref on_, .ref oh, .ref ox, .int qn, .int qf, .ref op_, .int ql])), (ow, .inl (cI, 108000, .inl fx5)), (om, .inl (cI, 9, .inl fy5))] H := hP
        have hD : va_D A [(oh, .inl (cI, 10000, .inl fh)), (og, .inl (cI, 32, .inl fs)), (on_, .inl (cI, 32, .inl fn)), (ok_, .inl (cI, 166400, .inl fk)), (oK, .inl (cI, 64, .inl fK)), (mo, .inr (8, [.int (iZ 0), .int (iZ (np : Int)), .ref ow, .ref om, .ref ok_, .ref oK, .ref og, .ref on_, .ref oh, .ref ox, .int qn, .int qf, .ref op_, .int ql])), (ow, .inl (cI, 108000, .inl fx5)), (om, .inl (cI, 9, .inl fy5))] := hD
        show W p l e R s m args below meth c H locs _ _ Q (F0 m 102 ls [.int (iZ rs)])
        rw [y0, y1, y2, y3] at ers x0
        rw [y1, y3] at x1
        have l5 : lm (sg a * ((tv a * bv b_ : Nat) : Int) + -(sg b_) * ((tv b_ * bv a : Nat) : Int)).natAbs ≤ _ := sum_lm ja3 (show -1 ≤ -(sg b_) ∧ -(sg b_) ≤ 1 by omega)
        have l6 := lm_mul (bv a) (bv b_)
        have srs : -1 ≤ rs ∧ rs ≤ 1 := by rw [ers]; exact sgn_b _
        refine lv_istore (lv' := [(5, .int (iZ rs)), (0, .ref mo), (1, .int (iZ (to : Int))), (2, .int (iZ (a : Int))), (3, .int (iZ (b_ : Int))), (4, .int (iZ 1))]) hx hb d_Mo_sums_102 hl (by decide) rfl (fun ls hl => ?_)
        refine lv_aload_n hx hb d_Mo_sums_104 rfl (lv_at hl 1 rfl) ?_
        refine lv_iload_n hx hb d_Mo_sums_105 rfl (lv_at hl 2 rfl) ?_
        refine lv_iload hx hb d_Mo_sums_106 (lv_at hl 0 rfl) ?_
        refine lv_iconst (v := iZ (2)) hx hb d_Mo_sums_108 (by decide +kernel) ?_
        refine cv (n := 3) (wr := []) (w1 := (fun (u : (Nat → Int32) × (Nat → Int32) × (Nat → Int32) × (Nat → Int32) × (Nat → Int32) × (Nat → Int32) × (Nat → Int32) × (Nat → Nat)) => [(mo, .inr (8, [.int (iZ 0), .int (iZ (np : Int)), .ref ow, .ref om, .ref ok_, .ref oK, .ref og, .ref on_, .ref oh, .ref ox, .int qn, .int qf, .ref op_, .int ql])), (ow, .inl (cI, 108000, .inl u.1)), (om, .inl (cI, 9, .inl u.2.1)), (oh, .inl (cI, 10000, .inl u.2.2.1)), (ok_, .inl (cI, 166400, .inl u.2.2.2.1)), (oK, .inl (cI, 64, .inl u.2.2.2.2.1)), (og, .inl (cI, 32, .inl u.2.2.2.2.2.1)), (on_, .inl (cI, 32, .inl u.2.2.2.2.2.2.1))])) (As := [.int (iZ (to : Int)), .int (iZ rs), .int (iZ 2)]) (rest := []) K hP hD hK hS hA hl.1 (c_Mo_put l D mo (iZ 0) np ow om ok_ oK og on_ oh ox qn qf op_ ql fx5 fy5 cI fh fk fK fs fn v5 tv bv sg to rs 2 H.size w5 hMR (by omega) hnd hnp (by omega) (by decide) (by rw [x1]; exact Nat.mul_pos pa pb) (by rw [x0]; omega) (by rw [x1]; omega) (by rw [x0, x1]; exact hfit)) [5, 6, 7, 0, 3, 4, 1, 2] [] [0] rfl rfl rfl (by decide) (by decide) (by decide) 0 rfl rfl (big_in mw_1185 rfl) (big_in mw_10 rfl) (big_in mw_1182 rfl) (big_in mw_1184 rfl) (big_in sp_20 rfl) rfl rfl (by decide +kernel) ⟨by rw [hR]; exact Nat.le_of_ble_eq_true rfl, by rw [hR]; exact Nat.le_of_ble_eq_true rfl⟩ rfl (Nat.le_of_ble_eq_true rfl) d_Mo_sums_109 ⟨by rw [hR]; exact Nat.le_of_ble_eq_true rfl, by rw [hR]; exact Nat.le_of_ble_eq_true rfl⟩ rfl (fun v u H locs hp10 hP hD hS _ => ?_)
        obtain ⟨fa, fb, fc, fd, fe, ff, fg, v9⟩ := u
        try dsimp only at hp10
        obtain ⟨rfl, w9, q9⟩ := hp10
        have hP : va_P D cls0 [(mo, .inr (8, [.int (iZ 0), .int (iZ (np : Int)), .ref ow, .ref om, .ref ok_, .ref oK, .ref og, .ref on_, .ref oh, .ref ox, .int qn, .int qf, .ref op_, .int ql])), (ow, .inl (cI, 108000, .inl fa)), (om, .inl (cI, 9, .inl fb)), (oh, .inl (cI, 10000, .inl fc)), (ok_, .inl (cI, 166400, .inl fd)), (oK, .inl (cI, 64, .inl fe)), (og, .inl (cI, 32, .inl ff)), (on_, .inl (cI, 32, .inl fg))] H := hP
        have hD : va_D A [(mo, .inr (8, [.int (iZ 0), .int (iZ (np : Int)), .ref ow, .ref om, .ref ok_, .ref oK, .ref og, .ref on_, .ref oh, .ref ox, .int qn, .int qf, .ref op_, .int ql])), (ow, .inl (cI, 108000, .inl fa)), (om, .inl (cI, 9, .inl fb)), (oh, .inl (cI, 10000, .inl fc)), (ok_, .inl (cI, 166400, .inl fd)), (oK, .inl (cI, 64, .inl fe)), (og, .inl (cI, 32, .inl ff)), (on_, .inl (cI, 32, .inl fg))] := hD
        show W p l e R s m args below meth c H locs _ _ Q (F0 m 112 ls [.int (iZ ((lm (rdN (v5 0) (v5 1)) : Int) + (lm (rdD (v5 0) (v5 1)) : Int)))])
        rw [x0, x1]
        rw [x0, x1] at q9
        have hP9 : va_P D cls0 [(mo, .inr (8, [.int (iZ 0), .int (iZ (np : Int)), .ref ow, .ref om, .ref ok_, .ref oK, .ref og, .ref on_, .ref oh, .ref ox, .int qn, .int qf, .ref op_, .int ql])), (ow, .inl (cI, 108000, .inl fa)), (om, .inl (cI, 9, .inl fb)), (oh, .inl (cI, 10000, .inl fc)), (ok_, .inl (cI, 166400, .inl fd)), (oK, .inl (cI, 64, .inl fe)), (og, .inl (cI, 32, .inl ff)), (on_, .inl (cI, 32, .inl fg))] H := hP.sub [0, 1, 2, 3, 4, 5, 6, 7] rfl
        have hD9 : va_D A [(mo, .inr (8, [.int (iZ 0), .int (iZ (np : Int)), .ref ow, .ref om, .ref ok_, .ref oK, .ref og, .ref on_, .ref oh, .ref ox, .int qn, .int qf, .ref op_, .int ql])), (ow, .inl (cI, 108000, .inl fa)), (om, .inl (cI, 9, .inl fb)), (oh, .inl (cI, 10000, .inl fc)), (ok_, .inl (cI, 166400, .inl fd)), (oK, .inl (cI, 64, .inl fe)), (og, .inl (cI, 32, .inl ff)), (on_, .inl (cI, 32, .inl fg))] := hD.sub [0, 1, 2, 3, 4, 5, 6, 7] (by decide) rfl
        rw [hQ, ← hAe]
        refine r_i (v := (iZ ((lm (rdN (((sg a * ((tv a * bv b_ : Nat) : Int) + -(sg b_) * ((tv b_ * bv a : Nat) : Int)).natAbs)) ((bv a * bv b_))) : Int) + (lm (rdD (((sg a * ((tv a * bv b_ : Nat) : Int) + -(sg b_) * ((tv b_ * bv a : Nat) : Int)).natAbs)) ((bv a * bv b_))) : Int)))) K (fa, fb, fc, fd, fe, ff, fg, v9) hS d_Mo_sums_112 ?_ (fun t ht hv => ?_)
        · try dsimp only
          refine ⟨rfl, w9, ?_⟩
          rw [← ers]; exact q9
        · exact ⟨by rw [ht]; exact hP9, va_K.moved hv hK, by rw [← hAe]; exact hD9⟩
set_option maxHeartbeats 4000000 in
set_option maxRecDepth 100000 in
/-- Mo_sums -/
theorem f_Mo_sums1 (l : Launch) (D : va_G) (mo : Nat) (qc : Int32) (np : Nat) (ow : Nat) (om : Nat) (ok_ : Nat) (oK : Nat) (og : Nat) (on_ : Nat) (oh : Nat) (ox : Nat) (qn : Int32) (qf : Int32) (op_ : Nat) (ql : Int32) (fw : Nat → Int32) (fm : Nat → Int32) (cI : ClassId) (fh : Nat → Int32) (fk : Nat → Int32) (fK : Nat → Int32) (fs : Nat → Int32) (fn : Nat → Int32) (val : Nat → Nat) (tv : Nat → Nat) (bv : Nat → Nat) (sg : Nat → Int) (to : Nat) (a : Nat) (b_ : Nat) (sz : Nat) (hW : WB fw fm val) (hMR : MoR fk fK fs fn tv bv sg) (hnd : ndS tv bv 32 ≤ np) (hnp : np ≤ 1024) (J : RgC tv bv sg) (hbv : ∀ r, r < 32 → 0 < bv r) (t1 : to < 32) (t2 : a < 32) (t3_ : b_ < 32) (hfit : np + (lm (tv to) + lm (bv to)) < ndS tv bv 32 + (lm (rdN ((sg a * ((tv a * bv b_ : Nat) : Int) + -(sg b_) * ((tv b_ * bv a : Nat) : Int)).natAbs) (bv a * bv b_)) + lm (rdD ((sg a * ((tv a * bv b_ : Nat) : Int) + -(sg b_) * ((tv b_ * bv a : Nat) : Int)).natAbs) (bv a * bv b_)))) : Met l y_Mo_sums (wsB y_Mo_sums b_Mo_sums 6 (some .int)) ({ frames := 5, cells := 0, slots := 0, locals := 125 }) (va_Pc [.ref mo, .int (iZ (to : Int)), .int (iZ (a : Int)), .int (iZ (b_ : Int)), .int (iZ 1)] (wPre D [(cI, .int)] [(mo, .inr (8, [.int qc, .int (iZ (np : Int)), .ref ow, .ref om, .ref ok_, .ref oK, .ref og, .ref on_, .ref oh, .ref ox, .int qn, .int qf, .ref op_, .int ql])), (ow, .inl (cI, 108000, .inl fw)), (om, .inl (cI, 9, .inl fm)), (oh, .inl (cI, 10000, .inl fh)), (ok_, .inl (cI, 166400, .inl fk)), (oK, .inl (cI, 64, .inl fK)), (og, .inl (cI, 32, .inl fs)), (on_, .inl (cI, 32, .inl fn))] sz)) (va_QV (fun (v_9 : Option Value) (u_9 : (Nat → Int32) × (Nat → Int32) × (Nat → Int32) × (Nat → Nat)) => v_9 = some (.int (iZ 0)) ∧ (WB u_9.1 u_9.2.1 u_9.2.2.2)) (fun u_9 => wPost D [(cI, .int)] [(mo, .inr (8, [.int qc, .int (iZ (np : Int)), .ref ow, .ref om, .ref ok_, .ref oK, .ref og, .ref on_, .ref oh, .ref ox, .int qn, .int qf, .ref op_, .int ql])), (ow, .inl (cI, 108000, .inl fw)), (om, .inl (cI, 9, .inl fm)), (oh, .inl (cI, 10000, .inl fh)), (ok_, .inl (cI, 166400, .inl fk)), (oK, .inl (cI, 64, .inl fK)), (og, .inl (cI, 32, .inl fs)), (on_, .inl (cI, 32, .inl fn))] [(mo, .inr (8, [.int (iZ 2), .int (iZ (np : Int)), .ref ow, .ref om, .ref ok_, .ref oK, .ref og, .ref on_, .ref oh, .ref ox, .int qn, .int qf, .ref op_, .int ql])), (ow, .inl (cI, 108000, .inl u_9.1)), (om, .inl (cI, 9, .inl u_9.2.1)), (oh, .inl (cI, 10000, .inl u_9.2.2.1)), (ok_, .inl (cI, 166400, .inl fk)), (oK, .inl (cI, 64, .inl fK)), (og, .inl (cI, 32, .inl fs)), (on_, .inl (cI, 32, .inl fn))] sz) (va_A [(mo, .inr (8, [.int qc, .int (iZ (np : Int)), .ref ow, .ref om, .ref ok_, .ref oK, .ref og, .ref on_, .ref oh, .ref ox, .int qn, .int qf, .ref op_, .int ql])), (ow, .inl (cI, 108000, .inl fw)), (om, .inl (cI, 9, .inl fm)), (oh, .inl (cI, 10000, .inl fh)), (ok_, .inl (cI, 166400, .inl fk)), (oK, .inl (cI, 64, .inl fK)), (og, .inl (cI, 32, .inl fs)), (on_, .inl (cI, 32, .inl fn))] sz)) 0 0 (va_A [(mo, .inr (8, [.int qc, .int (iZ (np : Int)), .ref ow, .ref om, .ref ok_, .ref oK, .ref og, .ref on_, .ref oh, .ref ox, .int qn, .int qf, .ref op_, .int ql])), (ow, .inl (cI, 108000, .inl fw)), (om, .inl (cI, 9, .inl fm)), (oh, .inl (cI, 10000, .inl fh)), (ok_, .inl (cI, 166400, .inl fk)), (oK, .inl (cI, 64, .inl fK)), (og, .inl (cI, 32, .inl fs)), (on_, .inl (cI, 32, .inl fn))] sz) := by
  refine met_enter (by decide +kernel) (Nat.le_of_ble_eq_true rfl) ?_
  intro p e s m args below meth c ls A R Q H locs K hin hAe hA hR hQ hP hK hD hS hl
  obtain ⟨hx, hb, hml, hrt, hlk, hts, hown, hno⟩ := id K
  have hl : lv_has ls 6 [(0, .ref mo), (1, .int (iZ (to : Int))), (2, .int (iZ (a : Int))), (3, .int (iZ (b_ : Int))), (4, .int (iZ 1))] := hl
  have hlr : ∀ q, q < 32 → lm (tv q) + lm (bv q) ≤ 1024 := fun q hq => by have z := ndS_le (tv := tv) (bv := bv) hq; omega
  have hnt : ∀ q, q < 32 → nd (tv q) ≤ 2600 := fun q hq => by have z := nd_lm (v := tv q) (L := 1024) (by have y := hlr q hq; omega); omega
  have hnb : ∀ q, q < 32 → nd (bv q) ≤ 2600 := fun q hq => by have z := nd_lm (v := bv q) (L := 1024) (by have y := hlr q hq; omega); omega
  obtain ⟨ja1, ja2, ja3⟩ := J a (by omega)
  obtain ⟨jb1, jb2, jb3⟩ := J b_ (by omega)
  have pa := hbv a (by omega)
  have pb := hbv b_ (by omega)
  have la := hlr a (by omega)
  have lb := hlr b_ (by omega)
  have n1 := hnt a (by omega)
  have n2 := hnb a (by omega)
  have n3 := hnt b_ (by omega)
  have n4 := hnb b_ (by omega)
  refine lv_aload_n hx hb d_Mo_sums_0 rfl (lv_at hl 0 rfl) ?_
  refine lv_iload_n hx hb d_Mo_sums_1 rfl (lv_at hl 1 rfl) ?_
  refine cs (n := 1) (wr := [(mo, .inr (8, [.int qc, .int (iZ (np : Int)), .ref ow, .ref om, .ref ok_, .ref oK, .ref og, .ref on_, .ref oh, .ref ox, .int qn, .int qf, .ref op_, .int ql])), (ow, .inl (cI, 108000, .inl fw)), (om, .inl (cI, 9, .inl fm)), (oh, .inl (cI, 10000, .inl fh)), (ok_, .inl (cI, 166400, .inl fk)), (oK, .inl (cI, 64, .inl fK)), (og, .inl (cI, 32, .inl fs)), (on_, .inl (cI, 32, .inl fn))]) (w1 := (fun (u : Int) => [])) (As := [.int (iZ (to : Int))]) (rest := [.ref mo]) K hP hD hK hS hA hl.1 (c_Mo_isRegister l D (to : Int) H.size (by omega)) [] [0, 1, 2, 3, 4, 5, 6, 7] [] rfl rfl rfl (by decide) (by decide) (by decide) (big_in mw_1172 rfl) (big_in mw_10 rfl) (big_in mw_1170 rfl) (big_in mw_1171 rfl) rfl rfl (by decide +kernel) ⟨by rw [hR]; exact Nat.le_of_ble_eq_true rfl, by rw [hR]; exact Nat.le_of_ble_eq_true rfl⟩ rfl (Nat.le_of_ble_eq_true rfl) d_Mo_sums_2 ⟨by rw [hR]; exact Nat.le_of_ble_eq_true rfl, by rw [hR]; exact Nat.le_of_ble_eq_true rfl⟩ rfl (fun v u H locs hp1 hP hD hS _ => ?_)
  obtain ⟨r2, rfl⟩ : ∃ z, z = u := ⟨_, rfl⟩
  obtain ⟨rfl, p2⟩ := hp1
  have hP : va_P D cls0 [(mo, .inr (8, [.int qc, .int (iZ (np : Int)), .ref ow, .ref om, .ref ok_, .ref oK, .ref og, .ref on_, .ref oh, .ref ox, .int qn, .int qf, .ref op_, .int ql])), (ow, .inl (cI, 108000, .inl fw)), (om, .inl (cI, 9, .inl fm)), (oh, .inl (cI, 10000, .inl fh)), (ok_, .inl (cI, 166400, .inl fk)), (oK, .inl (cI, 64, .inl fK)), (og, .inl (cI, 32, .inl fs)), (on_, .inl (cI, 32, .inl fn))] H := hP
  have hD : va_D A [(mo, .inr (8, [.int qc, .int (iZ (np : Int)), .ref ow, .ref om, .ref ok_, .ref oK, .ref og, .ref on_, .ref oh, .ref ox, .int qn, .int qf, .ref op_, .int ql])), (ow, .inl (cI, 108000, .inl fw)), (om, .inl (cI, 9, .inl fm)), (oh, .inl (cI, 10000, .inl fh)), (ok_, .inl (cI, 166400, .inl fk)), (oK, .inl (cI, 64, .inl fK)), (og, .inl (cI, 32, .inl fs)), (on_, .inl (cI, 32, .inl fn))] := hD
  show W p l e R s m args below meth c H locs _ _ Q (F0 m 5 ls [.int (iZ r2), .ref mo])
  have b2 : 0 ≤ r2 ∧ r2 ≤ 1 := by omega
  refine zz_if_eq (tgt := 26) hx hb d_Mo_sums_5 (by decide) (by omega) (fun c5 => ?_) (fun c5 => ?_)
  · refine lv_iconst (v := iZ (1)) hx hb d_Mo_sums_26 (by decide +kernel) ?_
    exfalso
    omega
  · refine lv_iload_n hx hb d_Mo_sums_8 rfl (lv_at hl 2 rfl) ?_
    refine cs (n := 1) (wr := [(mo, .inr (8, [.int qc, .int (iZ (np : Int)), .ref ow, .ref om, .ref ok_, .ref oK, .ref og, .ref on_, .ref oh, .ref ox, .int qn, .int qf, .ref op_, .int ql])), (ow, .inl (cI, 108000, .inl fw)), (om, .inl (cI, 9, .inl fm)), (oh, .inl (cI, 10000, .inl fh)), (ok_, .inl (cI, 166400, .inl fk)), (oK, .inl (cI, 64, .inl fK)), (og, .inl (cI, 32, .inl fs)), (on_, .inl (cI, 32, .inl fn))]) (w1 := (fun (u : Int) => [])) (As := [.int (iZ (a : Int))]) (rest := [.ref mo]) K hP hD hK hS hA hl.1 (c_Mo_isRegister l D (a : Int) H.size (by omega)) [] [0, 1, 2, 3, 4, 5, 6, 7] [] rfl rfl rfl (by decide) (by decide) (by decide) (big_in mw_1172 rfl) (big_in mw_10 rfl) (big_in mw_1170 rfl) (big_in mw_1171 rfl) rfl rfl (by decide +kernel) ⟨by rw [hR]; exact Nat.le_of_ble_eq_true rfl, by rw [hR]; exact Nat.le_of_ble_eq_true rfl⟩ rfl (Nat.le_of_ble_eq_true rfl) d_Mo_sums_9 ⟨by rw [hR]; exact Nat.le_of_ble_eq_true rfl, by rw [hR]; exact Nat.le_of_ble_eq_true rfl⟩ rfl (fun v u H locs hp2 hP hD hS _ => ?_)
    obtain ⟨r9, rfl⟩ : ∃ z, z = u := ⟨_, rfl⟩
    obtain ⟨rfl, p9⟩ := hp2
    have hP : va_P D cls0 [(mo, .inr (8, [.int qc, .int (iZ (np : Int)), .ref ow, .ref om, .ref ok_, .ref oK, .ref og, .ref on_, .ref oh, .ref ox, .int qn, .int qf, .ref op_, .int ql])), (ow, .inl (cI, 108000, .inl fw)), (om, .inl (cI, 9, .inl fm)), (oh, .inl (cI, 10000, .inl fh)), (ok_, .inl (cI, 166400, .inl fk)), (oK, .inl (cI, 64, .inl fK)), (og, .inl (cI, 32, .inl fs)), (on_, .inl (cI, 32, .inl fn))] H := hP
    have hD : va_D A [(mo, .inr (8, [.int qc, .int (iZ (np : Int)), .ref ow, .ref om, .ref ok_, .ref oK, .ref og, .ref on_, .ref oh, .ref ox, .int qn, .int qf, .ref op_, .int ql])), (ow, .inl (cI, 108000, .inl fw)), (om, .inl (cI, 9, .inl fm)), (oh, .inl (cI, 10000, .inl fh)), (ok_, .inl (cI, 166400, .inl fk)), (oK, .inl (cI, 64, .inl fK)), (og, .inl (cI, 32, .inl fs)), (on_, .inl (cI, 32, .inl fn))] := hD
    show W p l e R s m args below meth c H locs _ _ Q (F0 m 12 ls [.int (iZ r9), .ref mo])
    have b9 : 0 ≤ r9 ∧ r9 ≤ 1 := by omega
    refine zz_if_eq (tgt := 26) hx hb d_Mo_sums_12 (by decide) (by omega) (fun c12 => ?_) (fun c12 => ?_)
    · refine lv_iconst (v := iZ (1)) hx hb d_Mo_sums_26 (by decide +kernel) ?_
      exfalso
      omega
    · refine lv_iload_n hx hb d_Mo_sums_15 rfl (lv_at hl 3 rfl) ?_
      refine cs (n := 1) (wr := [(mo, .inr (8, [.int qc, .int (iZ (np : Int)), .ref ow, .ref om, .ref ok_, .ref oK, .ref og, .ref on_, .ref oh, .ref ox, .int qn, .int qf, .ref op_, .int ql])), (ow, .inl (cI, 108000, .inl fw)), (om, .inl (cI, 9, .inl fm)), (oh, .inl (cI, 10000, .inl fh)), (ok_, .inl (cI, 166400, .inl fk)), (oK, .inl (cI, 64, .inl fK)), (og, .inl (cI, 32, .inl fs)), (on_, .inl (cI, 32, .inl fn))]) (w1 := (fun (u : Int) => [])) (As := [.int (iZ (b_ : Int))]) (rest := [.ref mo]) K hP hD hK hS hA hl.1 (c_Mo_isRegister l D (b_ : Int) H.size (by omega)) [] [0, 1, 2, 3, 4, 5, 6, 7] [] rfl rfl rfl (by decide) (by decide) (by decide) (big_in mw_1172 rfl) (big_in mw_10 rfl) (big_in mw_1170 rfl) (big_in mw_1171 rfl) rfl rfl (by decide +kernel) ⟨by rw [hR]; exact Nat.le_of_ble_eq_true rfl, by rw [hR]; exact Nat.le_of_ble_eq_true rfl⟩ rfl (Nat.le_of_ble_eq_true rfl) d_Mo_sums_16 ⟨by rw [hR]; exact Nat.le_of_ble_eq_true rfl, by rw [hR]; exact Nat.le_of_ble_eq_true rfl⟩ rfl (fun v u H locs hp3 hP hD hS _ => ?_)
      obtain ⟨r16, rfl⟩ : ∃ z, z = u := ⟨_, rfl⟩
      obtain ⟨rfl, p16⟩ := hp3
      have hP : va_P D cls0 [(mo, .inr (8, [.int qc, .int (iZ (np : Int)), .ref ow, .ref om, .ref ok_, .ref oK, .ref og, .ref on_, .ref oh, .ref ox, .int qn, .int qf, .ref op_, .int ql])), (ow, .inl (cI, 108000, .inl fw)), (om, .inl (cI, 9, .inl fm)), (oh, .inl (cI, 10000, .inl fh)), (ok_, .inl (cI, 166400, .inl fk)), (oK, .inl (cI, 64, .inl fK)), (og, .inl (cI, 32, .inl fs)), (on_, .inl (cI, 32, .inl fn))] H := hP
      have hD : va_D A [(mo, .inr (8, [.int qc, .int (iZ (np : Int)), .ref ow, .ref om, .ref ok_, .ref oK, .ref og, .ref on_, .ref oh, .ref ox, .int qn, .int qf, .ref op_, .int ql])), (ow, .inl (cI, 108000, .inl fw)), (om, .inl (cI, 9, .inl fm)), (oh, .inl (cI, 10000, .inl fh)), (ok_, .inl (cI, 166400, .inl fk)), (oK, .inl (cI, 64, .inl fK)), (og, .inl (cI, 32, .inl fs)), (on_, .inl (cI, 32, .inl fn))] := hD
      show W p l e R s m args below meth c H locs _ _ Q (F0 m 19 ls [.int (iZ r16), .ref mo])
      have b16 : 0 ≤ r16 ∧ r16 ≤ 1 := by omega
      refine zz_if_eq (tgt := 26) hx hb d_Mo_sums_19 (by decide) (by omega) (fun c19 => ?_) (fun c19 => ?_)
      · refine lv_iconst (v := iZ (1)) hx hb d_Mo_sums_26 (by decide +kernel) ?_
        exfalso
        omega
      · refine lv_iconst (v := iZ (0)) hx hb d_Mo_sums_22 (by decide +kernel) ?_
        refine lv_goto (tgt := 27) hx hb d_Mo_sums_23 (by decide) ?_
        refine cv (n := 1) (wr := [(ow, .inl (cI, 108000, .inl fw)), (om, .inl (cI, 9, .inl fm)), (oh, .inl (cI, 10000, .inl fh)), (ok_, .inl (cI, 166400, .inl fk)), (oK, .inl (cI, 64, .inl fK)), (og, .inl (cI, 32, .inl fs)), (on_, .inl (cI, 32, .inl fn))]) (w1 := (fun (u : Int) => [(mo, .inr (8, [.int (iZ 0), .int (iZ (np : Int)), .ref ow, .ref om, .ref ok_, .ref oK, .ref og, .ref on_, .ref oh, .ref ox, .int qn, .int qf, .ref op_, .int ql]))])) (As := [.int (iZ 0)]) (rest := []) K hP hD hK hS hA hl.1 (c_Mo_refuses l D mo qc np ow om ok_ oK og on_ oh ox qn qf op_ ql 0 H.size (by omega)) [0] [1, 2, 3, 4, 5, 6, 7] [] rfl rfl rfl (by decide) (by decide) (by decide) 0 rfl rfl (big_in mw_1176 rfl) (big_in mw_10 rfl) (big_in mw_1173 rfl) (big_in mw_1175 rfl) (big_in sp_18 rfl) rfl rfl (by decide +kernel) ⟨by rw [hR]; exact Nat.le_of_ble_eq_true rfl, by rw [hR]; exact Nat.le_of_ble_eq_true rfl⟩ rfl (Nat.le_of_ble_eq_true rfl) d_Mo_sums_27 ⟨by rw [hR]; exact Nat.le_of_ble_eq_true rfl, by rw [hR]; exact Nat.le_of_ble_eq_true rfl⟩ rfl (fun v u H locs hp4 hP hD hS _ => ?_)
        obtain ⟨rf, rfl⟩ : ∃ z, z = u := ⟨_, rfl⟩
        obtain ⟨rfl, prf⟩ := hp4
        have hP : va_P D cls0 [(ow, .inl (cI, 108000, .inl fw)), (om, .inl (cI, 9, .inl fm)), (oh, .inl (cI, 10000, .inl fh)), (ok_, .inl (cI, 166400, .inl fk)), (oK, .inl (cI, 64, .inl fK)), (og, .inl (cI, 32, .inl fs)), (on_, .inl (cI, 32, .inl fn)), (mo, .inr (8, [.int (iZ 0), .int (iZ (np : Int)), .ref ow, .ref om, .ref ok_, .ref oK, .ref og, .ref on_, .ref oh, .ref ox, .int qn, .int qf, .ref op_, .int ql]))] H := hP
        have hD : va_D A [(ow, .inl (cI, 108000, .inl fw)), (om, .inl (cI, 9, .inl fm)), (oh, .inl (cI, 10000, .inl fh)), (ok_, .inl (cI, 166400, .inl fk)), (oK, .inl (cI, 64, .inl fK)), (og, .inl (cI, 32, .inl fs)), (on_, .inl (cI, 32, .inl fn)), (mo, .inr (8, [.int (iZ 0), .int (iZ (np : Int)), .ref ow, .ref om, .ref ok_, .ref oK, .ref og, .ref on_, .ref oh, .ref ox, .int qn, .int qf, .ref op_, .int ql]))] := hD
        show W p l e R s m args below meth c H locs _ _ Q (F0 m 30 ls [.int (iZ rf)])
        refine zz_if_eq (tgt := 35) hx hb d_Mo_sums_30 (by decide) (by omega) (fun c30 => ?_) (fun c30 => False.elim (by omega))
        refine lv_aload_n hx hb d_Mo_sums_35 rfl (lv_at hl 0 rfl) ?_
        refine lv_iconst (v := iZ (0)) hx hb d_Mo_sums_36 (by decide +kernel) ?_
        refine lv_iconst (v := iZ (2)) hx hb d_Mo_sums_37 (by decide +kernel) ?_
        refine lv_iload_n hx hb d_Mo_sums_38 rfl (lv_at hl 2 rfl) ?_
        refine zz_imul hx hb d_Mo_sums_39 ?_
        rw [show (2 * (a : Int) : Int) = ((2 * a : Nat) : Int) by omega]
        refine cv (n := 2) (wr := [(oh, .inl (cI, 10000, .inl fh)), (og, .inl (cI, 32, .inl fs)), (on_, .inl (cI, 32, .inl fn))]) (w1 := (fun (u : (Nat → Int32) × (Nat → Int32)) => [(mo, .inr (8, [.int (iZ 0), .int (iZ (np : Int)), .ref ow, .ref om, .ref ok_, .ref oK, .ref og, .ref on_, .ref oh, .ref ox, .int qn, .int qf, .ref op_, .int ql])), (ow, .inl (cI, 108000, .inl u.1)), (om, .inl (cI, 9, .inl u.2)), (ok_, .inl (cI, 166400, .inl fk)), (oK, .inl (cI, 64, .inl fK))])) (As := [.int (iZ 0), .int (iZ ((2 * a : Nat) : Int))]) (rest := []) K hP hD hK hS hA hl.1 (c_Mo_load l D mo (iZ 0) np ow om ok_ oK og on_ oh ox qn qf op_ ql fw fm cI fk fK val (kvf tv bv) 0 (2 * a) H.size hW hMR.1 (by decide) (by omega)) [7, 0, 1, 3, 4] [2, 5, 6] [0] rfl rfl rfl (by decide) (by decide) (by decide) 0 rfl rfl (big_in mw_1238 rfl) (big_in mw_10 rfl) (big_in mw_1235 rfl) (big_in mw_1237 rfl) (big_in sp_31 rfl) rfl rfl (by decide +kernel) ⟨by rw [hR]; exact Nat.le_of_ble_eq_true rfl, by rw [hR]; exact Nat.le_of_ble_eq_true rfl⟩ rfl (Nat.le_of_ble_eq_true rfl) d_Mo_sums_40 ⟨by rw [hR]; exact Nat.le_of_ble_eq_true rfl, by rw [hR]; exact Nat.le_of_ble_eq_true rfl⟩ rfl (fun v u H locs hp5 hP hD hS _ => ?_)
        obtain ⟨fx1, fy1⟩ := u
        try dsimp only at hp5
        obtain ⟨rfl, w1⟩ := hp5
        have hP : va_P D cls0 [(oh, .inl (cI, 10000, .inl fh)), (og, .inl (cI, 32, .inl fs)), (on_, .inl (cI, 32, .inl fn)), (mo, .inr (8, [.int (iZ 0), .int (iZ (np : Int)), .ref ow, .ref om, .ref ok_, .ref oK, .ref og, .ref on_, .ref oh, .ref ox, .int qn, .int qf, .ref op_, .int ql])), (ow, .inl (cI, 108000, .inl fx1)), (om, .inl (cI, 9, .inl fy1)), (ok_, .inl (cI, 166400, .inl fk)), (oK, .inl (cI, 64, .inl fK))] H := hP
        have hD : va_D A [(oh, .inl (cI, 10000, .inl fh)), (og, .inl (cI, 32, .inl fs)), (on_, .inl (cI, 32, .inl fn)), (mo, .inr (8, [.int (iZ 0), .int (iZ (np : Int)), .ref ow, .ref om, .ref ok_, .ref oK, .ref og, .ref on_, .ref oh, .ref ox, .int qn, .int qf, .ref op_, .int ql])), (ow, .inl (cI, 108000, .inl fx1)), (om, .inl (cI, 9, .inl fy1)), (ok_, .inl (cI, 166400, .inl fk)), (oK, .inl (cI, 64, .inl fK))] := hD
        show W p l e R s m args below meth c H locs _ _ Q (F0 m 43 ls [])
        rw [kvf_0] at w1
        obtain ⟨v1, hv1⟩ : ∃ z, z = up val 0 (tv a) := ⟨_, rfl⟩
        rw [← hv1] at w1
        refine lv_aload_n hx hb d_Mo_sums_43 rfl (lv_at hl 0 rfl) ?_
        refine lv_iconst (v := iZ (1)) hx hb d_Mo_sums_44 (by decide +kernel) ?_
        refine lv_iconst (v := iZ (2)) hx hb d_Mo_sums_45 (by decide +kernel) ?_
        refine lv_iload_n hx hb d_Mo_sums_46 rfl (lv_at hl 2 rfl) ?_
        refine zz_imul hx hb d_Mo_sums_47 ?_
        refine lv_iconst (v := iZ (1)) hx hb d_Mo_sums_48 (by decide +kernel) ?_
        refine zz_iadd hx hb d_Mo_sums_49 ?_
        rw [show (2 * (a : Int) + 1 : Int) = ((2 * a + 1 : Nat) : Int) by omega]
        refine cv (n := 2) (wr := [(oh, .inl (cI, 10000, .inl fh)), (og, .inl (cI, 32, .inl fs)), (on_, .inl (cI, 32, .inl fn))]) (w1 := (fun (u : (Nat → Int32) × (Nat → Int32)) => [(mo, .inr (8, [.int (iZ 0), .int (iZ (np : Int)), .ref ow, .ref om, .ref ok_, .ref oK, .ref og, .ref on_, .ref oh, .ref ox, .int qn, .int qf, .ref op_, .int ql])), (ow, .inl (cI, 108000, .inl u.1)), (om, .inl (cI, 9, .inl u.2)), (ok_, .inl (cI, 166400, .inl fk)), (oK, .inl (cI, 64, .inl fK))])) (As := [.int (iZ 1), .int (iZ ((2 * a + 1 : Nat) : Int))]) (rest := []) K hP hD hK hS hA hl.1 (c_Mo_load l D mo (iZ 0) np ow om ok_ oK og on_ oh ox qn qf op_ ql fx1 fy1 cI fk fK v1 (kvf tv bv) 1 (2 * a + 1) H.size w1 hMR.1 (by decide) (by omega)) [3, 4, 5, 6, 7] [0, 1, 2] [0] rfl rfl rfl (by decide) (by decide) (by decide) 0 rfl rfl (big_in mw_1238 rfl) (big_in mw_10 rfl) (big_in mw_1235 rfl) (big_in mw_1237 rfl) (big_in sp_31 rfl) rfl rfl (by decide +kernel) ⟨by rw [hR]; exact Nat.le_of_ble_eq_true rfl, by rw [hR]; exact Nat.le_of_ble_eq_true rfl⟩ rfl (Nat.le_of_ble_eq_true rfl) d_Mo_sums_50 ⟨by rw [hR]; exact Nat.le_of_ble_eq_true rfl, by rw [hR]; exact Nat.le_of_ble_eq_true rfl⟩ rfl (fun v u H locs hp6 hP hD hS _ => ?_)
        obtain ⟨fx2, fy2⟩ := u
        try dsimp only at hp6
        obtain ⟨rfl, w2⟩ := hp6
        have hP : va_P D cls0 [(oh, .inl (cI, 10000, .inl fh)), (og, .inl (cI, 32, .inl fs)), (on_, .inl (cI, 32, .inl fn)), (mo, .inr (8, [.int (iZ 0), .int (iZ (np : Int)), .ref ow, .ref om, .ref ok_, .ref oK, .ref og, .ref on_, .ref oh, .ref ox, .int qn, .int qf, .ref op_, .int ql])), (ow, .inl (cI, 108000, .inl fx2)), (om, .inl (cI, 9, .inl fy2)), (ok_, .inl (cI, 166400, .inl fk)), (oK, .inl (cI, 64, .inl fK))] H := hP
        have hD : va_D A [(oh, .inl (cI, 10000, .inl fh)), (og, .inl (cI, 32, .inl fs)), (on_, .inl (cI, 32, .inl fn)), (mo, .inr (8, [.int (iZ 0), .int (iZ (np : Int)), .ref ow, .ref om, .ref ok_, .ref oK, .ref og, .ref on_, .ref oh, .ref ox, .int qn, .int qf, .ref op_, .int ql])), (ow, .inl (cI, 108000, .inl fx2)), (om, .inl (cI, 9, .inl fy2)), (ok_, .inl (cI, 166400, .inl fk)), (oK, .inl (cI, 64, .inl fK))] := hD
        show W p l e R s m args below meth c H locs _ _ Q (F0 m 53 ls [])
        rw [kvf_1] at w2
        obtain ⟨v2, hv2⟩ : ∃ z, z = up v1 1 (bv a) := ⟨_, rfl⟩
        rw [← hv2] at w2
        refine lv_aload_n hx hb d_Mo_sums_53 rfl (lv_at hl 0 rfl) ?_
        refine lv_iconst (v := iZ (2)) hx hb d_Mo_sums_54 (by decide +kernel) ?_
        refine lv_iconst (v := iZ (2)) hx hb d_Mo_sums_55 (by decide +kernel) ?_
        refine lv_iload_n hx hb d_Mo_sums_56 rfl (lv_at hl 3 rfl) ?_
        refine zz_imul hx hb d_Mo_sums_57 ?_
        rw [show (2 * (b_ : Int) : Int) = ((2 * b_ : Nat) : Int) by omega]
        refine cv (n := 2) (wr := [(oh, .inl (cI, 10000, .inl fh)), (og, .inl (cI, 32, .inl fs)), (on_, .inl (cI, 32, .inl fn))]) (w1 := (fun (u : (Nat → Int32) × (Nat → Int32)) => [(mo, .inr (8, [.int (iZ 0), .int (iZ (np : Int)), .ref ow, .ref om, .ref ok_, .ref oK, .ref og, .ref on_, .ref oh, .ref ox, .int qn, .int qf, .ref op_, .int ql])), (ow, .inl (cI, 108000, .inl u.1)), (om, .inl (cI, 9, .inl u.2)), (ok_, .inl (cI, 166400, .inl fk)), (oK, .inl (cI, 64, .inl fK))])) (As := [.int (iZ 2), .int (iZ ((2 * b_ : Nat) : Int))]) (rest := []) K hP hD hK hS hA hl.1 (c_Mo_load l D mo (iZ 0) np ow om ok_ oK og on_ oh ox qn qf op_ ql fx2 fy2 cI fk fK v2 (kvf tv bv) 2 (2 * b_) H.size w2 hMR.1 (by decide) (by omega)) [3, 4, 5, 6, 7] [0, 1, 2] [0] rfl rfl rfl (by decide) (by decide) (by decide) 0 rfl rfl (big_in mw_1238 rfl) (big_in mw_10 rfl) (big_in mw_1235 rfl) (big_in mw_1237 rfl) (big_in sp_31 rfl) rfl rfl (by decide +kernel) ⟨by rw [hR]; exact Nat.le_of_ble_eq_true rfl, by rw [hR]; exact Nat.le_of_ble_eq_true rfl⟩ rfl (Nat.le_of_ble_eq_true rfl) d_Mo_sums_58 ⟨by rw [hR]; exact Nat.le_of_ble_eq_true rfl, by rw [hR]; exact Nat.le_of_ble_eq_true rfl⟩ rfl (fun v u H locs hp7 hP hD hS _ => ?_)
        obtain ⟨fx3, fy3⟩ := u
        try dsimp only at hp7
        obtain ⟨rfl, w3⟩ := hp7
        have hP : va_P D cls0 [(oh, .inl (cI, 10000, .inl fh)), (og, .inl (cI, 32, .inl fs)), (on_, .inl (cI, 32, .inl fn)), (mo, .inr (8, [.int (iZ 0), .int (iZ (np : Int)), .ref ow, .ref om, .ref ok_, .ref oK, .ref og, .ref on_, .ref oh, .ref ox, .int qn, .int qf, .ref op_, .int ql])), (ow, .inl (cI, 108000, .inl fx3)), (om, .inl (cI, 9, .inl fy3)), (ok_, .inl (cI, 166400, .inl fk)), (oK, .inl (cI, 64, .inl fK))] H := hP
        have hD : va_D A [(oh, .inl (cI, 10000, .inl fh)), (og, .inl (cI, 32, .inl fs)), (on_, .inl (cI, 32, .inl fn)), (mo, .inr (8, [.int (iZ 0), .int (iZ (np : Int)), .ref ow, .ref om, .ref ok_, .ref oK, .ref og, .ref on_, .ref oh, .ref ox, .int qn, .int qf, .ref op_, .int ql])), (ow, .inl (cI, 108000, .inl fx3)), (om, .inl (cI, 9, .inl fy3)), (ok_, .inl (cI, 166400, .inl fk)), (oK, .inl (cI, 64, .inl fK))] := hD
        show W p l e R s m args below meth c H locs _ _ Q (F0 m 61 ls [])
        rw [kvf_0] at w3
        obtain ⟨v3, hv3⟩ : ∃ z, z = up v2 2 (tv b_) := ⟨_, rfl⟩
        rw [← hv3] at w3
        refine lv_aload_n hx hb d_Mo_sums_61 rfl (lv_at hl 0 rfl) ?_
        refine lv_iconst (v := iZ (3)) hx hb d_Mo_sums_62 (by decide +kernel) ?_
        refine lv_iconst (v := iZ (2)) hx hb d_Mo_sums_63 (by decide +kernel) ?_
        refine lv_iload_n hx hb d_Mo_sums_64 rfl (lv_at hl 3 rfl) ?_
        refine zz_imul hx hb d_Mo_sums_65 ?_
        refine lv_iconst (v := iZ (1)) hx hb d_Mo_sums_66 (by decide +kernel) ?_
        refine zz_iadd hx hb d_Mo_sums_67 ?_
        rw [show (2 * (b_ : Int) + 1 : Int) = ((2 * b_ + 1 : Nat) : Int) by omega]
        refine cv (n := 2) (wr := [(oh, .inl (cI, 10000, .inl fh)), (og, .inl (cI, 32, .inl fs)), (on_, .inl (cI, 32, .inl fn))]) (w1 := (fun (u : (Nat → Int32) × (Nat → Int32)) => [(mo, .inr (8, [.int (iZ 0), .int (iZ (np : Int)), .ref ow, .ref om, .ref ok_, .ref oK, .ref og, .ref on_, .ref oh, .ref ox, .int qn, .int qf, .ref op_, .int ql])), (ow, .inl (cI, 108000, .inl u.1)), (om, .inl (cI, 9, .inl u.2)), (ok_, .inl (cI, 166400, .inl fk)), (oK, .inl (cI, 64, .inl fK))])) (As := [.int (iZ 3), .int (iZ ((2 * b_ + 1 : Nat) : Int))]) (rest := []) K hP hD hK hS hA hl.1 (c_Mo_load l D mo (iZ 0) np ow om ok_ oK og on_ oh ox qn qf op_ ql fx3 fy3 cI fk fK v3 (kvf tv bv) 3 (2 * b_ + 1) H.size w3 hMR.1 (by decide) (by omega)) [3, 4, 5, 6, 7] [0, 1, 2] [0] rfl rfl rfl (by decide) (by decide) (by decide) 0 rfl rfl (big_in mw_1238 rfl) (big_in mw_10 rfl) (big_in mw_1235 rfl) (big_in mw_1237 rfl) (big_in sp_31 rfl) rfl rfl (by decide +kernel) ⟨by rw [hR]; exact Nat.le_of_ble_eq_true rfl, by rw [hR]; exact Nat.le_of_ble_eq_true rfl⟩ rfl (Nat.le_of_ble_eq_true rfl) d_Mo_sums_68 ⟨by rw [hR]; exact Nat.le_of_ble_eq_true rfl, by rw [hR]; exact Nat.le_of_ble_eq_true rfl⟩ rfl (fun v u H locs hp8 hP hD hS _ => ?_)
        obtain ⟨fx4, fy4⟩ := u
        try dsimp only at hp8
        obtain ⟨rfl, w4⟩ := hp8
        have hP : va_P D cls0 [(oh, .inl (cI, 10000, .inl fh)), (og, .inl (cI, 32, .inl fs)), (on_, .inl (cI, 32, .inl fn)), (mo, .inr (8, [.int (iZ 0), .int (iZ (np : Int)), .ref ow, .ref om, .ref ok_, .ref oK, .ref og, .ref on_, .ref oh, .ref ox, .int qn, .int qf, .ref op_, .int ql])), (ow, .inl (cI, 108000, .inl fx4)), (om, .inl (cI, 9, .inl fy4)), (ok_, .inl (cI, 166400, .inl fk)), (oK, .inl (cI, 64, .inl fK))] H := hP
        have hD : va_D A [(oh, .inl (cI, 10000, .inl fh)), (og, .inl (cI, 32, .inl fs)), (on_, .inl (cI, 32, .inl fn)), (mo, .inr (8, [.int (iZ 0), .int (iZ (np : Int)), .ref ow, .ref om, .ref ok_, .ref oK, .ref og, .ref on_, .ref oh, .ref ox, .int qn, .int qf, .ref op_, .int ql])), (ow, .inl (cI, 108000, .inl fx4)), (om, .inl (cI, 9, .inl fy4)), (ok_, .inl (cI, 166400, .inl fk)), (oK, .inl (cI, 64, .inl fK))] := hD
        show W p l e R s m args below meth c H locs _ _ Q (F0 m 71 ls [])
        rw [kvf_1] at w4
        obtain ⟨v4, hv4⟩ : ∃ z, z = up v3 3 (bv b_) := ⟨_, rfl⟩
        rw [← hv4] at w4
        have y0 : v4 0 = tv a := by simp [hv4, hv3, hv2, hv1, up]
        have y1 : v4 1 = bv a := by simp [hv4, hv3, hv2, hv1, up]
        have y2 : v4 2 = tv b_ := by simp [hv4, hv3, hv2, hv1, up]
        have y3 : v4 3 = bv b_ := by simp [hv4, hv3, hv2, hv1, up]
        refine lv_aload_n hx hb d_Mo_sums_71 rfl (lv_at hl 0 rfl) ?_
        refine lv_aload_n hx hb d_Mo_sums_72 rfl (lv_at hl 0 rfl) ?_
        refine va_get (D := D) (ci := 8) (v := .ref og) (C := R_Mo) (T := F_Mo) (N := 14) hx hb hts i_Mo hown hK hP 3 rfl rfl 6 (by decide) (hts _ (big_in mw_1121 rfl)) (fun _ h9 => h9) rfl d_Mo_sums_73 ?_
        refine lv_iload_n hx hb d_Mo_sums_76 rfl (lv_at hl 2 rfl) ?_
        refine zz_iald hx hb hK hP 1 0 rfl rfl (a) (by omega) (by omega) (by omega) d_Mo_sums_77 ?_
        rw [hMR.2.1 a (by omega)]
        refine lv_iload hx hb d_Mo_sums_78 (lv_at hl 4 rfl) ?_
        refine zz_if_eq (tgt := 93) hx hb d_Mo_sums_80 (by decide) (by omega) (fun c80 => False.elim (by omega)) (fun c80 => ?_)
        refine lv_aload_n hx hb d_Mo_sums_83 rfl (lv_at hl 0 rfl) ?_
        refine va_get (D := D) (ci := 8) (v := .ref og) (C := R_Mo) (T := F_Mo) (N := 14) hx hb hts i_Mo hown hK hP 3 rfl rfl 6 (by decide) (hts _ (big_in mw_1121 rfl)) (fun _ h9 => h9) rfl d_Mo_sums_84 ?_
        refine lv_iload_n hx hb d_Mo_sums_87 rfl (lv_at hl 3 rfl) ?_
        refine zz_iald hx hb hK hP 1 0 rfl rfl (b_) (by omega) (by omega) (by omega) d_Mo_sums_88 ?_
        rw [hMR.2.1 b_ (by omega)]
        refine zz_ineg hx hb d_Mo_sums_89 ?_
        refine lv_goto (tgt := 99) hx hb d_Mo_sums_90 (by decide) ?_
        refine cv (n := 2) (wr := [(oh, .inl (cI, 10000, .inl fh)), (og, .inl (cI, 32, .inl fs)), (on_, .inl (cI, 32, .inl fn)), (ok_, .inl (cI, 166400, .inl fk)), (oK, .inl (cI, 64, .inl fK))]) (w1 := (fun (u : Int × (Nat → Int32) × (Nat → Int32) × (Nat → Nat)) => [(mo, .inr (8, [.int (iZ 0), .int (iZ (np : Int)), .ref ow, .ref om, .ref ok_, .ref oK, .ref og, .ref on_, .ref oh, .ref ox, .int qn, .int qf, .ref op_, .int ql])), (ow, .inl (cI, 108000, .inl u.2.1)), (om, .inl (cI, 9, .inl u.2.2.1))])) (As := [.int (iZ (sg a)), .int (iZ (-(sg b_)))]) (rest := []) K hP hD hK hS hA hl.1 (c_Mo_sum l D mo (iZ 0) np ow om ok_ oK og on_ oh ox qn qf op_ ql fx4 fy4 cI v4 (sg a) (-(sg b_)) H.size w4 ja3 (by omega) (by rw [y0]; exact ja2) (by rw [y2]; rw [← jb2]; omega) (by rw [y1]; exact pa) (by rw [y3]; exact pb) (by rw [y0, y3]; omega) (by rw [y2, y1]; omega) (by rw [y1, y3]; omega)) [3, 4, 5] [0, 1, 2, 6, 7] [0] rfl rfl rfl (by decide) (by decide) (by decide) 0 rfl rfl (big_in mw_1254 rfl) (big_in mw_10 rfl) (big_in mw_1251 rfl) (big_in mw_1253 rfl) (big_in sp_33 rfl) rfl rfl (by decide +kernel) ⟨by rw [hR]; exact Nat.le_of_ble_eq_true rfl, by rw [hR]; exact Nat.le_of_ble_eq_true rfl⟩ rfl (Nat.le_of_ble_eq_true rfl) d_Mo_sums_99 ⟨by rw [hR]; exact Nat.le_of_ble_eq_true rfl, by rw [hR]; exact Nat.le_of_ble_eq_true rfl⟩ rfl (fun v u H locs hp9 hP hD hS _ => ?_)
        obtain ⟨rs, fx5, fy5, v5⟩ := u
        try dsimp only at hp9
        obtain ⟨rfl, ers, w5, x0, x1⟩ := hp9
        have hP : va_P D cls0 [(oh, .inl (cI, 10000, .inl fh)), (og, .inl (cI, 32, .inl fs)), (on_, .inl (cI, 32, .inl fn)), (ok_, .inl (cI, 166400, .inl fk)), (oK, .inl (cI, 64, .inl fK)), (mo, .inr (8, [.int (iZ 0), .int (iZ (np : Int)), .ref ow, .ref om, .ref ok_, .ref oK, .ref og, .ref on_, .ref oh, .ref ox, .int qn, .int qf, .ref op_, .int ql])), (ow, .inl (cI, 108000, .inl fx5)), (om, .inl (cI, 9, .inl fy5))] H := hP
        have hD : va_D A [(oh, .inl (cI, 10000, .inl fh)), (og, .inl (cI, 32, .inl fs)), (on_, .inl (cI, 32, .inl fn)), (ok_, .inl (cI, 166400, .inl fk)), (oK, .inl (cI, 64, .inl fK)), (mo, .inr (8, [.int (iZ 0), .int (iZ (np : Int)), .ref ow, .ref om, .ref ok_, .ref oK, .ref og, .ref on_, .ref oh, .ref ox, .int qn, .int qf, .ref op_, .int ql])), (ow, .inl (cI, 108000, .inl fx5)), (om, .inl (cI, 9, .inl fy5))] := hD
        show W p l e R s m args below meth c H locs _ _ Q (F0 m 102 ls [.int (iZ rs)])
        rw [y0, y1, y2, y3] at ers x0
        rw [y1, y3] at x1
        have l5 : lm (sg a * ((tv a * bv b_ : Nat) : Int) + -(sg b_) * ((tv b_ * bv a : Nat) : Int)).natAbs ≤ _ := sum_lm ja3 (show -1 ≤ -(sg b_) ∧ -(sg b_) ≤ 1 by omega)
        have l6 := lm_mul (bv a) (bv b_)
        have srs : -1 ≤ rs ∧ rs ≤ 1 := by rw [ers]; exact sgn_b _
        refine lv_istore (lv' := [(5, .int (iZ rs)), (0, .ref mo), (1, .int (iZ (to : Int))), (2, .int (iZ (a : Int))), (3, .int (iZ (b_ : Int))), (4, .int (iZ 1))]) hx hb d_Mo_sums_102 hl (by decide) rfl (fun ls hl => ?_)
        refine lv_aload_n hx hb d_Mo_sums_104 rfl (lv_at hl 1 rfl) ?_
        refine lv_iload_n hx hb d_Mo_sums_105 rfl (lv_at hl 2 rfl) ?_
        refine lv_iload hx hb d_Mo_sums_106 (lv_at hl 0 rfl) ?_
        refine lv_iconst (v := iZ (2)) hx hb d_Mo_sums_108 (by decide +kernel) ?_
        refine cv (n := 3) (wr := []) (w1 := (fun (u : (Nat → Int32) × (Nat → Int32) × (Nat → Int32) × (Nat → Nat)) => [(mo, .inr (8, [.int (iZ 2), .int (iZ (np : Int)), .ref ow, .ref om, .ref ok_, .ref oK, .ref og, .ref on_, .ref oh, .ref ox, .int qn, .int qf, .ref op_, .int ql])), (ow, .inl (cI, 108000, .inl u.1)), (om, .inl (cI, 9, .inl u.2.1)), (oh, .inl (cI, 10000, .inl u.2.2.1)), (ok_, .inl (cI, 166400, .inl fk)), (oK, .inl (cI, 64, .inl fK)), (og, .inl (cI, 32, .inl fs)), (on_, .inl (cI, 32, .inl fn))])) (As := [.int (iZ (to : Int)), .int (iZ rs), .int (iZ 2)]) (rest := []) K hP hD hK hS hA hl.1 (c_Mo_putX l D mo (iZ 0) np ow om ok_ oK og on_ oh ox qn qf op_ ql fx5 fy5 cI fh fk fK fs fn v5 tv bv sg to rs 2 H.size w5 hMR (by omega) hnd hnp (by omega) (by decide) (by rw [x1]; exact Nat.mul_pos pa pb) (by rw [x0]; omega) (by rw [x1]; omega) (by rw [x0, x1]; exact hfit)) [5, 6, 7, 0, 3, 4, 1, 2] [] [0] rfl rfl rfl (by decide) (by decide) (by decide) 0 rfl rfl (big_in mw_1185 rfl) (big_in mw_10 rfl) (big_in mw_1182 rfl) (big_in mw_1184 rfl) (big_in sp_20 rfl) rfl rfl (by decide +kernel) ⟨by rw [hR]; exact Nat.le_of_ble_eq_true rfl, by rw [hR]; exact Nat.le_of_ble_eq_true rfl⟩ rfl (Nat.le_of_ble_eq_true rfl) d_Mo_sums_109 ⟨by rw [hR]; exact Nat.le_of_ble_eq_true rfl, by rw [hR]; exact Nat.le_of_ble_eq_true rfl⟩ rfl (fun v u H locs hp10 hP hD hS _ => ?_)
        obtain ⟨fa, fb, fc, v9⟩ := u
        try dsimp only at hp10
        obtain ⟨rfl, w9⟩ := hp10
        have hP : va_P D cls0 [(mo, .inr (8, [.int (iZ 2), .int (iZ (np : Int)), .ref ow, .ref om, .ref ok_, .ref oK, .ref og, .ref on_, .ref oh, .ref ox, .int qn, .int qf, .ref op_, .int ql])), (ow, .inl (cI, 108000, .inl fa)), (om, .inl (cI, 9, .inl fb)), (oh, .inl (cI, 10000, .inl fc)), (ok_, .inl (cI, 166400, .inl fk)), (oK, .inl (cI, 64, .inl fK)), (og, .inl (cI, 32, .inl fs)), (on_, .inl (cI, 32, .inl fn))] H := hP
        have hD : va_D A [(mo, .inr (8, [.int (iZ 2), .int (iZ (np : Int)), .ref ow, .ref om, .ref ok_, .ref oK, .ref og, .ref on_, .ref oh, .ref ox, .int qn, .int qf, .ref op_, .int ql])), (ow, .inl (cI, 108000, .inl fa)), (om, .inl (cI, 9, .inl fb)), (oh, .inl (cI, 10000, .inl fc)), (ok_, .inl (cI, 166400, .inl fk)), (oK, .inl (cI, 64, .inl fK)), (og, .inl (cI, 32, .inl fs)), (on_, .inl (cI, 32, .inl fn))] := hD
        show W p l e R s m args below meth c H locs _ _ Q (F0 m 112 ls [.int (iZ 0)])
        have hP9 : va_P D cls0 [(mo, .inr (8, [.int (iZ 2), .int (iZ (np : Int)), .ref ow, .ref om, .ref ok_, .ref oK, .ref og, .ref on_, .ref oh, .ref ox, .int qn, .int qf, .ref op_, .int ql])), (ow, .inl (cI, 108000, .inl fa)), (om, .inl (cI, 9, .inl fb)), (oh, .inl (cI, 10000, .inl fc)), (ok_, .inl (cI, 166400, .inl fk)), (oK, .inl (cI, 64, .inl fK)), (og, .inl (cI, 32, .inl fs)), (on_, .inl (cI, 32, .inl fn))] H := hP.sub [0, 1, 2, 3, 4, 5, 6, 7] rfl
        have hD9 : va_D A [(mo, .inr (8, [.int (iZ 2), .int (iZ (np : Int)), .ref ow, .ref om, .ref ok_, .ref oK, .ref og, .ref on_, .ref oh, .ref ox, .int qn, .int qf, .ref op_, .int ql])), (ow, .inl (cI, 108000, .inl fa)), (om, .inl (cI, 9, .inl fb)), (oh, .inl (cI, 10000, .inl fc)), (ok_, .inl (cI, 166400, .inl fk)), (oK, .inl (cI, 64, .inl fK)), (og, .inl (cI, 32, .inl fs)), (on_, .inl (cI, 32, .inl fn))] := hD.sub [0, 1, 2, 3, 4, 5, 6, 7] (by decide) rfl
        rw [hQ, ← hAe]
        refine r_i (v := (iZ 0)) K (fa, fb, fc, v9) hS d_Mo_sums_112 ?_ (fun t ht hv => ?_)
        · exact ⟨rfl, w9⟩
        · exact ⟨by rw [ht]; exact hP9, va_K.moved hv hK, by rw [← hAe]; exact hD9⟩
set_option maxHeartbeats 4000000 in
set_option maxRecDepth 100000 in
/-- Mo_sums refused with 1 -/
theorem r1_Mo_sums (l : Launch) (D : va_G) (mo : Nat) (qc : Int32) (np : Nat) (ow : Nat) (om : Nat) (ok_ : Nat) (oK : Nat) (og : Nat) (on_ : Nat) (oh : Nat) (ox : Nat) (qn : Int32) (qf : Int32) (op_ : Nat) (ql : Int32) (zt : Int) (za : Int) (zb : Int) (zl : Int) (sz : Nat) (hbad : (zt < 0 ∨ 32 ≤ zt) ∨ (za < 0 ∨ 32 ≤ za) ∨ (zb < 0 ∨ 32 ≤ zb)) (hrng : -2147483648 ≤ zt ∧ zt < 2147483648 ∧ -2147483648 ≤ za ∧ za < 2147483648 ∧ -2147483648 ≤ zb ∧ zb < 2147483648) : Met l y_Mo_sums (wsB y_Mo_sums b_Mo_sums 6 (some .int)) ({ frames := 1, cells := 0, slots := 0, locals := 21 }) (va_Pc [.ref mo, .int (iZ zt), .int (iZ za), .int (iZ zb), .int (iZ zl)] (wPre D [] [(mo, .inr (8, [.int qc, .int (iZ (np : Int)), .ref ow, .ref om, .ref ok_, .ref oK, .ref og, .ref on_, .ref oh, .ref ox, .int qn, .int qf, .ref op_, .int ql]))] sz)) (va_QV (fun (v_9 : Option Value) (u_9 : Unit) => v_9 = some (.int (iZ 0))) (fun u_9 => wPost D [] [(mo, .inr (8, [.int qc, .int (iZ (np : Int)), .ref ow, .ref om, .ref ok_, .ref oK, .ref og, .ref on_, .ref oh, .ref ox, .int qn, .int qf, .ref op_, .int ql]))] [(mo, .inr (8, [.int (iZ 1), .int (iZ (np : Int)), .ref ow, .ref om, .ref ok_, .ref oK, .ref og, .ref on_, .ref oh, .ref ox, .int qn, .int qf, .ref op_, .int ql]))] sz) (va_A [(mo, .inr (8, [.int qc, .int (iZ (np : Int)), .ref ow, .ref om, .ref ok_, .ref oK, .ref og, .ref on_, .ref oh, .ref ox, .int qn, .int qf, .ref op_, .int ql]))] sz)) 0 0 (va_A [(mo, .inr (8, [.int qc, .int (iZ (np : Int)), .ref ow, .ref om, .ref ok_, .ref oK, .ref og, .ref on_, .ref oh, .ref ox, .int qn, .int qf, .ref op_, .int ql]))] sz) := by
  refine met_enter (by decide +kernel) (Nat.le_of_ble_eq_true rfl) ?_
  intro p e s m args below meth c ls A R Q H locs K hin hAe hA hR hQ hP hK hD hS hl
  obtain ⟨hx, hb, hml, hrt, hlk, hts, hown, hno⟩ := id K
  have hl : lv_has ls 6 [(0, .ref mo), (1, .int (iZ zt)), (2, .int (iZ za)), (3, .int (iZ zb)), (4, .int (iZ zl))] := hl
  refine lv_aload_n hx hb d_Mo_sums_0 rfl (lv_at hl 0 rfl) ?_
  refine lv_iload_n hx hb d_Mo_sums_1 rfl (lv_at hl 1 rfl) ?_
  refine cs (n := 1) (wr := [(mo, .inr (8, [.int qc, .int (iZ (np : Int)), .ref ow, .ref om, .ref ok_, .ref oK, .ref og, .ref on_, .ref oh, .ref ox, .int qn, .int qf, .ref op_, .int ql]))]) (w1 := (fun (u : Int) => [])) (As := [.int (iZ zt)]) (rest := [.ref mo]) K hP hD hK hS hA hl.1 (c_Mo_isRegister l D zt H.size (by omega)) [] [0] [] rfl rfl rfl (by decide) (by decide) (by decide) (big_in mw_1172 rfl) (big_in mw_10 rfl) (big_in mw_1170 rfl) (big_in mw_1171 rfl) rfl rfl (by decide +kernel) ⟨by rw [hR]; exact Nat.le_of_ble_eq_true rfl, by rw [hR]; exact Nat.le_of_ble_eq_true rfl⟩ rfl (Nat.le_of_ble_eq_true rfl) d_Mo_sums_2 ⟨by rw [hR]; exact Nat.le_of_ble_eq_true rfl, by rw [hR]; exact Nat.le_of_ble_eq_true rfl⟩ rfl (fun v u H locs hp1 hP hD hS _ => ?_)
  obtain ⟨r2, rfl⟩ : ∃ z, z = u := ⟨_, rfl⟩
  obtain ⟨rfl, p2⟩ := hp1
  have hP : va_P D cls0 [(mo, .inr (8, [.int qc, .int (iZ (np : Int)), .ref ow, .ref om, .ref ok_, .ref oK, .ref og, .ref on_, .ref oh, .ref ox, .int qn, .int qf, .ref op_, .int ql]))] H := hP
  have hD : va_D A [(mo, .inr (8, [.int qc, .int (iZ (np : Int)), .ref ow, .ref om, .ref ok_, .ref oK, .ref og, .ref on_, .ref oh, .ref ox, .int qn, .int qf, .ref op_, .int ql]))] := hD
  show W p l e R s m args below meth c H locs _ _ Q (F0 m 5 ls [.int (iZ r2), .ref mo])
  have b2 : 0 ≤ r2 ∧ r2 ≤ 1 := by omega
  refine zz_if_eq (tgt := 26) hx hb d_Mo_sums_5 (by decide) (by omega) (fun c5 => ?_) (fun c5 => ?_)
  · refine lv_iconst (v := iZ (1)) hx hb d_Mo_sums_26 (by decide +kernel) ?_
    refine cv (n := 1) (wr := []) (w1 := (fun (u : Int) => [(mo, .inr (8, [.int (iZ 1), .int (iZ (np : Int)), .ref ow, .ref om, .ref ok_, .ref oK, .ref og, .ref on_, .ref oh, .ref ox, .int qn, .int qf, .ref op_, .int ql]))])) (As := [.int (iZ 1)]) (rest := []) K hP hD hK hS hA hl.1 (c_Mo_refuses l D mo qc np ow om ok_ oK og on_ oh ox qn qf op_ ql 1 H.size (by omega)) [0] [] [] rfl rfl rfl (by decide) (by decide) (by decide) 0 rfl rfl (big_in mw_1176 rfl) (big_in mw_10 rfl) (big_in mw_1173 rfl) (big_in mw_1175 rfl) (big_in sp_18 rfl) rfl rfl (by decide +kernel) ⟨by rw [hR]; exact Nat.le_of_ble_eq_true rfl, by rw [hR]; exact Nat.le_of_ble_eq_true rfl⟩ rfl (Nat.le_of_ble_eq_true rfl) d_Mo_sums_27 ⟨by rw [hR]; exact Nat.le_of_ble_eq_true rfl, by rw [hR]; exact Nat.le_of_ble_eq_true rfl⟩ rfl (fun v u H locs hp2 hP hD hS _ => ?_)
    obtain ⟨rf, rfl⟩ : ∃ z, z = u := ⟨_, rfl⟩
    obtain ⟨rfl, prf⟩ := hp2
    have hP : va_P D cls0 [(mo, .inr (8, [.int (iZ 1), .int (iZ (np : Int)), .ref ow, .ref om, .ref ok_, .ref oK, .ref og, .ref on_, .ref oh, .ref ox, .int qn, .int qf, .ref op_, .int ql]))] H := hP
    have hD : va_D A [(mo, .inr (8, [.int (iZ 1), .int (iZ (np : Int)), .ref ow, .ref om, .ref ok_, .ref oK, .ref og, .ref on_, .ref oh, .ref ox, .int qn, .int qf, .ref op_, .int ql]))] := hD
    show W p l e R s m args below meth c H locs _ _ Q (F0 m 30 ls [.int (iZ rf)])
    refine zz_if_eq (tgt := 35) hx hb d_Mo_sums_30 (by decide) (by omega) (fun c30 => False.elim (by omega)) (fun c30 => ?_)
    refine lv_iconst (v := iZ (0)) hx hb d_Mo_sums_33 (by decide +kernel) ?_
    have hP9 : va_P D cls0 [(mo, .inr (8, [.int (iZ 1), .int (iZ (np : Int)), .ref ow, .ref om, .ref ok_, .ref oK, .ref og, .ref on_, .ref oh, .ref ox, .int qn, .int qf, .ref op_, .int ql]))] H := hP.sub [0] rfl
    have hD9 : va_D A [(mo, .inr (8, [.int (iZ 1), .int (iZ (np : Int)), .ref ow, .ref om, .ref ok_, .ref oK, .ref og, .ref on_, .ref oh, .ref ox, .int qn, .int qf, .ref op_, .int ql]))] := hD.sub [0] (by decide) rfl
    rw [hQ, ← hAe]
    refine r_i (v := (iZ 0)) K () hS d_Mo_sums_34 ?_ (fun t ht hv => ?_)
    · exact rfl
    · exact ⟨by rw [ht]; exact hP9, va_K.moved hv hK, by rw [← hAe]; exact hD9⟩
  · refine lv_iload_n hx hb d_Mo_sums_8 rfl (lv_at hl 2 rfl) ?_
    refine cs (n := 1) (wr := [(mo, .inr (8, [.int qc, .int (iZ (np : Int)), .ref ow, .ref om, .ref ok_, .ref oK, .ref og, .ref on_, .ref oh, .ref ox, .int qn, .int qf, .ref op_, .int ql]))]) (w1 := (fun (u : Int) => [])) (As := [.int (iZ za)]) (rest := [.ref mo]) K hP hD hK hS hA hl.1 (c_Mo_isRegister l D za H.size (by omega)) [] [0] [] rfl rfl rfl (by decide) (by decide) (by decide) (big_in mw_1172 rfl) (big_in mw_10 rfl) (big_in mw_1170 rfl) (big_in mw_1171 rfl) rfl rfl (by decide +kernel) ⟨by rw [hR]; exact Nat.le_of_ble_eq_true rfl, by rw [hR]; exact Nat.le_of_ble_eq_true rfl⟩ rfl (Nat.le_of_ble_eq_true rfl) d_Mo_sums_9 ⟨by rw [hR]; exact Nat.le_of_ble_eq_true rfl, by rw [hR]; exact Nat.le_of_ble_eq_true rfl⟩ rfl (fun v u H locs hp3 hP hD hS _ => ?_)
    obtain ⟨r9, rfl⟩ : ∃ z, z = u := ⟨_, rfl⟩
    obtain ⟨rfl, p9⟩ := hp3
    have hP : va_P D cls0 [(mo, .inr (8, [.int qc, .int (iZ (np : Int)), .ref ow, .ref om, .ref ok_, .ref oK, .ref og, .ref on_, .ref oh, .ref ox, .int qn, .int qf, .ref op_, .int ql]))] H := hP
    have hD : va_D A [(mo, .inr (8, [.int qc, .int (iZ (np : Int)), .ref ow, .ref om, .ref ok_, .ref oK, .ref og, .ref on_, .ref oh, .ref ox, .int qn, .int qf, .ref op_, .int ql]))] := hD
    show W p l e R s m args below meth c H locs _ _ Q (F0 m 12 ls [.int (iZ r9), .ref mo])
    have b9 : 0 ≤ r9 ∧ r9 ≤ 1 := by omega
    refine zz_if_eq (tgt := 26) hx hb d_Mo_sums_12 (by decide) (by omega) (fun c12 => ?_) (fun c12 => ?_)
    · refine lv_iconst (v := iZ (1)) hx hb d_Mo_sums_26 (by decide +kernel) ?_
      refine cv (n := 1) (wr := []) (w1 := (fun (u : Int) => [(mo, .inr (8, [.int (iZ 1), .int (iZ (np : Int)), .ref ow, .ref om, .ref ok_, .ref oK, .ref og, .ref on_, .ref oh, .ref ox, .int qn, .int qf, .ref op_, .int ql]))])) (As := [.int (iZ 1)]) (rest := []) K hP hD hK hS hA hl.1 (c_Mo_refuses l D mo qc np ow om ok_ oK og on_ oh ox qn qf op_ ql 1 H.size (by omega)) [0] [] [] rfl rfl rfl (by decide) (by decide) (by decide) 0 rfl rfl (big_in mw_1176 rfl) (big_in mw_10 rfl) (big_in mw_1173 rfl) (big_in mw_1175 rfl) (big_in sp_18 rfl) rfl rfl (by decide +kernel) ⟨by rw [hR]; exact Nat.le_of_ble_eq_true rfl, by rw [hR]; exact Nat.le_of_ble_eq_true rfl⟩ rfl (Nat.le_of_ble_eq_true rfl) d_Mo_sums_27 ⟨by rw [hR]; exact Nat.le_of_ble_eq_true rfl, by rw [hR]; exact Nat.le_of_ble_eq_true rfl⟩ rfl (fun v u H locs hp4 hP hD hS _ => ?_)
      obtain ⟨rf, rfl⟩ : ∃ z, z = u := ⟨_, rfl⟩
      obtain ⟨rfl, prf⟩ := hp4
      have hP : va_P D cls0 [(mo, .inr (8, [.int (iZ 1), .int (iZ (np : Int)), .ref ow, .ref om, .ref ok_, .ref oK, .ref og, .ref on_, .ref oh, .ref ox, .int qn, .int qf, .ref op_, .int ql]))] H := hP
      have hD : va_D A [(mo, .inr (8, [.int (iZ 1), .int (iZ (np : Int)), .ref ow, .ref om, .ref ok_, .ref oK, .ref og, .ref on_, .ref oh, .ref ox, .int qn, .int qf, .ref op_, .int ql]))] := hD
      show W p l e R s m args below meth c H locs _ _ Q (F0 m 30 ls [.int (iZ rf)])
      refine zz_if_eq (tgt := 35) hx hb d_Mo_sums_30 (by decide) (by omega) (fun c30 => False.elim (by omega)) (fun c30 => ?_)
      refine lv_iconst (v := iZ (0)) hx hb d_Mo_sums_33 (by decide +kernel) ?_
      have hP9 : va_P D cls0 [(mo, .inr (8, [.int (iZ 1), .int (iZ (np : Int)), .ref ow, .ref om, .ref ok_, .ref oK, .ref og, .ref on_, .ref oh, .ref ox, .int qn, .int qf, .ref op_, .int ql]))] H := hP.sub [0] rfl
      have hD9 : va_D A [(mo, .inr (8, [.int (iZ 1), .int (iZ (np : Int)), .ref ow, .ref om, .ref ok_, .ref oK, .ref og, .ref on_, .ref oh, .ref ox, .int qn, .int qf, .ref op_, .int ql]))] := hD.sub [0] (by decide) rfl
      rw [hQ, ← hAe]
      refine r_i (v := (iZ 0)) K () hS d_Mo_sums_34 ?_ (fun t ht hv => ?_)
      · exact rfl
      · exact ⟨by rw [ht]; exact hP9, va_K.moved hv hK, by rw [← hAe]; exact hD9⟩
    · refine lv_iload_n hx hb d_Mo_sums_15 rfl (lv_at hl 3 rfl) ?_
      refine cs (n := 1) (wr := [(mo, .inr (8, [.int qc, .int (iZ (np : Int)), .ref ow, .ref om, .ref ok_, .ref oK, .ref og, .ref on_, .ref oh, .ref ox, .int qn, .int qf, .ref op_, .int ql]))]) (w1 := (fun (u : Int) => [])) (As := [.int (iZ zb)]) (rest := [.ref mo]) K hP hD hK hS hA hl.1 (c_Mo_isRegister l D zb H.size (by omega)) [] [0] [] rfl rfl rfl (by decide) (by decide) (by decide) (big_in mw_1172 rfl) (big_in mw_10 rfl) (big_in mw_1170 rfl) (big_in mw_1171 rfl) rfl rfl (by decide +kernel) ⟨by rw [hR]; exact Nat.le_of_ble_eq_true rfl, by rw [hR]; exact Nat.le_of_ble_eq_true rfl⟩ rfl (Nat.le_of_ble_eq_true rfl) d_Mo_sums_16 ⟨by rw [hR]; exact Nat.le_of_ble_eq_true rfl, by rw [hR]; exact Nat.le_of_ble_eq_true rfl⟩ rfl (fun v u H locs hp5 hP hD hS _ => ?_)
      obtain ⟨r16, rfl⟩ : ∃ z, z = u := ⟨_, rfl⟩
      obtain ⟨rfl, p16⟩ := hp5
      have hP : va_P D cls0 [(mo, .inr (8, [.int qc, .int (iZ (np : Int)), .ref ow, .ref om, .ref ok_, .ref oK, .ref og, .ref on_, .ref oh, .ref ox, .int qn, .int qf, .ref op_, .int ql]))] H := hP
      have hD : va_D A [(mo, .inr (8, [.int qc, .int (iZ (np : Int)), .ref ow, .ref om, .ref ok_, .ref oK, .ref og, .ref on_, .ref oh, .ref ox, .int qn, .int qf, .ref op_, .int ql]))] := hD
      show W p l e R s m args below meth c H locs _ _ Q (F0 m 19 ls [.int (iZ r16), .ref mo])
      have b16 : 0 ≤ r16 ∧ r16 ≤ 1 := by omega
      refine zz_if_eq (tgt := 26) hx hb d_Mo_sums_19 (by decide) (by omega) (fun c19 => ?_) (fun c19 => ?_)
      · refine lv_iconst (v := iZ (1)) hx hb d_Mo_sums_26 (by decide +kernel) ?_
        refine cv (n := 1) (wr := []) (w1 := (fun (u : Int) => [(mo, .inr (8, [.int (iZ 1), .int (iZ (np : Int)), .ref ow, .ref om, .ref ok_, .ref oK, .ref og, .ref on_, .ref oh, .ref ox, .int qn, .int qf, .ref op_, .int ql]))])) (As := [.int (iZ 1)]) (rest := []) K hP hD hK hS hA hl.1 (c_Mo_refuses l D mo qc np ow om ok_ oK og on_ oh ox qn qf op_ ql 1 H.size (by omega)) [0] [] [] rfl rfl rfl (by decide) (by decide) (by decide) 0 rfl rfl (big_in mw_1176 rfl) (big_in mw_10 rfl) (big_in mw_1173 rfl) (big_in mw_1175 rfl) (big_in sp_18 rfl) rfl rfl (by decide +kernel) ⟨by rw [hR]; exact Nat.le_of_ble_eq_true rfl, by rw [hR]; exact Nat.le_of_ble_eq_true rfl⟩ rfl (Nat.le_of_ble_eq_true rfl) d_Mo_sums_27 ⟨by rw [hR]; exact Nat.le_of_ble_eq_true rfl, by rw [hR]; exact Nat.le_of_ble_eq_true rfl⟩ rfl (fun v u H locs hp6 hP hD hS _ => ?_)
        obtain ⟨rf, rfl⟩ : ∃ z, z = u := ⟨_, rfl⟩
        obtain ⟨rfl, prf⟩ := hp6
        have hP : va_P D cls0 [(mo, .inr (8, [.int (iZ 1), .int (iZ (np : Int)), .ref ow, .ref om, .ref ok_, .ref oK, .ref og, .ref on_, .ref oh, .ref ox, .int qn, .int qf, .ref op_, .int ql]))] H := hP
        have hD : va_D A [(mo, .inr (8, [.int (iZ 1), .int (iZ (np : Int)), .ref ow, .ref om, .ref ok_, .ref oK, .ref og, .ref on_, .ref oh, .ref ox, .int qn, .int qf, .ref op_, .int ql]))] := hD
        show W p l e R s m args below meth c H locs _ _ Q (F0 m 30 ls [.int (iZ rf)])
        refine zz_if_eq (tgt := 35) hx hb d_Mo_sums_30 (by decide) (by omega) (fun c30 => False.elim (by omega)) (fun c30 => ?_)
        refine lv_iconst (v := iZ (0)) hx hb d_Mo_sums_33 (by decide +kernel) ?_
        have hP9 : va_P D cls0 [(mo, .inr (8, [.int (iZ 1), .int (iZ (np : Int)), .ref ow, .ref om, .ref ok_, .ref oK, .ref og, .ref on_, .ref oh, .ref ox, .int qn, .int qf, .ref op_, .int ql]))] H := hP.sub [0] rfl
        have hD9 : va_D A [(mo, .inr (8, [.int (iZ 1), .int (iZ (np : Int)), .ref ow, .ref om, .ref ok_, .ref oK, .ref og, .ref on_, .ref oh, .ref ox, .int qn, .int qf, .ref op_, .int ql]))] := hD.sub [0] (by decide) rfl
        rw [hQ, ← hAe]
        refine r_i (v := (iZ 0)) K () hS d_Mo_sums_34 ?_ (fun t ht hv => ?_)
        · exact rfl
        · exact ⟨by rw [ht]; exact hP9, va_K.moved hv hK, by rw [← hAe]; exact hD9⟩
      · refine lv_iconst (v := iZ (0)) hx hb d_Mo_sums_22 (by decide +kernel) ?_
        refine lv_goto (tgt := 27) hx hb d_Mo_sums_23 (by decide) ?_
        exfalso
        omega
set_option maxHeartbeats 4000000 in
set_option maxRecDepth 100000 in
theorem c_Mo_add (l : Launch) (D : va_G) (mo : Nat) (qc : Int32) (np : Nat) (ow : Nat) (om : Nat) (ok_ : Nat) (oK : Nat) (og : Nat) (on_ : Nat) (oh : Nat) (ox : Nat) (qn : Int32) (qf : Int32) (op_ : Nat) (ql : Int32) (fw : Nat → Int32) (fm : Nat → Int32) (cI : ClassId) (fh : Nat → Int32) (fk : Nat → Int32) (fK : Nat → Int32) (fs : Nat → Int32) (fn : Nat → Int32) (val : Nat → Nat) (tv : Nat → Nat) (bv : Nat → Nat) (sg : Nat → Int) (to : Nat) (a : Nat) (b_ : Nat) (sz : Nat) (hW : WB fw fm val) (hMR : MoR fk fK fs fn tv bv sg) (hnd : ndS tv bv 32 ≤ np) (hnp : np ≤ 1024) (J : RgC tv bv sg) (hbv : ∀ r, r < 32 → 0 < bv r) (t1 : to < 32) (t2 : a < 32) (t3_ : b_ < 32) (hfit : ndS tv bv 32 + (lm (rdN ((sg a * ((tv a * bv b_ : Nat) : Int) + sg b_ * ((tv b_ * bv a : Nat) : Int)).natAbs) (bv a * bv b_)) + lm (rdD ((sg a * ((tv a * bv b_ : Nat) : Int) + sg b_ * ((tv b_ * bv a : Nat) : Int)).natAbs) (bv a * bv b_))) ≤ np + (lm (tv to) + lm (bv to))) : Met l y_Mo_add (wsB y_Mo_add b_Mo_add 4 (some .int)) ({ frames := 6, cells := 0, slots := 0, locals := 150 }) (va_Pc [.ref mo, .int (iZ (to : Int)), .int (iZ (a : Int)), .int (iZ (b_ : Int))] (wPre D [(cI, .int)] [(mo, .inr (8, [.int qc, .int (iZ (np : Int)), .ref ow, .ref om, .ref ok_, .ref oK, .ref og, .ref on_, .ref oh, .ref ox, .int qn, .int qf, .ref op_, .int ql])), (ow, .inl (cI, 108000, .inl fw)), (om, .inl (cI, 9, .inl fm)), (oh, .inl (cI, 10000, .inl fh)), (ok_, .inl (cI, 166400, .inl fk)), (oK, .inl (cI, 64, .inl fK)), (og, .inl (cI, 32, .inl fs)), (on_, .inl (cI, 32, .inl fn))] sz)) (va_QV (fun (v_9 : Option Value) (u_9 : (Nat → Int32) × (Nat → Int32) × (Nat → Int32) × (Nat → Int32) × (Nat → Int32) × (Nat → Int32) × (Nat → Int32) × (Nat → Nat)) => v_9 = some (.int (iZ ((lm (rdN ((sg a * ((tv a * bv b_ : Nat) : Int) + sg b_ * ((tv b_ * bv a : Nat) : Int)).natAbs) (bv a * bv b_)) : Int) + (lm (rdD ((sg a * ((tv a * bv b_ : Nat) : Int) + sg b_ * ((tv b_ * bv a : Nat) : Int)).natAbs) (bv a * bv b_)) : Int)))) ∧ (WB u_9.1 u_9.2.1 u_9.2.2.2.2.2.2.2) ∧ (MoR u_9.2.2.2.1 u_9.2.2.2.2.1 u_9.2.2.2.2.2.1 u_9.2.2.2.2.2.2.1 (up tv to (rdN ((sg a * ((tv a * bv b_ : Nat) : Int) + sg b_ * ((tv b_ * bv a : Nat) : Int)).natAbs) (bv a * bv b_))) (up bv to (rdD ((sg a * ((tv a * bv b_ : Nat) : Int) + sg b_ * ((tv b_ * bv a : Nat) : Int)).natAbs) (bv a * bv b_))) (up sg to (if rdN ((sg a * ((tv a * bv b_ : Nat) : Int) + sg b_ * ((tv b_ * bv a : Nat) : Int)).natAbs) (bv a * bv b_) = 0 then 0 else (sg a * ((tv a * bv b_ : Nat) : Int) + sg b_ * ((tv b_ * bv a : Nat) : Int)).sign)))) (fun u_9 => wPost D [(cI, .int)] [(mo, .inr (8, [.int qc, .int (iZ (np : Int)), .ref ow, .ref om, .ref ok_, .ref oK, .ref og, .ref on_, .ref oh, .ref ox, .int qn, .int qf, .ref op_, .int ql])), (ow, .inl (cI, 108000, .inl fw)), (om, .inl (cI, 9, .inl fm)), (oh, .inl (cI, 10000, .inl fh)), (ok_, .inl (cI, 166400, .inl fk)), (oK, .inl (cI, 64, .inl fK)), (og, .inl (cI, 32, .inl fs)), (on_, .inl (cI, 32, .inl fn))] [(mo, .inr (8, [.int (iZ 0), .int (iZ (np : Int)), .ref ow, .ref om, .ref ok_, .ref oK, .ref og, .ref on_, .ref oh, .ref ox, .int qn, .int qf, .ref op_, .int ql])), (ow, .inl (cI, 108000, .inl u_9.1)), (om, .inl (cI, 9, .inl u_9.2.1)), (oh, .inl (cI, 10000, .inl u_9.2.2.1)), (ok_, .inl (cI, 166400, .inl u_9.2.2.2.1)), (oK, .inl (cI, 64, .inl u_9.2.2.2.2.1)), (og, .inl (cI, 32, .inl u_9.2.2.2.2.2.1)), (on_, .inl (cI, 32, .inl u_9.2.2.2.2.2.2.1))] sz) (va_A [(mo, .inr (8, [.int qc, .int (iZ (np : Int)), .ref ow, .ref om, .ref ok_, .ref oK, .ref og, .ref on_, .ref oh, .ref ox, .int qn, .int qf, .ref op_, .int ql])), (ow, .inl (cI, 108000, .inl fw)), (om, .inl (cI, 9, .inl fm)), (oh, .inl (cI, 10000, .inl fh)), (ok_, .inl (cI, 166400, .inl fk)), (oK, .inl (cI, 64, .inl fK)), (og, .inl (cI, 32, .inl fs)), (on_, .inl (cI, 32, .inl fn))] sz)) 0 0 (va_A [(mo, .inr (8, [.int qc, .int (iZ (np : Int)), .ref ow, .ref om, .ref ok_, .ref oK, .ref og, .ref on_, .ref oh, .ref ox, .int qn, .int qf, .ref op_, .int ql])), (ow, .inl (cI, 108000, .inl fw)), (om, .inl (cI, 9, .inl fm)), (oh, .inl (cI, 10000, .inl fh)), (ok_, .inl (cI, 166400, .inl fk)), (oK, .inl (cI, 64, .inl fK)), (og, .inl (cI, 32, .inl fs)), (on_, .inl (cI, 32, .inl fn))] sz) := by
  refine met_enter (by decide +kernel) (Nat.le_of_ble_eq_true rfl) ?_
  intro p e s m args below meth c ls A R Q H locs K hin hAe hA hR hQ hP hK hD hS hl
  obtain ⟨hx, hb, hml, hrt, hlk, hts, hown, hno⟩ := id K
  have hl : lv_has ls 4 [(0, .ref mo), (1, .int (iZ (to : Int))), (2, .int (iZ (a : Int))), (3, .int (iZ (b_ : Int)))] := hl
  refine lv_aload_n hx hb d_Mo_add_0 rfl (lv_at hl 0 rfl) ?_
  refine lv_iload_n hx hb d_Mo_add_1 rfl (lv_at hl 1 rfl) ?_
  refine lv_iload_n hx hb d_Mo_add_2 rfl (lv_at hl 2 rfl) ?_
  refine lv_iload_n hx hb d_Mo_add_3 rfl (lv_at hl 3 rfl) ?_
  refine lv_iconst (v := iZ (0)) hx hb d_Mo_add_4 (by decide +kernel) ?_
  refine cv (n := 4) (wr := []) (w1 := (fun (u : (Nat → Int32) × (Nat → Int32) × (Nat → Int32) × (Nat → Int32) × (Nat → Int32) × (Nat → Int32) × (Nat → Int32) × (Nat → Nat)) => [(mo, .inr (8, [.int (iZ 0), .int (iZ (np : Int)), .ref ow, .ref om, .ref ok_, .ref oK, .ref og, .ref on_, .ref oh, .ref ox, .int qn, .int qf, .ref op_, .int ql])), (ow, .inl (cI, 108000, .inl u.1)), (om, .inl (cI, 9, .inl u.2.1)), (oh, .inl (cI, 10000, .inl u.2.2.1)), (ok_, .inl (cI, 166400, .inl u.2.2.2.1)), (oK, .inl (cI, 64, .inl u.2.2.2.2.1)), (og, .inl (cI, 32, .inl u.2.2.2.2.2.1)), (on_, .inl (cI, 32, .inl u.2.2.2.2.2.2.1))])) (As := [.int (iZ (to : Int)), .int (iZ (a : Int)), .int (iZ (b_ : Int)), .int (iZ 0)]) (rest := []) K hP hD hK hS hA hl.1 (c_Mo_sums0 l D mo qc np ow om ok_ oK og on_ oh ox qn qf op_ ql fw fm cI fh fk fK fs fn val tv bv sg to a b_ H.size hW hMR hnd hnp J hbv t1 t2 t3_ hfit) [0, 1, 2, 3, 4, 5, 6, 7] [] [0] rfl rfl rfl (by decide) (by decide) (by decide) 0 rfl rfl (big_in mw_1250 rfl) (big_in mw_10 rfl) (big_in mw_1247 rfl) (big_in mw_1249 rfl) (big_in sp_32 rfl) rfl rfl (by decide +kernel) ⟨by rw [hR]; exact Nat.le_of_ble_eq_true rfl, by rw [hR]; exact Nat.le_of_ble_eq_true rfl⟩ rfl (Nat.le_of_ble_eq_true rfl) d_Mo_add_5 ⟨by rw [hR]; exact Nat.le_of_ble_eq_true rfl, by rw [hR]; exact Nat.le_of_ble_eq_true rfl⟩ rfl (fun v u H locs hp1 hP hD hS _ => ?_)
  obtain ⟨fa, fb, fc, fd, fe, ff, fg, v9⟩ := u
  try dsimp only at hp1
  obtain ⟨rfl, w9, q9⟩ := hp1
  have hP : va_P D cls0 [(mo, .inr (8, [.int (iZ 0), .int (iZ (np : Int)), .ref ow, .ref om, .ref ok_, .ref oK, .ref og, .ref on_, .ref oh, .ref ox, .int qn, .int qf, .ref op_, .int ql])), (ow, .inl (cI, 108000, .inl fa)), (om, .inl (cI, 9, .inl fb)), (oh, .inl (cI, 10000, .inl fc)), (ok_, .inl (cI, 166400, .inl fd)), (oK, .inl (cI, 64, .inl fe)), (og, .inl (cI, 32, .inl ff)), (on_, .inl (cI, 32, .inl fg))] H := hP
  have hD : va_D A [(mo, .inr (8, [.int (iZ 0), .int (iZ (np : Int)), .ref ow, .ref om, .ref ok_, .ref oK, .ref og, .ref on_, .ref oh, .ref ox, .int qn, .int qf, .ref op_, .int ql])), (ow, .inl (cI, 108000, .inl fa)), (om, .inl (cI, 9, .inl fb)), (oh, .inl (cI, 10000, .inl fc)), (ok_, .inl (cI, 166400, .inl fd)), (oK, .inl (cI, 64, .inl fe)), (og, .inl (cI, 32, .inl ff)), (on_, .inl (cI, 32, .inl fg))] := hD
  show W p l e R s m args below meth c H locs _ _ Q (F0 m 8 ls [.int (iZ ((lm (rdN ((sg a * ((tv a * bv b_ : Nat) : Int) + sg b_ * ((tv b_ * bv a : Nat) : Int)).natAbs) (bv a * bv b_)) : Int) + (lm (rdD ((sg a * ((tv a * bv b_ : Nat) : Int) + sg b_ * ((tv b_ * bv a : Nat) : Int)).natAbs) (bv a * bv b_)) : Int)))])
  have hP9 : va_P D cls0 [(mo, .inr (8, [.int (iZ 0), .int (iZ (np : Int)), .ref ow, .ref om, .ref ok_, .ref oK, .ref og, .ref on_, .ref oh, .ref ox, .int qn, .int qf, .ref op_, .int ql])), (ow, .inl (cI, 108000, .inl fa)), (om, .inl (cI, 9, .inl fb)), (oh, .inl (cI, 10000, .inl fc)), (ok_, .inl (cI, 166400, .inl fd)), (oK, .inl (cI, 64, .inl fe)), (og, .inl (cI, 32, .inl ff)), (on_, .inl (cI, 32, .inl fg))] H := hP.sub [0, 1, 2, 3, 4, 5, 6, 7] rfl
  have hD9 : va_D A [(mo, .inr (8, [.int (iZ 0), .int (iZ (np : Int)), .ref ow, .ref om, .ref ok_, .ref oK, .ref og, .ref on_, .ref oh, .ref ox, .int qn, .int qf, .ref op_, .int ql])), (ow, .inl (cI, 108000, .inl fa)), (om, .inl (cI, 9, .inl fb)), (oh, .inl (cI, 10000, .inl fc)), (ok_, .inl (cI, 166400, .inl fd)), (oK, .inl (cI, 64, .inl fe)), (og, .inl (cI, 32, .inl ff)), (on_, .inl (cI, 32, .inl fg))] := hD.sub [0, 1, 2, 3, 4, 5, 6, 7] (by decide) rfl
  rw [hQ, ← hAe]
  refine r_i (v := (iZ ((lm (rdN ((sg a * ((tv a * bv b_ : Nat) : Int) + sg b_ * ((tv b_ * bv a : Nat) : Int)).natAbs) (bv a * bv b_)) : Int) + (lm (rdD ((sg a * ((tv a * bv b_ : Nat) : Int) + sg b_ * ((tv b_ * bv a : Nat) : Int)).natAbs) (bv a * bv b_)) : Int)))) K (fa, fb, fc, fd, fe, ff, fg, v9) hS d_Mo_add_8 ?_ (fun t ht hv => ?_)
  · exact ⟨rfl, w9, q9⟩
  · exact ⟨by rw [ht]; exact hP9, va_K.moved hv hK, by rw [← hAe]; exact hD9⟩
set_option maxHeartbeats 4000000 in
set_option maxRecDepth 100000 in
theorem f_Mo_add (l : Launch) (D : va_G) (mo : Nat) (qc : Int32) (np : Nat) (ow : Nat) (om : Nat) (ok_ : Nat) (oK : Nat) (og : Nat) (on_ : Nat) (oh : Nat) (ox : Nat) (qn : Int32) (qf : Int32) (op_ : Nat) (ql : Int32) (fw : Nat → Int32) (fm : Nat → Int32) (cI : ClassId) (fh : Nat → Int32) (fk : Nat → Int32) (fK : Nat → Int32) (fs : Nat → Int32) (fn : Nat → Int32) (val : Nat → Nat) (tv : Nat → Nat) (bv : Nat → Nat) (sg : Nat → Int) (to : Nat) (a : Nat) (b_ : Nat) (sz : Nat) (hW : WB fw fm val) (hMR : MoR fk fK fs fn tv bv sg) (hnd : ndS tv bv 32 ≤ np) (hnp : np ≤ 1024) (J : RgC tv bv sg) (hbv : ∀ r, r < 32 → 0 < bv r) (t1 : to < 32) (t2 : a < 32) (t3_ : b_ < 32) (hfit : np + (lm (tv to) + lm (bv to)) < ndS tv bv 32 + (lm (rdN ((sg a * ((tv a * bv b_ : Nat) : Int) + sg b_ * ((tv b_ * bv a : Nat) : Int)).natAbs) (bv a * bv b_)) + lm (rdD ((sg a * ((tv a * bv b_ : Nat) : Int) + sg b_ * ((tv b_ * bv a : Nat) : Int)).natAbs) (bv a * bv b_)))) : Met l y_Mo_add (wsB y_Mo_add b_Mo_add 4 (some .int)) ({ frames := 6, cells := 0, slots := 0, locals := 150 }) (va_Pc [.ref mo, .int (iZ (to : Int)), .int (iZ (a : Int)), .int (iZ (b_ : Int))] (wPre D [(cI, .int)] [(mo, .inr (8, [.int qc, .int (iZ (np : Int)), .ref ow, .ref om, .ref ok_, .ref oK, .ref og, .ref on_, .ref oh, .ref ox, .int qn, .int qf, .ref op_, .int ql])), (ow, .inl (cI, 108000, .inl fw)), (om, .inl (cI, 9, .inl fm)), (oh, .inl (cI, 10000, .inl fh)), (ok_, .inl (cI, 166400, .inl fk)), (oK, .inl (cI, 64, .inl fK)), (og, .inl (cI, 32, .inl fs)), (on_, .inl (cI, 32, .inl fn))] sz)) (va_QV (fun (v_9 : Option Value) (u_9 : (Nat → Int32) × (Nat → Int32) × (Nat → Int32) × (Nat → Nat)) => v_9 = some (.int (iZ 0)) ∧ (WB u_9.1 u_9.2.1 u_9.2.2.2)) (fun u_9 => wPost D [(cI, .int)] [(mo, .inr (8, [.int qc, .int (iZ (np : Int)), .ref ow, .ref om, .ref ok_, .ref oK, .ref og, .ref on_, .ref oh, .ref ox, .int qn, .int qf, .ref op_, .int ql])), (ow, .inl (cI, 108000, .inl fw)), (om, .inl (cI, 9, .inl fm)), (oh, .inl (cI, 10000, .inl fh)), (ok_, .inl (cI, 166400, .inl fk)), (oK, .inl (cI, 64, .inl fK)), (og, .inl (cI, 32, .inl fs)), (on_, .inl (cI, 32, .inl fn))] [(mo, .inr (8, [.int (iZ 2), .int (iZ (np : Int)), .ref ow, .ref om, .ref ok_, .ref oK, .ref og, .ref on_, .ref oh, .ref ox, .int qn, .int qf, .ref op_, .int ql])), (ow, .inl (cI, 108000, .inl u_9.1)), (om, .inl (cI, 9, .inl u_9.2.1)), (oh, .inl (cI, 10000, .inl u_9.2.2.1)), (ok_, .inl (cI, 166400, .inl fk)), (oK, .inl (cI, 64, .inl fK)), (og, .inl (cI, 32, .inl fs)), (on_, .inl (cI, 32, .inl fn))] sz) (va_A [(mo, .inr (8, [.int qc, .int (iZ (np : Int)), .ref ow, .ref om, .ref ok_, .ref oK, .ref og, .ref on_, .ref oh, .ref ox, .int qn, .int qf, .ref op_, .int ql])), (ow, .inl (cI, 108000, .inl fw)), (om, .inl (cI, 9, .inl fm)), (oh, .inl (cI, 10000, .inl fh)), (ok_, .inl (cI, 166400, .inl fk)), (oK, .inl (cI, 64, .inl fK)), (og, .inl (cI, 32, .inl fs)), (on_, .inl (cI, 32, .inl fn))] sz)) 0 0 (va_A [(mo, .inr (8, [.int qc, .int (iZ (np : Int)), .ref ow, .ref om, .ref ok_, .ref oK, .ref og, .ref on_, .ref oh, .ref ox, .int qn, .int qf, .ref op_, .int ql])), (ow, .inl (cI, 108000, .inl fw)), (om, .inl (cI, 9, .inl fm)), (oh, .inl (cI, 10000, .inl fh)), (ok_, .inl (cI, 166400, .inl fk)), (oK, .inl (cI, 64, .inl fK)), (og, .inl (cI, 32, .inl fs)), (on_, .inl (cI, 32, .inl fn))] sz) := by
  refine met_enter (by decide +kernel) (Nat.le_of_ble_eq_true rfl) ?_
  intro p e s m args below meth c ls A R Q H locs K hin hAe hA hR hQ hP hK hD hS hl
  obtain ⟨hx, hb, hml, hrt, hlk, hts, hown, hno⟩ := id K
  have hl : lv_has ls 4 [(0, .ref mo), (1, .int (iZ (to : Int))), (2, .int (iZ (a : Int))), (3, .int (iZ (b_ : Int)))] := hl
  refine lv_aload_n hx hb d_Mo_add_0 rfl (lv_at hl 0 rfl) ?_
  refine lv_iload_n hx hb d_Mo_add_1 rfl (lv_at hl 1 rfl) ?_
  refine lv_iload_n hx hb d_Mo_add_2 rfl (lv_at hl 2 rfl) ?_
  refine lv_iload_n hx hb d_Mo_add_3 rfl (lv_at hl 3 rfl) ?_
  refine lv_iconst (v := iZ (0)) hx hb d_Mo_add_4 (by decide +kernel) ?_
  refine cv (n := 4) (wr := []) (w1 := (fun (u : (Nat → Int32) × (Nat → Int32) × (Nat → Int32) × (Nat → Nat)) => [(mo, .inr (8, [.int (iZ 2), .int (iZ (np : Int)), .ref ow, .ref om, .ref ok_, .ref oK, .ref og, .ref on_, .ref oh, .ref ox, .int qn, .int qf, .ref op_, .int ql])), (ow, .inl (cI, 108000, .inl u.1)), (om, .inl (cI, 9, .inl u.2.1)), (oh, .inl (cI, 10000, .inl u.2.2.1)), (ok_, .inl (cI, 166400, .inl fk)), (oK, .inl (cI, 64, .inl fK)), (og, .inl (cI, 32, .inl fs)), (on_, .inl (cI, 32, .inl fn))])) (As := [.int (iZ (to : Int)), .int (iZ (a : Int)), .int (iZ (b_ : Int)), .int (iZ 0)]) (rest := []) K hP hD hK hS hA hl.1 (f_Mo_sums0 l D mo qc np ow om ok_ oK og on_ oh ox qn qf op_ ql fw fm cI fh fk fK fs fn val tv bv sg to a b_ H.size hW hMR hnd hnp J hbv t1 t2 t3_ hfit) [0, 1, 2, 3, 4, 5, 6, 7] [] [0] rfl rfl rfl (by decide) (by decide) (by decide) 0 rfl rfl (big_in mw_1250 rfl) (big_in mw_10 rfl) (big_in mw_1247 rfl) (big_in mw_1249 rfl) (big_in sp_32 rfl) rfl rfl (by decide +kernel) ⟨by rw [hR]; exact Nat.le_of_ble_eq_true rfl, by rw [hR]; exact Nat.le_of_ble_eq_true rfl⟩ rfl (Nat.le_of_ble_eq_true rfl) d_Mo_add_5 ⟨by rw [hR]; exact Nat.le_of_ble_eq_true rfl, by rw [hR]; exact Nat.le_of_ble_eq_true rfl⟩ rfl (fun v u H locs hp1 hP hD hS _ => ?_)
  obtain ⟨fa, fb, fc, v9⟩ := u
  try dsimp only at hp1
  obtain ⟨rfl, w9⟩ := hp1
  have hP : va_P D cls0 [(mo, .inr (8, [.int (iZ 2), .int (iZ (np : Int)), .ref ow, .ref om, .ref ok_, .ref oK, .ref og, .ref on_, .ref oh, .ref ox, .int qn, .int qf, .ref op_, .int ql])), (ow, .inl (cI, 108000, .inl fa)), (om, .inl (cI, 9, .inl fb)), (oh, .inl (cI, 10000, .inl fc)), (ok_, .inl (cI, 166400, .inl fk)), (oK, .inl (cI, 64, .inl fK)), (og, .inl (cI, 32, .inl fs)), (on_, .inl (cI, 32, .inl fn))] H := hP
  have hD : va_D A [(mo, .inr (8, [.int (iZ 2), .int (iZ (np : Int)), .ref ow, .ref om, .ref ok_, .ref oK, .ref og, .ref on_, .ref oh, .ref ox, .int qn, .int qf, .ref op_, .int ql])), (ow, .inl (cI, 108000, .inl fa)), (om, .inl (cI, 9, .inl fb)), (oh, .inl (cI, 10000, .inl fc)), (ok_, .inl (cI, 166400, .inl fk)), (oK, .inl (cI, 64, .inl fK)), (og, .inl (cI, 32, .inl fs)), (on_, .inl (cI, 32, .inl fn))] := hD
  show W p l e R s m args below meth c H locs _ _ Q (F0 m 8 ls [.int (iZ 0)])
  have hP9 : va_P D cls0 [(mo, .inr (8, [.int (iZ 2), .int (iZ (np : Int)), .ref ow, .ref om, .ref ok_, .ref oK, .ref og, .ref on_, .ref oh, .ref ox, .int qn, .int qf, .ref op_, .int ql])), (ow, .inl (cI, 108000, .inl fa)), (om, .inl (cI, 9, .inl fb)), (oh, .inl (cI, 10000, .inl fc)), (ok_, .inl (cI, 166400, .inl fk)), (oK, .inl (cI, 64, .inl fK)), (og, .inl (cI, 32, .inl fs)), (on_, .inl (cI, 32, .inl fn))] H := hP.sub [0, 1, 2, 3, 4, 5, 6, 7] rfl
  have hD9 : va_D A [(mo, .inr (8, [.int (iZ 2), .int (iZ (np : Int)), .ref ow, .ref om, .ref ok_, .ref oK, .ref og, .ref on_, .ref oh, .ref ox, .int qn, .int qf, .ref op_, .int ql])), (ow, .inl (cI, 108000, .inl fa)), (om, .inl (cI, 9, .inl fb)), (oh, .inl (cI, 10000, .inl fc)), (ok_, .inl (cI, 166400, .inl fk)), (oK, .inl (cI, 64, .inl fK)), (og, .inl (cI, 32, .inl fs)), (on_, .inl (cI, 32, .inl fn))] := hD.sub [0, 1, 2, 3, 4, 5, 6, 7] (by decide) rfl
  rw [hQ, ← hAe]
  refine r_i (v := (iZ 0)) K (fa, fb, fc, v9) hS d_Mo_add_8 ?_ (fun t ht hv => ?_)
  · exact ⟨rfl, w9⟩
  · exact ⟨by rw [ht]; exact hP9, va_K.moved hv hK, by rw [← hAe]; exact hD9⟩
set_option maxHeartbeats 4000000 in
set_option maxRecDepth 100000 in
/-- Mo_add refused with 1 -/
theorem r1_Mo_add (l : Launch) (D : va_G) (mo : Nat) (qc : Int32) (np : Nat) (ow : Nat) (om : Nat) (ok_ : Nat) (oK : Nat) (og : Nat) (on_ : Nat) (oh : Nat) (ox : Nat) (qn : Int32) (qf : Int32) (op_ : Nat) (ql : Int32) (zt : Int) (za : Int) (zb : Int) (sz : Nat) (hbad : (zt < 0 ∨ 32 ≤ zt) ∨ (za < 0 ∨ 32 ≤ za) ∨ (zb < 0 ∨ 32 ≤ zb)) (hrng : -2147483648 ≤ zt ∧ zt < 2147483648 ∧ -2147483648 ≤ za ∧ za < 2147483648 ∧ -2147483648 ≤ zb ∧ zb < 2147483648) : Met l y_Mo_add (wsB y_Mo_add b_Mo_add 4 (some .int)) ({ frames := 2, cells := 0, slots := 0, locals := 46 }) (va_Pc [.ref mo, .int (iZ zt), .int (iZ za), .int (iZ zb)] (wPre D [] [(mo, .inr (8, [.int qc, .int (iZ (np : Int)), .ref ow, .ref om, .ref ok_, .ref oK, .ref og, .ref on_, .ref oh, .ref ox, .int qn, .int qf, .ref op_, .int ql]))] sz)) (va_QV (fun (v_9 : Option Value) (u_9 : Unit) => v_9 = some (.int (iZ 0))) (fun u_9 => wPost D [] [(mo, .inr (8, [.int qc, .int (iZ (np : Int)), .ref ow, .ref om, .ref ok_, .ref oK, .ref og, .ref on_, .ref oh, .ref ox, .int qn, .int qf, .ref op_, .int ql]))] [(mo, .inr (8, [.int (iZ 1), .int (iZ (np : Int)), .ref ow, .ref om, .ref ok_, .ref oK, .ref og, .ref on_, .ref oh, .ref ox, .int qn, .int qf, .ref op_, .int ql]))] sz) (va_A [(mo, .inr (8, [.int qc, .int (iZ (np : Int)), .ref ow, .ref om, .ref ok_, .ref oK, .ref og, .ref on_, .ref oh, .ref ox, .int qn, .int qf, .ref op_, .int ql]))] sz)) 0 0 (va_A [(mo, .inr (8, [.int qc, .int (iZ (np : Int)), .ref ow, .ref om, .ref ok_, .ref oK, .ref og, .ref on_, .ref oh, .ref ox, .int qn, .int qf, .ref op_, .int ql]))] sz) := by
  refine met_enter (by decide +kernel) (Nat.le_of_ble_eq_true rfl) ?_
  intro p e s m args below meth c ls A R Q H locs K hin hAe hA hR hQ hP hK hD hS hl
  obtain ⟨hx, hb, hml, hrt, hlk, hts, hown, hno⟩ := id K
  have hl : lv_has ls 4 [(0, .ref mo), (1, .int (iZ zt)), (2, .int (iZ za)), (3, .int (iZ zb))] := hl
  refine lv_aload_n hx hb d_Mo_add_0 rfl (lv_at hl 0 rfl) ?_
  refine lv_iload_n hx hb d_Mo_add_1 rfl (lv_at hl 1 rfl) ?_
  refine lv_iload_n hx hb d_Mo_add_2 rfl (lv_at hl 2 rfl) ?_
  refine lv_iload_n hx hb d_Mo_add_3 rfl (lv_at hl 3 rfl) ?_
  refine lv_iconst (v := iZ (0)) hx hb d_Mo_add_4 (by decide +kernel) ?_
  refine cv (n := 4) (wr := []) (w1 := (fun (u : Unit) => [(mo, .inr (8, [.int (iZ 1), .int (iZ (np : Int)), .ref ow, .ref om, .ref ok_, .ref oK, .ref og, .ref on_, .ref oh, .ref ox, .int qn, .int qf, .ref op_, .int ql]))])) (As := [.int (iZ zt), .int (iZ za), .int (iZ zb), .int (iZ 0)]) (rest := []) K hP hD hK hS hA hl.1 (r1_Mo_sums l D mo qc np ow om ok_ oK og on_ oh ox qn qf op_ ql zt za zb 0 H.size hbad hrng) [0] [] [] rfl rfl rfl (by decide) (by decide) (by decide) 0 rfl rfl (big_in mw_1250 rfl) (big_in mw_10 rfl) (big_in mw_1247 rfl) (big_in mw_1249 rfl) (big_in sp_32 rfl) rfl rfl (by decide +kernel) ⟨by rw [hR]; exact Nat.le_of_ble_eq_true rfl, by rw [hR]; exact Nat.le_of_ble_eq_true rfl⟩ rfl (Nat.le_of_ble_eq_true rfl) d_Mo_add_5 ⟨by rw [hR]; exact Nat.le_of_ble_eq_true rfl, by rw [hR]; exact Nat.le_of_ble_eq_true rfl⟩ rfl (fun v u H locs hp1 hP hD hS _ => ?_)
  obtain rfl := hp1
  have hP : va_P D cls0 [(mo, .inr (8, [.int (iZ 1), .int (iZ (np : Int)), .ref ow, .ref om, .ref ok_, .ref oK, .ref og, .ref on_, .ref oh, .ref ox, .int qn, .int qf, .ref op_, .int ql]))] H := hP
  have hD : va_D A [(mo, .inr (8, [.int (iZ 1), .int (iZ (np : Int)), .ref ow, .ref om, .ref ok_, .ref oK, .ref og, .ref on_, .ref oh, .ref ox, .int qn, .int qf, .ref op_, .int ql]))] := hD
  show W p l e R s m args below meth c H locs _ _ Q (F0 m 8 ls [.int (iZ 0)])
  have hP9 : va_P D cls0 [(mo, .inr (8, [.int (iZ 1), .int (iZ (np : Int)), .ref ow, .ref om, .ref ok_, .ref oK, .ref og, .ref on_, .ref oh, .ref ox, .int qn, .int qf, .ref op_, .int ql]))] H := hP.sub [0] rfl
  have hD9 : va_D A [(mo, .inr (8, [.int (iZ 1), .int (iZ (np : Int)), .ref ow, .ref om, .ref ok_, .ref oK, .ref og, .ref on_, .ref oh, .ref ox, .int qn, .int qf, .ref op_, .int ql]))] := hD.sub [0] (by decide) rfl
  rw [hQ, ← hAe]
  refine r_i (v := (iZ 0)) K () hS d_Mo_add_8 ?_ (fun t ht hv => ?_)
  · exact rfl
  · exact ⟨by rw [ht]; exact hP9, va_K.moved hv hK, by rw [← hAe]; exact hD9⟩
set_option maxHeartbeats 4000000 in
set_option maxRecDepth 100000 in
theorem c_Mo_subtract (l : Launch) (D : va_G) (mo : Nat) (qc : Int32) (np : Nat) (ow : Nat) (om : Nat) (ok_ : Nat) (oK : Nat) (og : Nat) (on_ : Nat) (oh : Nat) (ox : Nat) (qn : Int32) (qf : Int32) (op_ : Nat) (ql : Int32) (fw : Nat → Int32) (fm : Nat → Int32) (cI : ClassId) (fh : Nat → Int32) (fk : Nat → Int32) (fK : Nat → Int32) (fs : Nat → Int32) (fn : Nat → Int32) (val : Nat → Nat) (tv : Nat → Nat) (bv : Nat → Nat) (sg : Nat → Int) (to : Nat) (a : Nat) (b_ : Nat) (sz : Nat) (hW : WB fw fm val) (hMR : MoR fk fK fs fn tv bv sg) (hnd : ndS tv bv 32 ≤ np) (hnp : np ≤ 1024) (J : RgC tv bv sg) (hbv : ∀ r, r < 32 → 0 < bv r) (t1 : to < 32) (t2 : a < 32) (t3_ : b_ < 32) (hfit : ndS tv bv 32 + (lm (rdN ((sg a * ((tv a * bv b_ : Nat) : Int) + -(sg b_) * ((tv b_ * bv a : Nat) : Int)).natAbs) (bv a * bv b_)) + lm (rdD ((sg a * ((tv a * bv b_ : Nat) : Int) + -(sg b_) * ((tv b_ * bv a : Nat) : Int)).natAbs) (bv a * bv b_))) ≤ np + (lm (tv to) + lm (bv to))) : Met l y_Mo_subtract (wsB y_Mo_subtract b_Mo_subtract 4 (some .int)) ({ frames := 6, cells := 0, slots := 0, locals := 150 }) (va_Pc [.ref mo, .int (iZ (to : Int)), .int (iZ (a : Int)), .int (iZ (b_ : Int))] (wPre D [(cI, .int)] [(mo, .inr (8, [.int qc, .int (iZ (np : Int)), .ref ow, .ref om, .ref ok_, .ref oK, .ref og, .ref on_, .ref oh, .ref ox, .int qn, .int qf, .ref op_, .int ql])), (ow, .inl (cI, 108000, .inl fw)), (om, .inl (cI, 9, .inl fm)), (oh, .inl (cI, 10000, .inl fh)), (ok_, .inl (cI, 166400, .inl fk)), (oK, .inl (cI, 64, .inl fK)), (og, .inl (cI, 32, .inl fs)), (on_, .inl (cI, 32, .inl fn))] sz)) (va_QV (fun (v_9 : Option Value) (u_9 : (Nat → Int32) × (Nat → Int32) × (Nat → Int32) × (Nat → Int32) × (Nat → Int32) × (Nat → Int32) × (Nat → Int32) × (Nat → Nat)) => v_9 = some (.int (iZ ((lm (rdN ((sg a * ((tv a * bv b_ : Nat) : Int) + -(sg b_) * ((tv b_ * bv a : Nat) : Int)).natAbs) (bv a * bv b_)) : Int) + (lm (rdD ((sg a * ((tv a * bv b_ : Nat) : Int) + -(sg b_) * ((tv b_ * bv a : Nat) : Int)).natAbs) (bv a * bv b_)) : Int)))) ∧ (WB u_9.1 u_9.2.1 u_9.2.2.2.2.2.2.2) ∧ (MoR u_9.2.2.2.1 u_9.2.2.2.2.1 u_9.2.2.2.2.2.1 u_9.2.2.2.2.2.2.1 (up tv to (rdN ((sg a * ((tv a * bv b_ : Nat) : Int) + -(sg b_) * ((tv b_ * bv a : Nat) : Int)).natAbs) (bv a * bv b_))) (up bv to (rdD ((sg a * ((tv a * bv b_ : Nat) : Int) + -(sg b_) * ((tv b_ * bv a : Nat) : Int)).natAbs) (bv a * bv b_))) (up sg to (if rdN ((sg a * ((tv a * bv b_ : Nat) : Int) + -(sg b_) * ((tv b_ * bv a : Nat) : Int)).natAbs) (bv a * bv b_) = 0 then 0 else (sg a * ((tv a * bv b_ : Nat) : Int) + -(sg b_) * ((tv b_ * bv a : Nat) : Int)).sign)))) (fun u_9 => wPost D [(cI, .int)] [(mo, .inr (8, [.int qc, .int (iZ (np : Int)), .ref ow, .ref om, .ref ok_, .ref oK, .ref og, .ref on_, .ref oh, .ref ox, .int qn, .int qf, .ref op_, .int ql])), (ow, .inl (cI, 108000, .inl fw)), (om, .inl (cI, 9, .inl fm)), (oh, .inl (cI, 10000, .inl fh)), (ok_, .inl (cI, 166400, .inl fk)), (oK, .inl (cI, 64, .inl fK)), (og, .inl (cI, 32, .inl fs)), (on_, .inl (cI, 32, .inl fn))] [(mo, .inr (8, [.int (iZ 0), .int (iZ (np : Int)), .ref ow, .ref om, .ref ok_, .ref oK, .ref og, .ref on_, .ref oh, .ref ox, .int qn, .int qf, .ref op_, .int ql])), (ow, .inl (cI, 108000, .inl u_9.1)), (om, .inl (cI, 9, .inl u_9.2.1)), (oh, .inl (cI, 10000, .inl u_9.2.2.1)), (ok_, .inl (cI, 166400, .inl u_9.2.2.2.1)), (oK, .inl (cI, 64, .inl u_9.2.2.2.2.1)), (og, .inl (cI, 32, .inl u_9.2.2.2.2.2.1)), (on_, .inl (cI, 32, .inl u_9.2.2.2.2.2.2.1))] sz) (va_A [(mo, .inr (8, [.int qc, .int (iZ (np : Int)), .ref ow, .ref om, .ref ok_, .ref oK, .ref og, .ref on_, .ref oh, .ref ox, .int qn, .int qf, .ref op_, .int ql])), (ow, .inl (cI, 108000, .inl fw)), (om, .inl (cI, 9, .inl fm)), (oh, .inl (cI, 10000, .inl fh)), (ok_, .inl (cI, 166400, .inl fk)), (oK, .inl (cI, 64, .inl fK)), (og, .inl (cI, 32, .inl fs)), (on_, .inl (cI, 32, .inl fn))] sz)) 0 0 (va_A [(mo, .inr (8, [.int qc, .int (iZ (np : Int)), .ref ow, .ref om, .ref ok_, .ref oK, .ref og, .ref on_, .ref oh, .ref ox, .int qn, .int qf, .ref op_, .int ql])), (ow, .inl (cI, 108000, .inl fw)), (om, .inl (cI, 9, .inl fm)), (oh, .inl (cI, 10000, .inl fh)), (ok_, .inl (cI, 166400, .inl fk)), (oK, .inl (cI, 64, .inl fK)), (og, .inl (cI, 32, .inl fs)), (on_, .inl (cI, 32, .inl fn))] sz) := by
  refine met_enter (by decide +kernel) (Nat.le_of_ble_eq_true rfl) ?_
  intro p e s m args below meth c ls A R Q H locs K hin hAe hA hR hQ hP hK hD hS hl
  obtain ⟨hx, hb, hml, hrt, hlk, hts, hown, hno⟩ := id K
  have hl : lv_has ls 4 [(0, .ref mo), (1, .int (iZ (to : Int))), (2, .int (iZ (a : Int))), (3, .int (iZ (b_ : Int)))] := hl
  refine lv_aload_n hx hb d_Mo_subtract_0 rfl (lv_at hl 0 rfl) ?_
  refine lv_iload_n hx hb d_Mo_subtract_1 rfl (lv_at hl 1 rfl) ?_
  refine lv_iload_n hx hb d_Mo_subtract_2 rfl (lv_at hl 2 rfl) ?_
  refine lv_iload_n hx hb d_Mo_subtract_3 rfl (lv_at hl 3 rfl) ?_
  refine lv_iconst (v := iZ (1)) hx hb d_Mo_subtract_4 (by decide +kernel) ?_
  refine cv (n := 4) (wr := []) (w1 := (fun (u : (Nat → Int32) × (Nat → Int32) × (Nat → Int32) × (Nat → Int32) × (Nat → Int32) × (Nat → Int32) × (Nat → Int32) × (Nat → Nat)) => [(mo, .inr (8, [.int (iZ 0), .int (iZ (np : Int)), .ref ow, .ref om, .ref ok_, .ref oK, .ref og, .ref on_, .ref oh, .ref ox, .int qn, .int qf, .ref op_, .int ql])), (ow, .inl (cI, 108000, .inl u.1)), (om, .inl (cI, 9, .inl u.2.1)), (oh, .inl (cI, 10000, .inl u.2.2.1)), (ok_, .inl (cI, 166400, .inl u.2.2.2.1)), (oK, .inl (cI, 64, .inl u.2.2.2.2.1)), (og, .inl (cI, 32, .inl u.2.2.2.2.2.1)), (on_, .inl (cI, 32, .inl u.2.2.2.2.2.2.1))])) (As := [.int (iZ (to : Int)), .int (iZ (a : Int)), .int (iZ (b_ : Int)), .int (iZ 1)]) (rest := []) K hP hD hK hS hA hl.1 (c_Mo_sums1 l D mo qc np ow om ok_ oK og on_ oh ox qn qf op_ ql fw fm cI fh fk fK fs fn val tv bv sg to a b_ H.size hW hMR hnd hnp J hbv t1 t2 t3_ hfit) [0, 1, 2, 3, 4, 5, 6, 7] [] [0] rfl rfl rfl (by decide) (by decide) (by decide) 0 rfl rfl (big_in mw_1250 rfl) (big_in mw_10 rfl) (big_in mw_1247 rfl) (big_in mw_1249 rfl) (big_in sp_32 rfl) rfl rfl (by decide +kernel) ⟨by rw [hR]; exact Nat.le_of_ble_eq_true rfl, by rw [hR]; exact Nat.le_of_ble_eq_true rfl⟩ rfl (Nat.le_of_ble_eq_true rfl) d_Mo_subtract_5 ⟨by rw [hR]; exact Nat.le_of_ble_eq_true rfl, by rw [hR]; exact Nat.le_of_ble_eq_true rfl⟩ rfl (fun v u H locs hp1 hP hD hS _ => ?_)
  obtain ⟨fa, fb, fc, fd, fe, ff, fg, v9⟩ := u
  try dsimp only at hp1
  obtain ⟨rfl, w9, q9⟩ := hp1
  have hP : va_P D cls0 [(mo, .inr (8, [.int (iZ 0), .int (iZ (np : Int)), .ref ow, .ref om, .ref ok_, .ref oK, .ref og, .ref on_, .ref oh, .ref ox, .int qn, .int qf, .ref op_, .int ql])), (ow, .inl (cI, 108000, .inl fa)), (om, .inl (cI, 9, .inl fb)), (oh, .inl (cI, 10000, .inl fc)), (ok_, .inl (cI, 166400, .inl fd)), (oK, .inl (cI, 64, .inl fe)), (og, .inl (cI, 32, .inl ff)), (on_, .inl (cI, 32, .inl fg))] H := hP
  have hD : va_D A [(mo, .inr (8, [.int (iZ 0), .int (iZ (np : Int)), .ref ow, .ref om, .ref ok_, .ref oK, .ref og, .ref on_, .ref oh, .ref ox, .int qn, .int qf, .ref op_, .int ql])), (ow, .inl (cI, 108000, .inl fa)), (om, .inl (cI, 9, .inl fb)), (oh, .inl (cI, 10000, .inl fc)), (ok_, .inl (cI, 166400, .inl fd)), (oK, .inl (cI, 64, .inl fe)), (og, .inl (cI, 32, .inl ff)), (on_, .inl (cI, 32, .inl fg))] := hD
  show W p l e R s m args below meth c H locs _ _ Q (F0 m 8 ls [.int (iZ ((lm (rdN ((sg a * ((tv a * bv b_ : Nat) : Int) + -(sg b_) * ((tv b_ * bv a : Nat) : Int)).natAbs) (bv a * bv b_)) : Int) + (lm (rdD ((sg a * ((tv a * bv b_ : Nat) : Int) + -(sg b_) * ((tv b_ * bv a : Nat) : Int)).natAbs) (bv a * bv b_)) : Int)))])
  have hP9 : va_P D cls0 [(mo, .inr (8, [.int (iZ 0), .int (iZ (np : Int)), .ref ow, .ref om, .ref ok_, .ref oK, .ref og, .ref on_, .ref oh, .ref ox, .int qn, .int qf, .ref op_, .int ql])), (ow, .inl (cI, 108000, .inl fa)), (om, .inl (cI, 9, .inl fb)), (oh, .inl (cI, 10000, .inl fc)), (ok_, .inl (cI, 166400, .inl fd)), (oK, .inl (cI, 64, .inl fe)), (og, .inl (cI, 32, .inl ff)), (on_, .inl (cI, 32, .inl fg))] H := hP.sub [0, 1, 2, 3, 4, 5, 6, 7] rfl
  have hD9 : va_D A [(mo, .inr (8, [.int (iZ 0), .int (iZ (np : Int)), .ref ow, .ref om, .ref ok_, .ref oK, .ref og, .ref on_, .ref oh, .ref ox, .int qn, .int qf, .ref op_, .int ql])), (ow, .inl (cI, 108000, .inl fa)), (om, .inl (cI, 9, .inl fb)), (oh, .inl (cI, 10000, .inl fc)), (ok_, .inl (cI, 166400, .inl fd)), (oK, .inl (cI, 64, .inl fe)), (og, .inl (cI, 32, .inl ff)), (on_, .inl (cI, 32, .inl fg))] := hD.sub [0, 1, 2, 3, 4, 5, 6, 7] (by decide) rfl
  rw [hQ, ← hAe]
  refine r_i (v := (iZ ((lm (rdN ((sg a * ((tv a * bv b_ : Nat) : Int) + -(sg b_) * ((tv b_ * bv a : Nat) : Int)).natAbs) (bv a * bv b_)) : Int) + (lm (rdD ((sg a * ((tv a * bv b_ : Nat) : Int) + -(sg b_) * ((tv b_ * bv a : Nat) : Int)).natAbs) (bv a * bv b_)) : Int)))) K (fa, fb, fc, fd, fe, ff, fg, v9) hS d_Mo_subtract_8 ?_ (fun t ht hv => ?_)
  · exact ⟨rfl, w9, q9⟩
  · exact ⟨by rw [ht]; exact hP9, va_K.moved hv hK, by rw [← hAe]; exact hD9⟩
set_option maxHeartbeats 4000000 in
set_option maxRecDepth 100000 in
theorem f_Mo_subtract (l : Launch) (D : va_G) (mo : Nat) (qc : Int32) (np : Nat) (ow : Nat) (om : Nat) (ok_ : Nat) (oK : Nat) (og : Nat) (on_ : Nat) (oh : Nat) (ox : Nat) (qn : Int32) (qf : Int32) (op_ : Nat) (ql : Int32) (fw : Nat → Int32) (fm : Nat → Int32) (cI : ClassId) (fh : Nat → Int32) (fk : Nat → Int32) (fK : Nat → Int32) (fs : Nat → Int32) (fn : Nat → Int32) (val : Nat → Nat) (tv : Nat → Nat) (bv : Nat → Nat) (sg : Nat → Int) (to : Nat) (a : Nat) (b_ : Nat) (sz : Nat) (hW : WB fw fm val) (hMR : MoR fk fK fs fn tv bv sg) (hnd : ndS tv bv 32 ≤ np) (hnp : np ≤ 1024) (J : RgC tv bv sg) (hbv : ∀ r, r < 32 → 0 < bv r) (t1 : to < 32) (t2 : a < 32) (t3_ : b_ < 32) (hfit : np + (lm (tv to) + lm (bv to)) < ndS tv bv 32 + (lm (rdN ((sg a * ((tv a * bv b_ : Nat) : Int) + -(sg b_) * ((tv b_ * bv a : Nat) : Int)).natAbs) (bv a * bv b_)) + lm (rdD ((sg a * ((tv a * bv b_ : Nat) : Int) + -(sg b_) * ((tv b_ * bv a : Nat) : Int)).natAbs) (bv a * bv b_)))) : Met l y_Mo_subtract (wsB y_Mo_subtract b_Mo_subtract 4 (some .int)) ({ frames := 6, cells := 0, slots := 0, locals := 150 }) (va_Pc [.ref mo, .int (iZ (to : Int)), .int (iZ (a : Int)), .int (iZ (b_ : Int))] (wPre D [(cI, .int)] [(mo, .inr (8, [.int qc, .int (iZ (np : Int)), .ref ow, .ref om, .ref ok_, .ref oK, .ref og, .ref on_, .ref oh, .ref ox, .int qn, .int qf, .ref op_, .int ql])), (ow, .inl (cI, 108000, .inl fw)), (om, .inl (cI, 9, .inl fm)), (oh, .inl (cI, 10000, .inl fh)), (ok_, .inl (cI, 166400, .inl fk)), (oK, .inl (cI, 64, .inl fK)), (og, .inl (cI, 32, .inl fs)), (on_, .inl (cI, 32, .inl fn))] sz)) (va_QV (fun (v_9 : Option Value) (u_9 : (Nat → Int32) × (Nat → Int32) × (Nat → Int32) × (Nat → Nat)) => v_9 = some (.int (iZ 0)) ∧ (WB u_9.1 u_9.2.1 u_9.2.2.2)) (fun u_9 => wPost D [(cI, .int)] [(mo, .inr (8, [.int qc, .int (iZ (np : Int)), .ref ow, .ref om, .ref ok_, .ref oK, .ref og, .ref on_, .ref oh, .ref ox, .int qn, .int qf, .ref op_, .int ql])), (ow, .inl (cI, 108000, .inl fw)), (om, .inl (cI, 9, .inl fm)), (oh, .inl (cI, 10000, .inl fh)), (ok_, .inl (cI, 166400, .inl fk)), (oK, .inl (cI, 64, .inl fK)), (og, .inl (cI, 32, .inl fs)), (on_, .inl (cI, 32, .inl fn))] [(mo, .inr (8, [.int (iZ 2), .int (iZ (np : Int)), .ref ow, .ref om, .ref ok_, .ref oK, .ref og, .ref on_, .ref oh, .ref ox, .int qn, .int qf, .ref op_, .int ql])), (ow, .inl (cI, 108000, .inl u_9.1)), (om, .inl (cI, 9, .inl u_9.2.1)), (oh, .inl (cI, 10000, .inl u_9.2.2.1)), (ok_, .inl (cI, 166400, .inl fk)), (oK, .inl (cI, 64, .inl fK)), (og, .inl (cI, 32, .inl fs)), (on_, .inl (cI, 32, .inl fn))] sz) (va_A [(mo, .inr (8, [.int qc, .int (iZ (np : Int)), .ref ow, .ref om, .ref ok_, .ref oK, .ref og, .ref on_, .ref oh, .ref ox, .int qn, .int qf, .ref op_, .int ql])), (ow, .inl (cI, 108000, .inl fw)), (om, .inl (cI, 9, .inl fm)), (oh, .inl (cI, 10000, .inl fh)), (ok_, .inl (cI, 166400, .inl fk)), (oK, .inl (cI, 64, .inl fK)), (og, .inl (cI, 32, .inl fs)), (on_, .inl (cI, 32, .inl fn))] sz)) 0 0 (va_A [(mo, .inr (8, [.int qc, .int (iZ (np : Int)), .ref ow, .ref om, .ref ok_, .ref oK, .ref og, .ref on_, .ref oh, .ref ox, .int qn, .int qf, .ref op_, .int ql])), (ow, .inl (cI, 108000, .inl fw)), (om, .inl (cI, 9, .inl fm)), (oh, .inl (cI, 10000, .inl fh)), (ok_, .inl (cI, 166400, .inl fk)), (oK, .inl (cI, 64, .inl fK)), (og, .inl (cI, 32, .inl fs)), (on_, .inl (cI, 32, .inl fn))] sz) := by
  refine met_enter (by decide +kernel) (Nat.le_of_ble_eq_true rfl) ?_
  intro p e s m args below meth c ls A R Q H locs K hin hAe hA hR hQ hP hK hD hS hl
  obtain ⟨hx, hb, hml, hrt, hlk, hts, hown, hno⟩ := id K
  have hl : lv_has ls 4 [(0, .ref mo), (1, .int (iZ (to : Int))), (2, .int (iZ (a : Int))), (3, .int (iZ (b_ : Int)))] := hl
  refine lv_aload_n hx hb d_Mo_subtract_0 rfl (lv_at hl 0 rfl) ?_
  refine lv_iload_n hx hb d_Mo_subtract_1 rfl (lv_at hl 1 rfl) ?_
  refine lv_iload_n hx hb d_Mo_subtract_2 rfl (lv_at hl 2 rfl) ?_
  refine lv_iload_n hx hb d_Mo_subtract_3 rfl (lv_at hl 3 rfl) ?_
  refine lv_iconst (v := iZ (1)) hx hb d_Mo_subtract_4 (by decide +kernel) ?_
  refine cv (n := 4) (wr := []) (w1 := (fun (u : (Nat → Int32) × (Nat → Int32) × (Nat → Int32) × (Nat → Nat)) => [(mo, .inr (8, [.int (iZ 2), .int (iZ (np : Int)), .ref ow, .ref om, .ref ok_, .ref oK, .ref og, .ref on_, .ref oh, .ref ox, .int qn, .int qf, .ref op_, .int ql])), (ow, .inl (cI, 108000, .inl u.1)), (om, .inl (cI, 9, .inl u.2.1)), (oh, .inl (cI, 10000, .inl u.2.2.1)), (ok_, .inl (cI, 166400, .inl fk)), (oK, .inl (cI, 64, .inl fK)), (og, .inl (cI, 32, .inl fs)), (on_, .inl (cI, 32, .inl fn))])) (As := [.int (iZ (to : Int)), .int (iZ (a : Int)), .int (iZ (b_ : Int)), .int (iZ 1)]) (rest := []) K hP hD hK hS hA hl.1 (f_Mo_sums1 l D mo qc np ow om ok_ oK og on_ oh ox qn qf op_ ql fw fm cI fh fk fK fs fn val tv bv sg to a b_ H.size hW hMR hnd hnp J hbv t1 t2 t3_ hfit) [0, 1, 2, 3, 4, 5, 6, 7] [] [0] rfl rfl rfl (by decide) (by decide) (by decide) 0 rfl rfl (big_in mw_1250 rfl) (big_in mw_10 rfl) (big_in mw_1247 rfl) (big_in mw_1249 rfl) (big_in sp_32 rfl) rfl rfl (by decide +kernel) ⟨by rw [hR]; exact Nat.le_of_ble_eq_true rfl, by rw [hR]; exact Nat.le_of_ble_eq_true rfl⟩ rfl (Nat.le_of_ble_eq_true rfl) d_Mo_subtract_5 ⟨by rw [hR]; exact Nat.le_of_ble_eq_true rfl, by rw [hR]; exact Nat.le_of_ble_eq_true rfl⟩ rfl (fun v u H locs hp1 hP hD hS _ => ?_)
  obtain ⟨fa, fb, fc, v9⟩ := u
  try dsimp only at hp1
  obtain ⟨rfl, w9⟩ := hp1
  have hP : va_P D cls0 [(mo, .inr (8, [.int (iZ 2), .int (iZ (np : Int)), .ref ow, .ref om, .ref ok_, .ref oK, .ref og, .ref on_, .ref oh, .ref ox, .int qn, .int qf, .ref op_, .int ql])), (ow, .inl (cI, 108000, .inl fa)), (om, .inl (cI, 9, .inl fb)), (oh, .inl (cI, 10000, .inl fc)), (ok_, .inl (cI, 166400, .inl fk)), (oK, .inl (cI, 64, .inl fK)), (og, .inl (cI, 32, .inl fs)), (on_, .inl (cI, 32, .inl fn))] H := hP
  have hD : va_D A [(mo, .inr (8, [.int (iZ 2), .int (iZ (np : Int)), .ref ow, .ref om, .ref ok_, .ref oK, .ref og, .ref on_, .ref oh, .ref ox, .int qn, .int qf, .ref op_, .int ql])), (ow, .inl (cI, 108000, .inl fa)), (om, .inl (cI, 9, .inl fb)), (oh, .inl (cI, 10000, .inl fc)), (ok_, .inl (cI, 166400, .inl fk)), (oK, .inl (cI, 64, .inl fK)), (og, .inl (cI, 32, .inl fs)), (on_, .inl (cI, 32, .inl fn))] := hD
  show W p l e R s m args below meth c H locs _ _ Q (F0 m 8 ls [.int (iZ 0)])
  have hP9 : va_P D cls0 [(mo, .inr (8, [.int (iZ 2), .int (iZ (np : Int)), .ref ow, .ref om, .ref ok_, .ref oK, .ref og, .ref on_, .ref oh, .ref ox, .int qn, .int qf, .ref op_, .int ql])), (ow, .inl (cI, 108000, .inl fa)), (om, .inl (cI, 9, .inl fb)), (oh, .inl (cI, 10000, .inl fc)), (ok_, .inl (cI, 166400, .inl fk)), (oK, .inl (cI, 64, .inl fK)), (og, .inl (cI, 32, .inl fs)), (on_, .inl (cI, 32, .inl fn))] H := hP.sub [0, 1, 2, 3, 4, 5, 6, 7] rfl
  have hD9 : va_D A [(mo, .inr (8, [.int (iZ 2), .int (iZ (np : Int)), .ref ow, .ref om, .ref ok_, .ref oK, .ref og, .ref on_, .ref oh, .ref ox, .int qn, .int qf, .ref op_, .int ql])), (ow, .inl (cI, 108000, .inl fa)), (om, .inl (cI, 9, .inl fb)), (oh, .inl (cI, 10000, .inl fc)), (ok_, .inl (cI, 166400, .inl fk)), (oK, .inl (cI, 64, .inl fK)), (og, .inl (cI, 32, .inl fs)), (on_, .inl (cI, 32, .inl fn))] := hD.sub [0, 1, 2, 3, 4, 5, 6, 7] (by decide) rfl
  rw [hQ, ← hAe]
  refine r_i (v := (iZ 0)) K (fa, fb, fc, v9) hS d_Mo_subtract_8 ?_ (fun t ht hv => ?_)
  · exact ⟨rfl, w9⟩
  · exact ⟨by rw [ht]; exact hP9, va_K.moved hv hK, by rw [← hAe]; exact hD9⟩
set_option maxHeartbeats 4000000 in
set_option maxRecDepth 100000 in
/-- Mo_subtract refused with 1 -/
theorem r1_Mo_subtract (l : Launch) (D : va_G) (mo : Nat) (qc : Int32) (np : Nat) (ow : Nat) (om : Nat) (ok_ : Nat) (oK : Nat) (og : Nat) (on_ : Nat) (oh : Nat) (ox : Nat) (qn : Int32) (qf : Int32) (op_ : Nat) (ql : Int32) (zt : Int) (za : Int) (zb : Int) (sz : Nat) (hbad : (zt < 0 ∨ 32 ≤ zt) ∨ (za < 0 ∨ 32 ≤ za) ∨ (zb < 0 ∨ 32 ≤ zb)) (hrng : -2147483648 ≤ zt ∧ zt < 2147483648 ∧ -2147483648 ≤ za ∧ za < 2147483648 ∧ -2147483648 ≤ zb ∧ zb < 2147483648) : Met l y_Mo_subtract (wsB y_Mo_subtract b_Mo_subtract 4 (some .int)) ({ frames := 2, cells := 0, slots := 0, locals := 46 }) (va_Pc [.ref mo, .int (iZ zt), .int (iZ za), .int (iZ zb)] (wPre D [] [(mo, .inr (8, [.int qc, .int (iZ (np : Int)), .ref ow, .ref om, .ref ok_, .ref oK, .ref og, .ref on_, .ref oh, .ref ox, .int qn, .int qf, .ref op_, .int ql]))] sz)) (va_QV (fun (v_9 : Option Value) (u_9 : Unit) => v_9 = some (.int (iZ 0))) (fun u_9 => wPost D [] [(mo, .inr (8, [.int qc, .int (iZ (np : Int)), .ref ow, .ref om, .ref ok_, .ref oK, .ref og, .ref on_, .ref oh, .ref ox, .int qn, .int qf, .ref op_, .int ql]))] [(mo, .inr (8, [.int (iZ 1), .int (iZ (np : Int)), .ref ow, .ref om, .ref ok_, .ref oK, .ref og, .ref on_, .ref oh, .ref ox, .int qn, .int qf, .ref op_, .int ql]))] sz) (va_A [(mo, .inr (8, [.int qc, .int (iZ (np : Int)), .ref ow, .ref om, .ref ok_, .ref oK, .ref og, .ref on_, .ref oh, .ref ox, .int qn, .int qf, .ref op_, .int ql]))] sz)) 0 0 (va_A [(mo, .inr (8, [.int qc, .int (iZ (np : Int)), .ref ow, .ref om, .ref ok_, .ref oK, .ref og, .ref on_, .ref oh, .ref ox, .int qn, .int qf, .ref op_, .int ql]))] sz) := by
  refine met_enter (by decide +kernel) (Nat.le_of_ble_eq_true rfl) ?_
  intro p e s m args below meth c ls A R Q H locs K hin hAe hA hR hQ hP hK hD hS hl
  obtain ⟨hx, hb, hml, hrt, hlk, hts, hown, hno⟩ := id K
  have hl : lv_has ls 4 [(0, .ref mo), (1, .int (iZ zt)), (2, .int (iZ za)), (3, .int (iZ zb))] := hl
  refine lv_aload_n hx hb d_Mo_subtract_0 rfl (lv_at hl 0 rfl) ?_
  refine lv_iload_n hx hb d_Mo_subtract_1 rfl (lv_at hl 1 rfl) ?_
  refine lv_iload_n hx hb d_Mo_subtract_2 rfl (lv_at hl 2 rfl) ?_
  refine lv_iload_n hx hb d_Mo_subtract_3 rfl (lv_at hl 3 rfl) ?_
  refine lv_iconst (v := iZ (1)) hx hb d_Mo_subtract_4 (by decide +kernel) ?_
  refine cv (n := 4) (wr := []) (w1 := (fun (u : Unit) => [(mo, .inr (8, [.int (iZ 1), .int (iZ (np : Int)), .ref ow, .ref om, .ref ok_, .ref oK, .ref og, .ref on_, .ref oh, .ref ox, .int qn, .int qf, .ref op_, .int ql]))])) (As := [.int (iZ zt), .int (iZ za), .int (iZ zb), .int (iZ 1)]) (rest := []) K hP hD hK hS hA hl.1 (r1_Mo_sums l D mo qc np ow om ok_ oK og on_ oh ox qn qf op_ ql zt za zb 1 H.size hbad hrng) [0] [] [] rfl rfl rfl (by decide) (by decide) (by decide) 0 rfl rfl (big_in mw_1250 rfl) (big_in mw_10 rfl) (big_in mw_1247 rfl) (big_in mw_1249 rfl) (big_in sp_32 rfl) rfl rfl (by decide +kernel) ⟨by rw [hR]; exact Nat.le_of_ble_eq_true rfl, by rw [hR]; exact Nat.le_of_ble_eq_true rfl⟩ rfl (Nat.le_of_ble_eq_true rfl) d_Mo_subtract_5 ⟨by rw [hR]; exact Nat.le_of_ble_eq_true rfl, by rw [hR]; exact Nat.le_of_ble_eq_true rfl⟩ rfl (fun v u H locs hp1 hP hD hS _ => ?_)
  obtain rfl := hp1
  have hP : va_P D cls0 [(mo, .inr (8, [.int (iZ 1), .int (iZ (np : Int)), .ref ow, .ref om, .ref ok_, .ref oK, .ref og, .ref on_, .ref oh, .ref ox, .int qn, .int qf, .ref op_, .int ql]))] H := hP
  have hD : va_D A [(mo, .inr (8, [.int (iZ 1), .int (iZ (np : Int)), .ref ow, .ref om, .ref ok_, .ref oK, .ref og, .ref on_, .ref oh, .ref ox, .int qn, .int qf, .ref op_, .int ql]))] := hD
  show W p l e R s m args below meth c H locs _ _ Q (F0 m 8 ls [.int (iZ 0)])
  have hP9 : va_P D cls0 [(mo, .inr (8, [.int (iZ 1), .int (iZ (np : Int)), .ref ow, .ref om, .ref ok_, .ref oK, .ref og, .ref on_, .ref oh, .ref ox, .int qn, .int qf, .ref op_, .int ql]))] H := hP.sub [0] rfl
  have hD9 : va_D A [(mo, .inr (8, [.int (iZ 1), .int (iZ (np : Int)), .ref ow, .ref om, .ref ok_, .ref oK, .ref og, .ref on_, .ref oh, .ref ox, .int qn, .int qf, .ref op_, .int ql]))] := hD.sub [0] (by decide) rfl
  rw [hQ, ← hAe]
  refine r_i (v := (iZ 0)) K () hS d_Mo_subtract_8 ?_ (fun t ht hv => ?_)
  · exact rfl
  · exact ⟨by rw [ht]; exact hP9, va_K.moved hv hK, by rw [← hAe]; exact hD9⟩
set_option maxHeartbeats 4000000 in
set_option maxRecDepth 100000 in
/-- Mo_products -/
theorem c_Mo_products0 (l : Launch) (D : va_G) (mo : Nat) (qc : Int32) (np : Nat) (ow : Nat) (om : Nat) (ok_ : Nat) (oK : Nat) (og : Nat) (on_ : Nat) (oh : Nat) (ox : Nat) (qn : Int32) (qf : Int32) (op_ : Nat) (ql : Int32) (fw : Nat → Int32) (fm : Nat → Int32) (cI : ClassId) (fh : Nat → Int32) (fk : Nat → Int32) (fK : Nat → Int32) (fs : Nat → Int32) (fn : Nat → Int32) (val : Nat → Nat) (tv : Nat → Nat) (bv : Nat → Nat) (sg : Nat → Int) (to : Nat) (a : Nat) (b_ : Nat) (sz : Nat) (hW : WB fw fm val) (hMR : MoR fk fK fs fn tv bv sg) (hnd : ndS tv bv 32 ≤ np) (hnp : np ≤ 1024) (J : RgC tv bv sg) (hbv : ∀ r, r < 32 → 0 < bv r) (t1 : to < 32) (t2 : a < 32) (t3_ : b_ < 32) (hfit : ndS tv bv 32 + (lm (rdN (tv a * tv b_) (bv a * bv b_)) + lm (rdD (tv a * tv b_) (bv a * bv b_))) ≤ np + (lm (tv to) + lm (bv to))) : Met l y_Mo_products (wsB y_Mo_products b_Mo_products 5 (some .int)) ({ frames := 5, cells := 0, slots := 0, locals := 125 }) (va_Pc [.ref mo, .int (iZ (to : Int)), .int (iZ (a : Int)), .int (iZ (b_ : Int)), .int (iZ 0)] (wPre D [(cI, .int)] [(mo, .inr (8, [.int qc, .int (iZ (np : Int)), .ref ow, .ref om, .ref ok_, .ref oK, .ref og, .ref on_, .ref oh, .ref ox, .int qn, .int qf, .ref op_, .int ql])), (ow, .inl (cI, 108000, .inl fw)), (om, .inl (cI, 9, .inl fm)), (oh, .inl (cI, 10000, .inl fh)), (ok_, .inl (cI, 166400, .inl fk)), (oK, .inl (cI, 64, .inl fK)), (og, .inl (cI, 32, .inl fs)), (on_, .inl (cI, 32, .inl fn))] sz)) (va_QV (fun (v_9 : Option Value) (u_9 : (Nat → Int32) × (Nat → Int32) × (Nat → Int32) × (Nat → Int32) × (Nat → Int32) × (Nat → Int32) × (Nat → Int32) × (Nat → Nat)) => v_9 = some (.int (iZ ((lm (rdN (tv a * tv b_) (bv a * bv b_)) : Int) + (lm (rdD (tv a * tv b_) (bv a * bv b_)) : Int)))) ∧ (WB u_9.1 u_9.2.1 u_9.2.2.2.2.2.2.2) ∧ (MoR u_9.2.2.2.1 u_9.2.2.2.2.1 u_9.2.2.2.2.2.1 u_9.2.2.2.2.2.2.1 (up tv to (rdN (tv a * tv b_) (bv a * bv b_))) (up bv to (rdD (tv a * tv b_) (bv a * bv b_))) (up sg to (if rdN (tv a * tv b_) (bv a * bv b_) = 0 then 0 else sg a * sg b_)))) (fun u_9 => wPost D [(cI, .int)] [(mo, .inr (8, [.int qc, .int (iZ (np : Int)), .ref ow, .ref om, .ref ok_, .ref oK, .ref og, .ref on_, .ref oh, .ref ox, .int qn, .int qf, .ref op_, .int ql])), (ow, .inl (cI, 108000, .inl fw)), (om, .inl (cI, 9, .inl fm)), (oh, .inl (cI, 10000, .inl fh)), (ok_, .inl (cI, 166400, .inl fk)), (oK, .inl (cI, 64, .inl fK)), (og, .inl (cI, 32, .inl fs)), (on_, .inl (cI, 32, .inl fn))] [(mo, .inr (8, [.int (iZ 0), .int (iZ (np : Int)), .ref ow, .ref om, .ref ok_, .ref oK, .ref og, .ref on_, .ref oh, .ref ox, .int qn, .int qf, .ref op_, .int ql])), (ow, .inl (cI, 108000, .inl u_9.1)), (om, .inl (cI, 9, .inl u_9.2.1)), (oh, .inl (cI, 10000, .inl u_9.2.2.1)), (ok_, .inl (cI, 166400, .inl u_9.2.2.2.1)), (oK, .inl (cI, 64, .inl u_9.2.2.2.2.1)), (og, .inl (cI, 32, .inl u_9.2.2.2.2.2.1)), (on_, .inl (cI, 32, .inl u_9.2.2.2.2.2.2.1))] sz) (va_A [(mo, .inr (8, [.int qc, .int (iZ (np : Int)), .ref ow, .ref om, .ref ok_, .ref oK, .ref og, .ref on_, .ref oh, .ref ox, .int qn, .int qf, .ref op_, .int ql])), (ow, .inl (cI, 108000, .inl fw)), (om, .inl (cI, 9, .inl fm)), (oh, .inl (cI, 10000, .inl fh)), (ok_, .inl (cI, 166400, .inl fk)), (oK, .inl (cI, 64, .inl fK)), (og, .inl (cI, 32, .inl fs)), (on_, .inl (cI, 32, .inl fn))] sz)) 0 0 (va_A [(mo, .inr (8, [.int qc, .int (iZ (np : Int)), .ref ow, .ref om, .ref ok_, .ref oK, .ref og, .ref on_, .ref oh, .ref ox, .int qn, .int qf, .ref op_, .int ql])), (ow, .inl (cI, 108000, .inl fw)), (om, .inl (cI, 9, .inl fm)), (oh, .inl (cI, 10000, .inl fh)), (ok_, .inl (cI, 166400, .inl fk)), (oK, .inl (cI, 64, .inl fK)), (og, .inl (cI, 32, .inl fs)), (on_, .inl (cI, 32, .inl fn))] sz) := by
  refine met_enter (by decide +kernel) (Nat.le_of_ble_eq_true rfl) ?_
  intro p e s m args below meth c ls A R Q H locs K hin hAe hA hR hQ hP hK hD hS hl
  obtain ⟨hx, hb, hml, hrt, hlk, hts, hown, hno⟩ := id K
  have hl : lv_has ls 5 [(0, .ref mo), (1, .int (iZ (to : Int))), (2, .int (iZ (a : Int))), (3, .int (iZ (b_ : Int))), (4, .int (iZ 0))] := hl
  have hlr : ∀ q, q < 32 → lm (tv q) + lm (bv q) ≤ 1024 := fun q hq => by have z := ndS_le (tv := tv) (bv := bv) hq; omega
  have hnt : ∀ q, q < 32 → nd (tv q) ≤ 2600 := fun q hq => by have z := nd_lm (v := tv q) (L := 1024) (by have y := hlr q hq; omega); omega
  have hnb : ∀ q, q < 32 → nd (bv q) ≤ 2600 := fun q hq => by have z := nd_lm (v := bv q) (L := 1024) (by have y := hlr q hq; omega); omega
  obtain ⟨ja1, ja2, ja3⟩ := J a (by omega)
  obtain ⟨jb1, jb2, jb3⟩ := J b_ (by omega)
  have pa := hbv a (by omega)
  have pb := hbv b_ (by omega)
  have la := hlr a (by omega)
  have lb := hlr b_ (by omega)
  have n1 := hnt a (by omega)
  have n2 := hnb a (by omega)
  have n3 := hnt b_ (by omega)
  have n4 := hnb b_ (by omega)
  refine lv_aload_n hx hb d_Mo_products_0 rfl (lv_at hl 0 rfl) ?_
  refine lv_iconst (v := iZ (4)) hx hb d_Mo_products_1 (by decide +kernel) ?_
  refine lv_iconst (v := iZ (2)) hx hb d_Mo_products_2 (by decide +kernel) ?_
  refine lv_iload_n hx hb d_Mo_products_3 rfl (lv_at hl 2 rfl) ?_
  refine zz_imul hx hb d_Mo_products_4 ?_
  rw [show (2 * (a : Int) : Int) = ((2 * a : Nat) : Int) by omega]
  refine cv (n := 2) (wr := [(oh, .inl (cI, 10000, .inl fh)), (og, .inl (cI, 32, .inl fs)), (on_, .inl (cI, 32, .inl fn))]) (w1 := (fun (u : (Nat → Int32) × (Nat → Int32)) => [(mo, .inr (8, [.int qc, .int (iZ (np : Int)), .ref ow, .ref om, .ref ok_, .ref oK, .ref og, .ref on_, .ref oh, .ref ox, .int qn, .int qf, .ref op_, .int ql])), (ow, .inl (cI, 108000, .inl u.1)), (om, .inl (cI, 9, .inl u.2)), (ok_, .inl (cI, 166400, .inl fk)), (oK, .inl (cI, 64, .inl fK))])) (As := [.int (iZ 4), .int (iZ ((2 * a : Nat) : Int))]) (rest := []) K hP hD hK hS hA hl.1 (c_Mo_load l D mo qc np ow om ok_ oK og on_ oh ox qn qf op_ ql fw fm cI fk fK val (kvf tv bv) 4 (2 * a) H.size hW hMR.1 (by decide) (by omega)) [0, 1, 2, 4, 5] [3, 6, 7] [0] rfl rfl rfl (by decide) (by decide) (by decide) 0 rfl rfl (big_in mw_1238 rfl) (big_in mw_10 rfl) (big_in mw_1235 rfl) (big_in mw_1237 rfl) (big_in sp_31 rfl) rfl rfl (by decide +kernel) ⟨by rw [hR]; exact Nat.le_of_ble_eq_true rfl, by rw [hR]; exact Nat.le_of_ble_eq_true rfl⟩ rfl (Nat.le_of_ble_eq_true rfl) d_Mo_products_5 ⟨by rw [hR]; exact Nat.le_of_ble_eq_true rfl, by rw [hR]; exact Nat.le_of_ble_eq_true rfl⟩ rfl (fun v u H locs hp1 hP hD hS _ => ?_)
  obtain ⟨fx1, fy1⟩ := u
  try dsimp only at hp1
  obtain ⟨rfl, w1⟩ := hp1
  have hP : va_P D cls0 [(oh, .inl (cI, 10000, .inl fh)), (og, .inl (cI, 32, .inl fs)), (on_, .inl (cI, 32, .inl fn)), (mo, .inr (8, [.int qc, .int (iZ (np : Int)), .ref ow, .ref om, .ref ok_, .ref oK, .ref og, .ref on_, .ref oh, .ref ox, .int qn, .int qf, .ref op_, .int ql])), (ow, .inl (cI, 108000, .inl fx1)), (om, .inl (cI, 9, .inl fy1)), (ok_, .inl (cI, 166400, .inl fk)), (oK, .inl (cI, 64, .inl fK))] H := hP
  have hD : va_D A [(oh, .inl (cI, 10000, .inl fh)), (og, .inl (cI, 32, .inl fs)), (on_, .inl (cI, 32, .inl fn)), (mo, .inr (8, [.int qc, .int (iZ (np : Int)), .ref ow, .ref om, .ref ok_, .ref oK, .ref og, .ref on_, .ref oh, .ref ox, .int qn, .int qf, .ref op_, .int ql])), (ow, .inl (cI, 108000, .inl fx1)), (om, .inl (cI, 9, .inl fy1)), (ok_, .inl (cI, 166400, .inl fk)), (oK, .inl (cI, 64, .inl fK))] := hD
  show W p l e R s m args below meth c H locs _ _ Q (F0 m 8 ls [])
  rw [kvf_0] at w1
  obtain ⟨v1, hv1⟩ : ∃ z, z = up val 4 (tv a) := ⟨_, rfl⟩
  rw [← hv1] at w1
  refine lv_aload_n hx hb d_Mo_products_8 rfl (lv_at hl 0 rfl) ?_
  refine lv_iconst (v := iZ (5)) hx hb d_Mo_products_9 (by decide +kernel) ?_
  refine lv_iconst (v := iZ (2)) hx hb d_Mo_products_10 (by decide +kernel) ?_
  refine lv_iload_n hx hb d_Mo_products_11 rfl (lv_at hl 3 rfl) ?_
  refine zz_imul hx hb d_Mo_products_12 ?_
  refine lv_iload hx hb d_Mo_products_13 (lv_at hl 4 rfl) ?_
  refine zz_if_eq (tgt := 22) hx hb d_Mo_products_15 (by decide) (by omega) (fun c15 => ?_) (fun c15 => False.elim (by omega))
  refine lv_iconst (v := iZ (0)) hx hb d_Mo_products_22 (by decide +kernel) ?_
  refine zz_iadd hx hb d_Mo_products_23 ?_
  rw [show (2 * (b_ : Int) + 0 : Int) = ((2 * b_ : Nat) : Int) by omega]
  refine cv (n := 2) (wr := [(oh, .inl (cI, 10000, .inl fh)), (og, .inl (cI, 32, .inl fs)), (on_, .inl (cI, 32, .inl fn))]) (w1 := (fun (u : (Nat → Int32) × (Nat → Int32)) => [(mo, .inr (8, [.int qc, .int (iZ (np : Int)), .ref ow, .ref om, .ref ok_, .ref oK, .ref og, .ref on_, .ref oh, .ref ox, .int qn, .int qf, .ref op_, .int ql])), (ow, .inl (cI, 108000, .inl u.1)), (om, .inl (cI, 9, .inl u.2)), (ok_, .inl (cI, 166400, .inl fk)), (oK, .inl (cI, 64, .inl fK))])) (As := [.int (iZ 5), .int (iZ ((2 * b_ : Nat) : Int))]) (rest := []) K hP hD hK hS hA hl.1 (c_Mo_load l D mo qc np ow om ok_ oK og on_ oh ox qn qf op_ ql fx1 fy1 cI fk fK v1 (kvf tv bv) 5 (2 * b_) H.size w1 hMR.1 (by decide) (by omega)) [3, 4, 5, 6, 7] [0, 1, 2] [0] rfl rfl rfl (by decide) (by decide) (by decide) 0 rfl rfl (big_in mw_1238 rfl) (big_in mw_10 rfl) (big_in mw_1235 rfl) (big_in mw_1237 rfl) (big_in sp_31 rfl) rfl rfl (by decide +kernel) ⟨by rw [hR]; exact Nat.le_of_ble_eq_true rfl, by rw [hR]; exact Nat.le_of_ble_eq_true rfl⟩ rfl (Nat.le_of_ble_eq_true rfl) d_Mo_products_24 ⟨by rw [hR]; exact Nat.le_of_ble_eq_true rfl, by rw [hR]; exact Nat.le_of_ble_eq_true rfl⟩ rfl (fun v u H locs hp2 hP hD hS _ => ?_)
  obtain ⟨fx2, fy2⟩ := u
  try dsimp only at hp2
  obtain ⟨rfl, w2⟩ := hp2
  have hP : va_P D cls0 [(oh, .inl (cI, 10000, .inl fh)), (og, .inl (cI, 32, .inl fs)), (on_, .inl (cI, 32, .inl fn)), (mo, .inr (8, [.int qc, .int (iZ (np : Int)), .ref ow, .ref om, .ref ok_, .ref oK, .ref og, .ref on_, .ref oh, .ref ox, .int qn, .int qf, .ref op_, .int ql])), (ow, .inl (cI, 108000, .inl fx2)), (om, .inl (cI, 9, .inl fy2)), (ok_, .inl (cI, 166400, .inl fk)), (oK, .inl (cI, 64, .inl fK))] H := hP
  have hD : va_D A [(oh, .inl (cI, 10000, .inl fh)), (og, .inl (cI, 32, .inl fs)), (on_, .inl (cI, 32, .inl fn)), (mo, .inr (8, [.int qc, .int (iZ (np : Int)), .ref ow, .ref om, .ref ok_, .ref oK, .ref og, .ref on_, .ref oh, .ref ox, .int qn, .int qf, .ref op_, .int ql])), (ow, .inl (cI, 108000, .inl fx2)), (om, .inl (cI, 9, .inl fy2)), (ok_, .inl (cI, 166400, .inl fk)), (oK, .inl (cI, 64, .inl fK))] := hD
  show W p l e R s m args below meth c H locs _ _ Q (F0 m 27 ls [])
  rw [kvf_0] at w2
  obtain ⟨v2, hv2⟩ : ∃ z, z = up v1 5 (tv b_) := ⟨_, rfl⟩
  rw [← hv2] at w2
  have y24 : v2 4 = tv a := by simp [hv2, hv1, up]
  have y25 : v2 5 = tv b_ := by simp [hv2, hv1, up]
  refine lv_aload_n hx hb d_Mo_products_27 rfl (lv_at hl 0 rfl) ?_
  refine lv_iconst (v := iZ (0)) hx hb d_Mo_products_28 (by decide +kernel) ?_
  refine lv_iconst (v := iZ (4)) hx hb d_Mo_products_29 (by decide +kernel) ?_
  refine lv_iconst (v := iZ (5)) hx hb d_Mo_products_30 (by decide +kernel) ?_
  refine cv (n := 3) (wr := [(oh, .inl (cI, 10000, .inl fh)), (og, .inl (cI, 32, .inl fs)), (on_, .inl (cI, 32, .inl fn)), (ok_, .inl (cI, 166400, .inl fk)), (oK, .inl (cI, 64, .inl fK))]) (w1 := (fun (u : (Nat → Int32) × (Nat → Int32)) => [(mo, .inr (8, [.int qc, .int (iZ (np : Int)), .ref ow, .ref om, .ref ok_, .ref oK, .ref og, .ref on_, .ref oh, .ref ox, .int qn, .int qf, .ref op_, .int ql])), (ow, .inl (cI, 108000, .inl u.1)), (om, .inl (cI, 9, .inl u.2))])) (As := [.int (iZ 0), .int (iZ 4), .int (iZ 5)]) (rest := []) K hP hD hK hS hA hl.1 (c_Mo_product l D mo qc np ow om ok_ oK og on_ oh ox qn qf op_ ql fx2 fy2 cI v2 0 4 5 H.size w2 (by decide) (by decide) (by decide) (by decide) (by decide) (by rw [y24, y25]; omega)) [3, 4, 5] [0, 1, 2, 6, 7] [0] rfl rfl rfl (by decide) (by decide) (by decide) 0 rfl rfl (big_in mw_1258 rfl) (big_in mw_10 rfl) (big_in mw_1255 rfl) (big_in mw_1257 rfl) (big_in sp_34 rfl) rfl rfl (by decide +kernel) ⟨by rw [hR]; exact Nat.le_of_ble_eq_true rfl, by rw [hR]; exact Nat.le_of_ble_eq_true rfl⟩ rfl (Nat.le_of_ble_eq_true rfl) d_Mo_products_31 ⟨by rw [hR]; exact Nat.le_of_ble_eq_true rfl, by rw [hR]; exact Nat.le_of_ble_eq_true rfl⟩ rfl (fun v u H locs hp3 hP hD hS _ => ?_)
  obtain ⟨fx3, fy3⟩ := u
  try dsimp only at hp3
  obtain ⟨rfl, w3⟩ := hp3
  have hP : va_P D cls0 [(oh, .inl (cI, 10000, .inl fh)), (og, .inl (cI, 32, .inl fs)), (on_, .inl (cI, 32, .inl fn)), (ok_, .inl (cI, 166400, .inl fk)), (oK, .inl (cI, 64, .inl fK)), (mo, .inr (8, [.int qc, .int (iZ (np : Int)), .ref ow, .ref om, .ref ok_, .ref oK, .ref og, .ref on_, .ref oh, .ref ox, .int qn, .int qf, .ref op_, .int ql])), (ow, .inl (cI, 108000, .inl fx3)), (om, .inl (cI, 9, .inl fy3))] H := hP
  have hD : va_D A [(oh, .inl (cI, 10000, .inl fh)), (og, .inl (cI, 32, .inl fs)), (on_, .inl (cI, 32, .inl fn)), (ok_, .inl (cI, 166400, .inl fk)), (oK, .inl (cI, 64, .inl fK)), (mo, .inr (8, [.int qc, .int (iZ (np : Int)), .ref ow, .ref om, .ref ok_, .ref oK, .ref og, .ref on_, .ref oh, .ref ox, .int qn, .int qf, .ref op_, .int ql])), (ow, .inl (cI, 108000, .inl fx3)), (om, .inl (cI, 9, .inl fy3))] := hD
  show W p l e R s m args below meth c H locs _ _ Q (F0 m 34 ls [])
  obtain ⟨v3, hv3⟩ : ∃ z, z = up v2 0 (v2 4 * v2 5) := ⟨_, rfl⟩
  rw [← hv3] at w3
  have y30 : v3 0 = tv a * tv b_ := by rw [hv3, up_s, y24, y25]
  refine lv_aload_n hx hb d_Mo_products_34 rfl (lv_at hl 0 rfl) ?_
  refine lv_iconst (v := iZ (4)) hx hb d_Mo_products_35 (by decide +kernel) ?_
  refine lv_iconst (v := iZ (2)) hx hb d_Mo_products_36 (by decide +kernel) ?_
  refine lv_iload_n hx hb d_Mo_products_37 rfl (lv_at hl 2 rfl) ?_
  refine zz_imul hx hb d_Mo_products_38 ?_
  refine lv_iconst (v := iZ (1)) hx hb d_Mo_products_39 (by decide +kernel) ?_
  refine zz_iadd hx hb d_Mo_products_40 ?_
  rw [show (2 * (a : Int) + 1 : Int) = ((2 * a + 1 : Nat) : Int) by omega]
  refine cv (n := 2) (wr := [(oh, .inl (cI, 10000, .inl fh)), (og, .inl (cI, 32, .inl fs)), (on_, .inl (cI, 32, .inl fn))]) (w1 := (fun (u : (Nat → Int32) × (Nat → Int32)) => [(mo, .inr (8, [.int qc, .int (iZ (np : Int)), .ref ow, .ref om, .ref ok_, .ref oK, .ref og, .ref on_, .ref oh, .ref ox, .int qn, .int qf, .ref op_, .int ql])), (ow, .inl (cI, 108000, .inl u.1)), (om, .inl (cI, 9, .inl u.2)), (ok_, .inl (cI, 166400, .inl fk)), (oK, .inl (cI, 64, .inl fK))])) (As := [.int (iZ 4), .int (iZ ((2 * a + 1 : Nat) : Int))]) (rest := []) K hP hD hK hS hA hl.1 (c_Mo_load l D mo qc np ow om ok_ oK og on_ oh ox qn qf op_ ql fx3 fy3 cI fk fK v3 (kvf tv bv) 4 (2 * a + 1) H.size w3 hMR.1 (by decide) (by omega)) [5, 6, 7, 3, 4] [0, 1, 2] [0] rfl rfl rfl (by decide) (by decide) (by decide) 0 rfl rfl (big_in mw_1238 rfl) (big_in mw_10 rfl) (big_in mw_1235 rfl) (big_in mw_1237 rfl) (big_in sp_31 rfl) rfl rfl (by decide +kernel) ⟨by rw [hR]; exact Nat.le_of_ble_eq_true rfl, by rw [hR]; exact Nat.le_of_ble_eq_true rfl⟩ rfl (Nat.le_of_ble_eq_true rfl) d_Mo_products_41 ⟨by rw [hR]; exact Nat.le_of_ble_eq_true rfl, by rw [hR]; exact Nat.le_of_ble_eq_true rfl⟩ rfl (fun v u H locs hp4 hP hD hS _ => ?_)
  obtain ⟨fx4, fy4⟩ := u
  try dsimp only at hp4
  obtain ⟨rfl, w4⟩ := hp4
  have hP : va_P D cls0 [(oh, .inl (cI, 10000, .inl fh)), (og, .inl (cI, 32, .inl fs)), (on_, .inl (cI, 32, .inl fn)), (mo, .inr (8, [.int qc, .int (iZ (np : Int)), .ref ow, .ref om, .ref ok_, .ref oK, .ref og, .ref on_, .ref oh, .ref ox, .int qn, .int qf, .ref op_, .int ql])), (ow, .inl (cI, 108000, .inl fx4)), (om, .inl (cI, 9, .inl fy4)), (ok_, .inl (cI, 166400, .inl fk)), (oK, .inl (cI, 64, .inl fK))] H := hP
  have hD : va_D A [(oh, .inl (cI, 10000, .inl fh)), (og, .inl (cI, 32, .inl fs)), (on_, .inl (cI, 32, .inl fn)), (mo, .inr (8, [.int qc, .int (iZ (np : Int)), .ref ow, .ref om, .ref ok_, .ref oK, .ref og, .ref on_, .ref oh, .ref ox, .int qn, .int qf, .ref op_, .int ql])), (ow, .inl (cI, 108000, .inl fx4)), (om, .inl (cI, 9, .inl fy4)), (ok_, .inl (cI, 166400, .inl fk)), (oK, .inl (cI, 64, .inl fK))] := hD
  show W p l e R s m args below meth c H locs _ _ Q (F0 m 44 ls [])
  rw [kvf_1] at w4
  obtain ⟨v4, hv4⟩ : ∃ z, z = up v3 4 (bv a) := ⟨_, rfl⟩
  rw [← hv4] at w4
  refine lv_aload_n hx hb d_Mo_products_44 rfl (lv_at hl 0 rfl) ?_
  refine lv_iconst (v := iZ (5)) hx hb d_Mo_products_45 (by decide +kernel) ?_
  refine lv_iconst (v := iZ (2)) hx hb d_Mo_products_46 (by decide +kernel) ?_
  refine lv_iload_n hx hb d_Mo_products_47 rfl (lv_at hl 3 rfl) ?_
  refine zz_imul hx hb d_Mo_products_48 ?_
  refine lv_iload hx hb d_Mo_products_49 (lv_at hl 4 rfl) ?_
  refine zz_if_eq (tgt := 58) hx hb d_Mo_products_51 (by decide) (by omega) (fun c51 => ?_) (fun c51 => False.elim (by omega))
  refine lv_iconst (v := iZ (1)) hx hb d_Mo_products_58 (by decide +kernel) ?_
  refine zz_iadd hx hb d_Mo_products_59 ?_
  rw [show (2 * (b_ : Int) + 1 : Int) = ((2 * b_ + 1 : Nat) : Int) by omega]
  refine cv (n := 2) (wr := [(oh, .inl (cI, 10000, .inl fh)), (og, .inl (cI, 32, .inl fs)), (on_, .inl (cI, 32, .inl fn))]) (w1 := (fun (u : (Nat → Int32) × (Nat → Int32)) => [(mo, .inr (8, [.int qc, .int (iZ (np : Int)), .ref ow, .ref om, .ref ok_, .ref oK, .ref og, .ref on_, .ref oh, .ref ox, .int qn, .int qf, .ref op_, .int ql])), (ow, .inl (cI, 108000, .inl u.1)), (om, .inl (cI, 9, .inl u.2)), (ok_, .inl (cI, 166400, .inl fk)), (oK, .inl (cI, 64, .inl fK))])) (As := [.int (iZ 5), .int (iZ ((2 * b_ + 1 : Nat) : Int))]) (rest := []) K hP hD hK hS hA hl.1 (c_Mo_load l D mo qc np ow om ok_ oK og on_ oh ox qn qf op_ ql fx4 fy4 cI fk fK v4 (kvf tv bv) 5 (2 * b_ + 1) H.size w4 hMR.1 (by decide) (by omega)) [3, 4, 5, 6, 7] [0, 1, 2] [0] rfl rfl rfl (by decide) (by decide) (by decide) 0 rfl rfl (big_in mw_1238 rfl) (big_in mw_10 rfl) (big_in mw_1235 rfl) (big_in mw_1237 rfl) (big_in sp_31 rfl) rfl rfl (by decide +kernel) ⟨by rw [hR]; exact Nat.le_of_ble_eq_true rfl, by rw [hR]; exact Nat.le_of_ble_eq_true rfl⟩ rfl (Nat.le_of_ble_eq_true rfl) d_Mo_products_60 ⟨by rw [hR]; exact Nat.le_of_ble_eq_true rfl, by rw [hR]; exact Nat.le_of_ble_eq_true rfl⟩ rfl (fun v u H locs hp5 hP hD hS _ => ?_)
  obtain ⟨fx5, fy5⟩ := u
  try dsimp only at hp5
  obtain ⟨rfl, w5⟩ := hp5
  have hP : va_P D cls0 [(oh, .inl (cI, 10000, .inl fh)), (og, .inl (cI, 32, .inl fs)), (on_, .inl (cI, 32, .inl fn)), (mo, .inr (8, [.int qc, .int (iZ (np : Int)), .ref ow, .ref om, .ref ok_, .ref oK, .ref og, .ref on_, .ref oh, .ref ox, .int qn, .int qf, .ref op_, .int ql])), (ow, .inl (cI, 108000, .inl fx5)), (om, .inl (cI, 9, .inl fy5)), (ok_, .inl (cI, 166400, .inl fk)), (oK, .inl (cI, 64, .inl fK))] H := hP
  have hD : va_D A [(oh, .inl (cI, 10000, .inl fh)), (og, .inl (cI, 32, .inl fs)), (on_, .inl (cI, 32, .inl fn)), (mo, .inr (8, [.int qc, .int (iZ (np : Int)), .ref ow, .ref om, .ref ok_, .ref oK, .ref og, .ref on_, .ref oh, .ref ox, .int qn, .int qf, .ref op_, .int ql])), (ow, .inl (cI, 108000, .inl fx5)), (om, .inl (cI, 9, .inl fy5)), (ok_, .inl (cI, 166400, .inl fk)), (oK, .inl (cI, 64, .inl fK))] := hD
  show W p l e R s m args below meth c H locs _ _ Q (F0 m 63 ls [])
  rw [kvf_1] at w5
  obtain ⟨v5, hv5⟩ : ∃ z, z = up v4 5 (bv b_) := ⟨_, rfl⟩
  rw [← hv5] at w5
  have y54 : v5 4 = bv a := by simp [hv5, hv4, up]
  have y55 : v5 5 = bv b_ := by simp [hv5, hv4, up]
  have y50 : v5 0 = tv a * tv b_ := by rw [hv5, up_n (by decide), hv4, up_n (by decide)]; exact y30
  refine lv_aload_n hx hb d_Mo_products_63 rfl (lv_at hl 0 rfl) ?_
  refine lv_iconst (v := iZ (1)) hx hb d_Mo_products_64 (by decide +kernel) ?_
  refine lv_iconst (v := iZ (4)) hx hb d_Mo_products_65 (by decide +kernel) ?_
  refine lv_iconst (v := iZ (5)) hx hb d_Mo_products_66 (by decide +kernel) ?_
  refine cv (n := 3) (wr := [(oh, .inl (cI, 10000, .inl fh)), (og, .inl (cI, 32, .inl fs)), (on_, .inl (cI, 32, .inl fn)), (ok_, .inl (cI, 166400, .inl fk)), (oK, .inl (cI, 64, .inl fK))]) (w1 := (fun (u : (Nat → Int32) × (Nat → Int32)) => [(mo, .inr (8, [.int qc, .int (iZ (np : Int)), .ref ow, .ref om, .ref ok_, .ref oK, .ref og, .ref on_, .ref oh, .ref ox, .int qn, .int qf, .ref op_, .int ql])), (ow, .inl (cI, 108000, .inl u.1)), (om, .inl (cI, 9, .inl u.2))])) (As := [.int (iZ 1), .int (iZ 4), .int (iZ 5)]) (rest := []) K hP hD hK hS hA hl.1 (c_Mo_product l D mo qc np ow om ok_ oK og on_ oh ox qn qf op_ ql fx5 fy5 cI v5 1 4 5 H.size w5 (by decide) (by decide) (by decide) (by decide) (by decide) (by rw [y54, y55]; omega)) [3, 4, 5] [0, 1, 2, 6, 7] [0] rfl rfl rfl (by decide) (by decide) (by decide) 0 rfl rfl (big_in mw_1258 rfl) (big_in mw_10 rfl) (big_in mw_1255 rfl) (big_in mw_1257 rfl) (big_in sp_34 rfl) rfl rfl (by decide +kernel) ⟨by rw [hR]; exact Nat.le_of_ble_eq_true rfl, by rw [hR]; exact Nat.le_of_ble_eq_true rfl⟩ rfl (Nat.le_of_ble_eq_true rfl) d_Mo_products_67 ⟨by rw [hR]; exact Nat.le_of_ble_eq_true rfl, by rw [hR]; exact Nat.le_of_ble_eq_true rfl⟩ rfl (fun v u H locs hp6 hP hD hS _ => ?_)
  obtain ⟨fx6, fy6⟩ := u
  try dsimp only at hp6
  obtain ⟨rfl, w6⟩ := hp6
  have hP : va_P D cls0 [(oh, .inl (cI, 10000, .inl fh)), (og, .inl (cI, 32, .inl fs)), (on_, .inl (cI, 32, .inl fn)), (ok_, .inl (cI, 166400, .inl fk)), (oK, .inl (cI, 64, .inl fK)), (mo, .inr (8, [.int qc, .int (iZ (np : Int)), .ref ow, .ref om, .ref ok_, .ref oK, .ref og, .ref on_, .ref oh, .ref ox, .int qn, .int qf, .ref op_, .int ql])), (ow, .inl (cI, 108000, .inl fx6)), (om, .inl (cI, 9, .inl fy6))] H := hP
  have hD : va_D A [(oh, .inl (cI, 10000, .inl fh)), (og, .inl (cI, 32, .inl fs)), (on_, .inl (cI, 32, .inl fn)), (ok_, .inl (cI, 166400, .inl fk)), (oK, .inl (cI, 64, .inl fK)), (mo, .inr (8, [.int qc, .int (iZ (np : Int)), .ref ow, .ref om, .ref ok_, .ref oK, .ref og, .ref on_, .ref oh, .ref ox, .int qn, .int qf, .ref op_, .int ql])), (ow, .inl (cI, 108000, .inl fx6)), (om, .inl (cI, 9, .inl fy6))] := hD
  show W p l e R s m args below meth c H locs _ _ Q (F0 m 70 ls [])
  obtain ⟨v6, hv6⟩ : ∃ z, z = up v5 1 (v5 4 * v5 5) := ⟨_, rfl⟩
  rw [← hv6] at w6
  have y60 : v6 0 = tv a * tv b_ := by rw [hv6, up_n (by decide)]; exact y50
  have y61 : v6 1 = bv a * bv b_ := by rw [hv6, up_s, y54, y55]
  have l5 := lm_mul (tv a) (tv b_)
  have l6 := lm_mul (bv a) (bv b_)
  obtain ⟨sp1, sp2⟩ := sg_prod ja3 jb3 ja2 jb2
  refine lv_aload_n hx hb d_Mo_products_70 rfl (lv_at hl 0 rfl) ?_
  refine lv_iload_n hx hb d_Mo_products_71 rfl (lv_at hl 1 rfl) ?_
  refine lv_aload_n hx hb d_Mo_products_72 rfl (lv_at hl 0 rfl) ?_
  refine va_get (D := D) (ci := 8) (v := .ref og) (C := R_Mo) (T := F_Mo) (N := 14) hx hb hts i_Mo hown hK hP 5 rfl rfl 6 (by decide) (hts _ (big_in mw_1121 rfl)) (fun _ h9 => h9) rfl d_Mo_products_73 ?_
  refine lv_iload_n hx hb d_Mo_products_76 rfl (lv_at hl 2 rfl) ?_
  refine zz_iald hx hb hK hP 1 0 rfl rfl (a) (by omega) (by omega) (by omega) d_Mo_products_77 ?_
  rw [hMR.2.1 a (by omega)]
  refine lv_aload_n hx hb d_Mo_products_78 rfl (lv_at hl 0 rfl) ?_
  refine va_get (D := D) (ci := 8) (v := .ref og) (C := R_Mo) (T := F_Mo) (N := 14) hx hb hts i_Mo hown hK hP 5 rfl rfl 6 (by decide) (hts _ (big_in mw_1121 rfl)) (fun _ h9 => h9) rfl d_Mo_products_79 ?_
  refine lv_iload_n hx hb d_Mo_products_82 rfl (lv_at hl 3 rfl) ?_
  refine zz_iald hx hb hK hP 1 0 rfl rfl (b_) (by omega) (by omega) (by omega) d_Mo_products_83 ?_
  rw [hMR.2.1 b_ (by omega)]
  refine zz_imul hx hb d_Mo_products_84 ?_
  refine lv_iload hx hb d_Mo_products_85 (lv_at hl 4 rfl) ?_
  refine zz_if_eq (tgt := 94) hx hb d_Mo_products_87 (by decide) (by omega) (fun c87 => ?_) (fun c87 => False.elim (by omega))
  refine lv_iconst (v := iZ (2)) hx hb d_Mo_products_94 (by decide +kernel) ?_
  refine cv (n := 3) (wr := []) (w1 := (fun (u : (Nat → Int32) × (Nat → Int32) × (Nat → Int32) × (Nat → Int32) × (Nat → Int32) × (Nat → Int32) × (Nat → Int32) × (Nat → Nat)) => [(mo, .inr (8, [.int (iZ 0), .int (iZ (np : Int)), .ref ow, .ref om, .ref ok_, .ref oK, .ref og, .ref on_, .ref oh, .ref ox, .int qn, .int qf, .ref op_, .int ql])), (ow, .inl (cI, 108000, .inl u.1)), (om, .inl (cI, 9, .inl u.2.1)), (oh, .inl (cI, 10000, .inl u.2.2.1)), (ok_, .inl (cI, 166400, .inl u.2.2.2.1)), (oK, .inl (cI, 64, .inl u.2.2.2.2.1)), (og, .inl (cI, 32, .inl u.2.2.2.2.2.1)), (on_, .inl (cI, 32, .inl u.2.2.2.2.2.2.1))])) (As := [.int (iZ (to : Int)), .int (iZ ((sg a) * (sg b_))), .int (iZ 2)]) (rest := []) K hP hD hK hS hA hl.1 (c_Mo_put l D mo qc np ow om ok_ oK og on_ oh ox qn qf op_ ql fx6 fy6 cI fh fk fK fs fn v6 tv bv sg to ((sg a) * (sg b_)) 2 H.size w6 hMR (by omega) hnd hnp (by omega) (by decide) (by rw [y61]; exact Nat.mul_pos pa pb) (by rw [y60]; omega) (by rw [y61]; omega) (by rw [y60, y61]; exact hfit)) [5, 6, 7, 0, 3, 4, 1, 2] [] [0] rfl rfl rfl (by decide) (by decide) (by decide) 0 rfl rfl (big_in mw_1185 rfl) (big_in mw_10 rfl) (big_in mw_1182 rfl) (big_in mw_1184 rfl) (big_in sp_20 rfl) rfl rfl (by decide +kernel) ⟨by rw [hR]; exact Nat.le_of_ble_eq_true rfl, by rw [hR]; exact Nat.le_of_ble_eq_true rfl⟩ rfl (Nat.le_of_ble_eq_true rfl) d_Mo_products_95 ⟨by rw [hR]; exact Nat.le_of_ble_eq_true rfl, by rw [hR]; exact Nat.le_of_ble_eq_true rfl⟩ rfl (fun v u H locs hp7 hP hD hS _ => ?_)
  obtain ⟨fa, fb, fc, fd, fe, ff, fg, v9⟩ := u
  try dsimp only at hp7
  obtain ⟨rfl, w9, q9⟩ := hp7
  have hP : va_P D cls0 [(mo, .inr (8, [.int (iZ 0), .int (iZ (np : Int)), .ref ow, .ref om, .ref ok_, .ref oK, .ref og, .ref on_, .ref oh, .ref ox, .int qn, .int qf, .ref op_, .int ql])), (ow, .inl (cI, 108000, .inl fa)), (om, .inl (cI, 9, .inl fb)), (oh, .inl (cI, 10000, .inl fc)), (ok_, .inl (cI, 166400, .inl fd)), (oK, .inl (cI, 64, .inl fe)), (og, .inl (cI, 32, .inl ff)), (on_, .inl (cI, 32, .inl fg))] H := hP
  have hD : va_D A [(mo, .inr (8, [.int (iZ 0), .int (iZ (np : Int)), .ref ow, .ref om, .ref ok_, .ref oK, .ref og, .ref on_, .ref oh, .ref ox, .int qn, .int qf, .ref op_, .int ql])), (ow, .inl (cI, 108000, .inl fa)), (om, .inl (cI, 9, .inl fb)), (oh, .inl (cI, 10000, .inl fc)), (ok_, .inl (cI, 166400, .inl fd)), (oK, .inl (cI, 64, .inl fe)), (og, .inl (cI, 32, .inl ff)), (on_, .inl (cI, 32, .inl fg))] := hD
  show W p l e R s m args below meth c H locs _ _ Q (F0 m 98 ls [.int (iZ ((lm (rdN (v6 0) (v6 1)) : Int) + (lm (rdD (v6 0) (v6 1)) : Int)))])
  rw [y60, y61]
  rw [y60, y61] at q9
  have hP9 : va_P D cls0 [(mo, .inr (8, [.int (iZ 0), .int (iZ (np : Int)), .ref ow, .ref om, .ref ok_, .ref oK, .ref og, .ref on_, .ref oh, .ref ox, .int qn, .int qf, .ref op_, .int ql])), (ow, .inl (cI, 108000, .inl fa)), (om, .inl (cI, 9, .inl fb)), (oh, .inl (cI, 10000, .inl fc)), (ok_, .inl (cI, 166400, .inl fd)), (oK, .inl (cI, 64, .inl fe)), (og, .inl (cI, 32, .inl ff)), (on_, .inl (cI, 32, .inl fg))] H := hP.sub [0, 1, 2, 3, 4, 5, 6, 7] rfl
  have hD9 : va_D A [(mo, .inr (8, [.int (iZ 0), .int (iZ (np : Int)), .ref ow, .ref om, .ref ok_, .ref oK, .ref og, .ref on_, .ref oh, .ref ox, .int qn, .int qf, .ref op_, .int ql])), (ow, .inl (cI, 108000, .inl fa)), (om, .inl (cI, 9, .inl fb)), (oh, .inl (cI, 10000, .inl fc)), (ok_, .inl (cI, 166400, .inl fd)), (oK, .inl (cI, 64, .inl fe)), (og, .inl (cI, 32, .inl ff)), (on_, .inl (cI, 32, .inl fg))] := hD.sub [0, 1, 2, 3, 4, 5, 6, 7] (by decide) rfl
  rw [hQ, ← hAe]
  refine r_i (v := (iZ ((lm (rdN ((tv a * tv b_)) ((bv a * bv b_))) : Int) + (lm (rdD ((tv a * tv b_)) ((bv a * bv b_))) : Int)))) K (fa, fb, fc, fd, fe, ff, fg, v9) hS d_Mo_products_98 ?_ (fun t ht hv => ?_)
  · try dsimp only
    refine ⟨rfl, w9, ?_⟩
    exact q9
  · exact ⟨by rw [ht]; exact hP9, va_K.moved hv hK, by rw [← hAe]; exact hD9⟩
set_option maxHeartbeats 4000000 in
set_option maxRecDepth 100000 in
/-- Mo_products -/
theorem f_Mo_products0 (l : Launch) (D : va_G) (mo : Nat) (qc : Int32) (np : Nat) (ow : Nat) (om : Nat) (ok_ : Nat) (oK : Nat) (og : Nat) (on_ : Nat) (oh : Nat) (ox : Nat) (qn : Int32) (qf : Int32) (op_ : Nat) (ql : Int32) (fw : Nat → Int32) (fm : Nat → Int32) (cI : ClassId) (fh : Nat → Int32) (fk : Nat → Int32) (fK : Nat → Int32) (fs : Nat → Int32) (fn : Nat → Int32) (val : Nat → Nat) (tv : Nat → Nat) (bv : Nat → Nat) (sg : Nat → Int) (to : Nat) (a : Nat) (b_ : Nat) (sz : Nat) (hW : WB fw fm val) (hMR : MoR fk fK fs fn tv bv sg) (hnd : ndS tv bv 32 ≤ np) (hnp : np ≤ 1024) (J : RgC tv bv sg) (hbv : ∀ r, r < 32 → 0 < bv r) (t1 : to < 32) (t2 : a < 32) (t3_ : b_ < 32) (hfit : np + (lm (tv to) + lm (bv to)) < ndS tv bv 32 + (lm (rdN (tv a * tv b_) (bv a * bv b_)) + lm (rdD (tv a * tv b_) (bv a * bv b_)))) : Met l y_Mo_products (wsB y_Mo_products b_Mo_products 5 (some .int)) ({ frames := 5, cells := 0, slots := 0, locals := 125 }) (va_Pc [.ref mo, .int (iZ (to : Int)), .int (iZ (a : Int)), .int (iZ (b_ : Int)), .int (iZ 0)] (wPre D [(cI, .int)] [(mo, .inr (8, [.int qc, .int (iZ (np : Int)), .ref ow, .ref om, .ref ok_, .ref oK, .ref og, .ref on_, .ref oh, .ref ox, .int qn, .int qf, .ref op_, .int ql])), (ow, .inl (cI, 108000, .inl fw)), (om, .inl (cI, 9, .inl fm)), (oh, .inl (cI, 10000, .inl fh)), (ok_, .inl (cI, 166400, .inl fk)), (oK, .inl (cI, 64, .inl fK)), (og, .inl (cI, 32, .inl fs)), (on_, .inl (cI, 32, .inl fn))] sz)) (va_QV (fun (v_9 : Option Value) (u_9 : (Nat → Int32) × (Nat → Int32) × (Nat → Int32) × (Nat → Nat)) => v_9 = some (.int (iZ 0)) ∧ (WB u_9.1 u_9.2.1 u_9.2.2.2)) (fun u_9 => wPost D [(cI, .int)] [(mo, .inr (8, [.int qc, .int (iZ (np : Int)), .ref ow, .ref om, .ref ok_, .ref oK, .ref og, .ref on_, .ref oh, .ref ox, .int qn, .int qf, .ref op_, .int ql])), (ow, .inl (cI, 108000, .inl fw)), (om, .inl (cI, 9, .inl fm)), (oh, .inl (cI, 10000, .inl fh)), (ok_, .inl (cI, 166400, .inl fk)), (oK, .inl (cI, 64, .inl fK)), (og, .inl (cI, 32, .inl fs)), (on_, .inl (cI, 32, .inl fn))] [(mo, .inr (8, [.int (iZ 2), .int (iZ (np : Int)), .ref ow, .ref om, .ref ok_, .ref oK, .ref og, .ref on_, .ref oh, .ref ox, .int qn, .int qf, .ref op_, .int ql])), (ow, .inl (cI, 108000, .inl u_9.1)), (om, .inl (cI, 9, .inl u_9.2.1)), (oh, .inl (cI, 10000, .inl u_9.2.2.1)), (ok_, .inl (cI, 166400, .inl fk)), (oK, .inl (cI, 64, .inl fK)), (og, .inl (cI, 32, .inl fs)), (on_, .inl (cI, 32, .inl fn))] sz) (va_A [(mo, .inr (8, [.int qc, .int (iZ (np : Int)), .ref ow, .ref om, .ref ok_, .ref oK, .ref og, .ref on_, .ref oh, .ref ox, .int qn, .int qf, .ref op_, .int ql])), (ow, .inl (cI, 108000, .inl fw)), (om, .inl (cI, 9, .inl fm)), (oh, .inl (cI, 10000, .inl fh)), (ok_, .inl (cI, 166400, .inl fk)), (oK, .inl (cI, 64, .inl fK)), (og, .inl (cI, 32, .inl fs)), (on_, .inl (cI, 32, .inl fn))] sz)) 0 0 (va_A [(mo, .inr (8, [.int qc, .int (iZ (np : Int)), .ref ow, .ref om, .ref ok_, .ref oK, .ref og, .ref on_, .ref oh, .ref ox, .int qn, .int qf, .ref op_, .int ql])), (ow, .inl (cI, 108000, .inl fw)), (om, .inl (cI, 9, .inl fm)), (oh, .inl (cI, 10000, .inl fh)), (ok_, .inl (cI, 166400, .inl fk)), (oK, .inl (cI, 64, .inl fK)), (og, .inl (cI, 32, .inl fs)), (on_, .inl (cI, 32, .inl fn))] sz) := by
  refine met_enter (by decide +kernel) (Nat.le_of_ble_eq_true rfl) ?_
  intro p e s m args below meth c ls A R Q H locs K hin hAe hA hR hQ hP hK hD hS hl
  obtain ⟨hx, hb, hml, hrt, hlk, hts, hown, hno⟩ := id K
  have hl : lv_has ls 5 [(0, .ref mo), (1, .int (iZ (to : Int))), (2, .int (iZ (a : Int))), (3, .int (iZ (b_ : Int))), (4, .int (iZ 0))] := hl
  have hlr : ∀ q, q < 32 → lm (tv q) + lm (bv q) ≤ 1024 := fun q hq => by have z := ndS_le (tv := tv) (bv := bv) hq; omega
  have hnt : ∀ q, q < 32 → nd (tv q) ≤ 2600 := fun q hq => by have z := nd_lm (v := tv q) (L := 1024) (by have y := hlr q hq; omega); omega
  have hnb : ∀ q, q < 32 → nd (bv q) ≤ 2600 := fun q hq => by have z := nd_lm (v := bv q) (L := 1024) (by have y := hlr q hq; omega); omega
  obtain ⟨ja1, ja2, ja3⟩ := J a (by omega)
  obtain ⟨jb1, jb2, jb3⟩ := J b_ (by omega)
  have pa := hbv a (by omega)
  have pb := hbv b_ (by omega)
  have la := hlr a (by omega)
  have lb := hlr b_ (by omega)
  have n1 := hnt a (by omega)
  have n2 := hnb a (by omega)
  have n3 := hnt b_ (by omega)
  have n4 := hnb b_ (by omega)
  refine lv_aload_n hx hb d_Mo_products_0 rfl (lv_at hl 0 rfl) ?_
  refine lv_iconst (v := iZ (4)) hx hb d_Mo_products_1 (by decide +kernel) ?_
  refine lv_iconst (v := iZ (2)) hx hb d_Mo_products_2 (by decide +kernel) ?_
  refine lv_iload_n hx hb d_Mo_products_3 rfl (lv_at hl 2 rfl) ?_
  refine zz_imul hx hb d_Mo_products_4 ?_
  rw [show (2 * (a : Int) : Int) = ((2 * a : Nat) : Int) by omega]
  refine cv (n := 2) (wr := [(oh, .inl (cI, 10000, .inl fh)), (og, .inl (cI, 32, .inl fs)), (on_, .inl (cI, 32, .inl fn))]) (w1 := (fun (u : (Nat → Int32) × (Nat → Int32)) => [(mo, .inr (8, [.int qc, .int (iZ (np : Int)), .ref ow, .ref om, .ref ok_, .ref oK, .ref og, .ref on_, .ref oh, .ref ox, .int qn, .int qf, .ref op_, .int ql])), (ow, .inl (cI, 108000, .inl u.1)), (om, .inl (cI, 9, .inl u.2)), (ok_, .inl (cI, 166400, .inl fk)), (oK, .inl (cI, 64, .inl fK))])) (As := [.int (iZ 4), .int (iZ ((2 * a : Nat) : Int))]) (rest := []) K hP hD hK hS hA hl.1 (c_Mo_load l D mo qc np ow om ok_ oK og on_ oh ox qn qf op_ ql fw fm cI fk fK val (kvf tv bv) 4 (2 * a) H.size hW hMR.1 (by decide) (by omega)) [0, 1, 2, 4, 5] [3, 6, 7] [0] rfl rfl rfl (by decide) (by decide) (by decide) 0 rfl rfl (big_in mw_1238 rfl) (big_in mw_10 rfl) (big_in mw_1235 rfl) (big_in mw_1237 rfl) (big_in sp_31 rfl) rfl rfl (by decide +kernel) ⟨by rw [hR]; exact Nat.le_of_ble_eq_true rfl, by rw [hR]; exact Nat.le_of_ble_eq_true rfl⟩ rfl (Nat.le_of_ble_eq_true rfl) d_Mo_products_5 ⟨by rw [hR]; exact Nat.le_of_ble_eq_true rfl, by rw [hR]; exact Nat.le_of_ble_eq_true rfl⟩ rfl (fun v u H locs hp1 hP hD hS _ => ?_)
  obtain ⟨fx1, fy1⟩ := u
  try dsimp only at hp1
  obtain ⟨rfl, w1⟩ := hp1
  have hP : va_P D cls0 [(oh, .inl (cI, 10000, .inl fh)), (og, .inl (cI, 32, .inl fs)), (on_, .inl (cI, 32, .inl fn)), (mo, .inr (8, [.int qc, .int (iZ (np : Int)), .ref ow, .ref om, .ref ok_, .ref oK, .ref og, .ref on_, .ref oh, .ref ox, .int qn, .int qf, .ref op_, .int ql])), (ow, .inl (cI, 108000, .inl fx1)), (om, .inl (cI, 9, .inl fy1)), (ok_, .inl (cI, 166400, .inl fk)), (oK, .inl (cI, 64, .inl fK))] H := hP
  have hD : va_D A [(oh, .inl (cI, 10000, .inl fh)), (og, .inl (cI, 32, .inl fs)), (on_, .inl (cI, 32, .inl fn)), (mo, .inr (8, [.int qc, .int (iZ (np : Int)), .ref ow, .ref om, .ref ok_, .ref oK, .ref og, .ref on_, .ref oh, .ref ox, .int qn, .int qf, .ref op_, .int ql])), (ow, .inl (cI, 108000, .inl fx1)), (om, .inl (cI, 9, .inl fy1)), (ok_, .inl (cI, 166400, .inl fk)), (oK, .inl (cI, 64, .inl fK))] := hD
  show W p l e R s m args below meth c H locs _ _ Q (F0 m 8 ls [])
  rw [kvf_0] at w1
  obtain ⟨v1, hv1⟩ : ∃ z, z = up val 4 (tv a) := ⟨_, rfl⟩
  rw [← hv1] at w1
  refine lv_aload_n hx hb d_Mo_products_8 rfl (lv_at hl 0 rfl) ?_
  refine lv_iconst (v := iZ (5)) hx hb d_Mo_products_9 (by decide +kernel) ?_
  refine lv_iconst (v := iZ (2)) hx hb d_Mo_products_10 (by decide +kernel) ?_
  refine lv_iload_n hx hb d_Mo_products_11 rfl (lv_at hl 3 rfl) ?_
  refine zz_imul hx hb d_Mo_products_12 ?_
  refine lv_iload hx hb d_Mo_products_13 (lv_at hl 4 rfl) ?_
  refine zz_if_eq (tgt := 22) hx hb d_Mo_products_15 (by decide) (by omega) (fun c15 => ?_) (fun c15 => False.elim (by omega))
  refine lv_iconst (v := iZ (0)) hx hb d_Mo_products_22 (by decide +kernel) ?_
  refine zz_iadd hx hb d_Mo_products_23 ?_
  rw [show (2 * (b_ : Int) + 0 : Int) = ((2 * b_ : Nat) : Int) by omega]
  refine cv (n := 2) (wr := [(oh, .inl (cI, 10000, .inl fh)), (og, .inl (cI, 32, .inl fs)), (on_, .inl (cI, 32, .inl fn))]) (w1 := (fun (u : (Nat → Int32) × (Nat → Int32)) => [(mo, .inr (8, [.int qc, .int (iZ (np : Int)), .ref ow, .ref om, .ref ok_, .ref oK, .ref og, .ref on_, .ref oh, .ref ox, .int qn, .int qf, .ref op_, .int ql])), (ow, .inl (cI, 108000, .inl u.1)), (om, .inl (cI, 9, .inl u.2)), (ok_, .inl (cI, 166400, .inl fk)), (oK, .inl (cI, 64, .inl fK))])) (As := [.int (iZ 5), .int (iZ ((2 * b_ : Nat) : Int))]) (rest := []) K hP hD hK hS hA hl.1 (c_Mo_load l D mo qc np ow om ok_ oK og on_ oh ox qn qf op_ ql fx1 fy1 cI fk fK v1 (kvf tv bv) 5 (2 * b_) H.size w1 hMR.1 (by decide) (by omega)) [3, 4, 5, 6, 7] [0, 1, 2] [0] rfl rfl rfl (by decide) (by decide) (by decide) 0 rfl rfl (big_in mw_1238 rfl) (big_in mw_10 rfl) (big_in mw_1235 rfl) (big_in mw_1237 rfl) (big_in sp_31 rfl) rfl rfl (by decide +kernel) ⟨by rw [hR]; exact Nat.le_of_ble_eq_true rfl, by rw [hR]; exact Nat.le_of_ble_eq_true rfl⟩ rfl (Nat.le_of_ble_eq_true rfl) d_Mo_products_24 ⟨by rw [hR]; exact Nat.le_of_ble_eq_true rfl, by rw [hR]; exact Nat.le_of_ble_eq_true rfl⟩ rfl (fun v u H locs hp2 hP hD hS _ => ?_)
  obtain ⟨fx2, fy2⟩ := u
  try dsimp only at hp2
  obtain ⟨rfl, w2⟩ := hp2
  have hP : va_P D cls0 [(oh, .inl (cI, 10000, .inl fh)), (og, .inl (cI, 32, .inl fs)), (on_, .inl (cI, 32, .inl fn)), (mo, .inr (8, [.int qc, .int (iZ (np : Int)), .ref ow, .ref om, .ref ok_, .ref oK, .ref og, .ref on_, .ref oh, .ref ox, .int qn, .int qf, .ref op_, .int ql])), (ow, .inl (cI, 108000, .inl fx2)), (om, .inl (cI, 9, .inl fy2)), (ok_, .inl (cI, 166400, .inl fk)), (oK, .inl (cI, 64, .inl fK))] H := hP
  have hD : va_D A [(oh, .inl (cI, 10000, .inl fh)), (og, .inl (cI, 32, .inl fs)), (on_, .inl (cI, 32, .inl fn)), (mo, .inr (8, [.int qc, .int (iZ (np : Int)), .ref ow, .ref om, .ref ok_, .ref oK, .ref og, .ref on_, .ref oh, .ref ox, .int qn, .int qf, .ref op_, .int ql])), (ow, .inl (cI, 108000, .inl fx2)), (om, .inl (cI, 9, .inl fy2)), (ok_, .inl (cI, 166400, .inl fk)), (oK, .inl (cI, 64, .inl fK))] := hD
  show W p l e R s m args below meth c H locs _ _ Q (F0 m 27 ls [])
  rw [kvf_0] at w2
  obtain ⟨v2, hv2⟩ : ∃ z, z = up v1 5 (tv b_) := ⟨_, rfl⟩
  rw [← hv2] at w2
  have y24 : v2 4 = tv a := by simp [hv2, hv1, up]
  have y25 : v2 5 = tv b_ := by simp [hv2, hv1, up]
  refine lv_aload_n hx hb d_Mo_products_27 rfl (lv_at hl 0 rfl) ?_
  refine lv_iconst (v := iZ (0)) hx hb d_Mo_products_28 (by decide +kernel) ?_
  refine lv_iconst (v := iZ (4)) hx hb d_Mo_products_29 (by decide +kernel) ?_
  refine lv_iconst (v := iZ (5)) hx hb d_Mo_products_30 (by decide +kernel) ?_
  refine cv (n := 3) (wr := [(oh, .inl (cI, 10000, .inl fh)), (og, .inl (cI, 32, .inl fs)), (on_, .inl (cI, 32, .inl fn)), (ok_, .inl (cI, 166400, .inl fk)), (oK, .inl (cI, 64, .inl fK))]) (w1 := (fun (u : (Nat → Int32) × (Nat → Int32)) => [(mo, .inr (8, [.int qc, .int (iZ (np : Int)), .ref ow, .ref om, .ref ok_, .ref oK, .ref og, .ref on_, .ref oh, .ref ox, .int qn, .int qf, .ref op_, .int ql])), (ow, .inl (cI, 108000, .inl u.1)), (om, .inl (cI, 9, .inl u.2))])) (As := [.int (iZ 0), .int (iZ 4), .int (iZ 5)]) (rest := []) K hP hD hK hS hA hl.1 (c_Mo_product l D mo qc np ow om ok_ oK og on_ oh ox qn qf op_ ql fx2 fy2 cI v2 0 4 5 H.size w2 (by decide) (by decide) (by decide) (by decide) (by decide) (by rw [y24, y25]; omega)) [3, 4, 5] [0, 1, 2, 6, 7] [0] rfl rfl rfl (by decide) (by decide) (by decide) 0 rfl rfl (big_in mw_1258 rfl) (big_in mw_10 rfl) (big_in mw_1255 rfl) (big_in mw_1257 rfl) (big_in sp_34 rfl) rfl rfl (by decide +kernel) ⟨by rw [hR]; exact Nat.le_of_ble_eq_true rfl, by rw [hR]; exact Nat.le_of_ble_eq_true rfl⟩ rfl (Nat.le_of_ble_eq_true rfl) d_Mo_products_31 ⟨by rw [hR]; exact Nat.le_of_ble_eq_true rfl, by rw [hR]; exact Nat.le_of_ble_eq_true rfl⟩ rfl (fun v u H locs hp3 hP hD hS _ => ?_)
  obtain ⟨fx3, fy3⟩ := u
  try dsimp only at hp3
  obtain ⟨rfl, w3⟩ := hp3
  have hP : va_P D cls0 [(oh, .inl (cI, 10000, .inl fh)), (og, .inl (cI, 32, .inl fs)), (on_, .inl (cI, 32, .inl fn)), (ok_, .inl (cI, 166400, .inl fk)), (oK, .inl (cI, 64, .inl fK)), (mo, .inr (8, [.int qc, .int (iZ (np : Int)), .ref ow, .ref om, .ref ok_, .ref oK, .ref og, .ref on_, .ref oh, .ref ox, .int qn, .int qf, .ref op_, .int ql])), (ow, .inl (cI, 108000, .inl fx3)), (om, .inl (cI, 9, .inl fy3))] H := hP
  have hD : va_D A [(oh, .inl (cI, 10000, .inl fh)), (og, .inl (cI, 32, .inl fs)), (on_, .inl (cI, 32, .inl fn)), (ok_, .inl (cI, 166400, .inl fk)), (oK, .inl (cI, 64, .inl fK)), (mo, .inr (8, [.int qc, .int (iZ (np : Int)), .ref ow, .ref om, .ref ok_, .ref oK, .ref og, .ref on_, .ref oh, .ref ox, .int qn, .int qf, .ref op_, .int ql])), (ow, .inl (cI, 108000, .inl fx3)), (om, .inl (cI, 9, .inl fy3))] := hD
  show W p l e R s m args below meth c H locs _ _ Q (F0 m 34 ls [])
  obtain ⟨v3, hv3⟩ : ∃ z, z = up v2 0 (v2 4 * v2 5) := ⟨_, rfl⟩
  rw [← hv3] at w3
  have y30 : v3 0 = tv a * tv b_ := by rw [hv3, up_s, y24, y25]
  refine lv_aload_n hx hb d_Mo_products_34 rfl (lv_at hl 0 rfl) ?_
  refine lv_iconst (v := iZ (4)) hx hb d_Mo_products_35 (by decide +kernel) ?_
  refine lv_iconst (v := iZ (2)) hx hb d_Mo_products_36 (by decide +kernel) ?_
  refine lv_iload_n hx hb d_Mo_products_37 rfl (lv_at hl 2 rfl) ?_
  refine zz_imul hx hb d_Mo_products_38 ?_
  refine lv_iconst (v := iZ (1)) hx hb d_Mo_products_39 (by decide +kernel) ?_
  refine zz_iadd hx hb d_Mo_products_40 ?_
  rw [show (2 * (a : Int) + 1 : Int) = ((2 * a + 1 : Nat) : Int) by omega]
  refine cv (n := 2) (wr := [(oh, .inl (cI, 10000, .inl fh)), (og, .inl (cI, 32, .inl fs)), (on_, .inl (cI, 32, .inl fn))]) (w1 := (fun (u : (Nat → Int32) × (Nat → Int32)) => [(mo, .inr (8, [.int qc, .int (iZ (np : Int)), .ref ow, .ref om, .ref ok_, .ref oK, .ref og, .ref on_, .ref oh, .ref ox, .int qn, .int qf, .ref op_, .int ql])), (ow, .inl (cI, 108000, .inl u.1)), (om, .inl (cI, 9, .inl u.2)), (ok_, .inl (cI, 166400, .inl fk)), (oK, .inl (cI, 64, .inl fK))])) (As := [.int (iZ 4), .int (iZ ((2 * a + 1 : Nat) : Int))]) (rest := []) K hP hD hK hS hA hl.1 (c_Mo_load l D mo qc np ow om ok_ oK og on_ oh ox qn qf op_ ql fx3 fy3 cI fk fK v3 (kvf tv bv) 4 (2 * a + 1) H.size w3 hMR.1 (by decide) (by omega)) [5, 6, 7, 3, 4] [0, 1, 2] [0] rfl rfl rfl (by decide) (by decide) (by decide) 0 rfl rfl (big_in mw_1238 rfl) (big_in mw_10 rfl) (big_in mw_1235 rfl) (big_in mw_1237 rfl) (big_in sp_31 rfl) rfl rfl (by decide +kernel) ⟨by rw [hR]; exact Nat.le_of_ble_eq_true rfl, by rw [hR]; exact Nat.le_of_ble_eq_true rfl⟩ rfl (Nat.le_of_ble_eq_true rfl) d_Mo_products_41 ⟨by rw [hR]; exact Nat.le_of_ble_eq_true rfl, by rw [hR]; exact Nat.le_of_ble_eq_true rfl⟩ rfl (fun v u H locs hp4 hP hD hS _ => ?_)
  obtain ⟨fx4, fy4⟩ := u
  try dsimp only at hp4
  obtain ⟨rfl, w4⟩ := hp4
  have hP : va_P D cls0 [(oh, .inl (cI, 10000, .inl fh)), (og, .inl (cI, 32, .inl fs)), (on_, .inl (cI, 32, .inl fn)), (mo, .inr (8, [.int qc, .int (iZ (np : Int)), .ref ow, .ref om, .ref ok_, .ref oK, .ref og, .ref on_, .ref oh, .ref ox, .int qn, .int qf, .ref op_, .int ql])), (ow, .inl (cI, 108000, .inl fx4)), (om, .inl (cI, 9, .inl fy4)), (ok_, .inl (cI, 166400, .inl fk)), (oK, .inl (cI, 64, .inl fK))] H := hP
  have hD : va_D A [(oh, .inl (cI, 10000, .inl fh)), (og, .inl (cI, 32, .inl fs)), (on_, .inl (cI, 32, .inl fn)), (mo, .inr (8, [.int qc, .int (iZ (np : Int)), .ref ow, .ref om, .ref ok_, .ref oK, .ref og, .ref on_, .ref oh, .ref ox, .int qn, .int qf, .ref op_, .int ql])), (ow, .inl (cI, 108000, .inl fx4)), (om, .inl (cI, 9, .inl fy4)), (ok_, .inl (cI, 166400, .inl fk)), (oK, .inl (cI, 64, .inl fK))] := hD
  show W p l e R s m args below meth c H locs _ _ Q (F0 m 44 ls [])
  rw [kvf_1] at w4
  obtain ⟨v4, hv4⟩ : ∃ z, z = up v3 4 (bv a) := ⟨_, rfl⟩
  rw [← hv4] at w4
  refine lv_aload_n hx hb d_Mo_products_44 rfl (lv_at hl 0 rfl) ?_
  refine lv_iconst (v := iZ (5)) hx hb d_Mo_products_45 (by decide +kernel) ?_
  refine lv_iconst (v := iZ (2)) hx hb d_Mo_products_46 (by decide +kernel) ?_
  refine lv_iload_n hx hb d_Mo_products_47 rfl (lv_at hl 3 rfl) ?_
  refine zz_imul hx hb d_Mo_products_48 ?_
  refine lv_iload hx hb d_Mo_products_49 (lv_at hl 4 rfl) ?_
  refine zz_if_eq (tgt := 58) hx hb d_Mo_products_51 (by decide) (by omega) (fun c51 => ?_) (fun c51 => False.elim (by omega))
  refine lv_iconst (v := iZ (1)) hx hb d_Mo_products_58 (by decide +kernel) ?_
  refine zz_iadd hx hb d_Mo_products_59 ?_
  rw [show (2 * (b_ : Int) + 1 : Int) = ((2 * b_ + 1 : Nat) : Int) by omega]
  refine cv (n := 2) (wr := [(oh, .inl (cI, 10000, .inl fh)), (og, .inl (cI, 32, .inl fs)), (on_, .inl (cI, 32, .inl fn))]) (w1 := (fun (u : (Nat → Int32) × (Nat → Int32)) => [(mo, .inr (8, [.int qc, .int (iZ (np : Int)), .ref ow, .ref om, .ref ok_, .ref oK, .ref og, .ref on_, .ref oh, .ref ox, .int qn, .int qf, .ref op_, .int ql])), (ow, .inl (cI, 108000, .inl u.1)), (om, .inl (cI, 9, .inl u.2)), (ok_, .inl (cI, 166400, .inl fk)), (oK, .inl (cI, 64, .inl fK))])) (As := [.int (iZ 5), .int (iZ ((2 * b_ + 1 : Nat) : Int))]) (rest := []) K hP hD hK hS hA hl.1 (c_Mo_load l D mo qc np ow om ok_ oK og on_ oh ox qn qf op_ ql fx4 fy4 cI fk fK v4 (kvf tv bv) 5 (2 * b_ + 1) H.size w4 hMR.1 (by decide) (by omega)) [3, 4, 5, 6, 7] [0, 1, 2] [0] rfl rfl rfl (by decide) (by decide) (by decide) 0 rfl rfl (big_in mw_1238 rfl) (big_in mw_10 rfl) (big_in mw_1235 rfl) (big_in mw_1237 rfl) (big_in sp_31 rfl) rfl rfl (by decide +kernel) ⟨by rw [hR]; exact Nat.le_of_ble_eq_true rfl, by rw [hR]; exact Nat.le_of_ble_eq_true rfl⟩ rfl (Nat.le_of_ble_eq_true rfl) d_Mo_products_60 ⟨by rw [hR]; exact Nat.le_of_ble_eq_true rfl, by rw [hR]; exact Nat.le_of_ble_eq_true rfl⟩ rfl (fun v u H locs hp5 hP hD hS _ => ?_)
  obtain ⟨fx5, fy5⟩ := u
  try dsimp only at hp5
  obtain ⟨rfl, w5⟩ := hp5
  have hP : va_P D cls0 [(oh, .inl (cI, 10000, .inl fh)), (og, .inl (cI, 32, .inl fs)), (on_, .inl (cI, 32, .inl fn)), (mo, .inr (8, [.int qc, .int (iZ (np : Int)), .ref ow, .ref om, .ref ok_, .ref oK, .ref og, .ref on_, .ref oh, .ref ox, .int qn, .int qf, .ref op_, .int ql])), (ow, .inl (cI, 108000, .inl fx5)), (om, .inl (cI, 9, .inl fy5)), (ok_, .inl (cI, 166400, .inl fk)), (oK, .inl (cI, 64, .inl fK))] H := hP
  have hD : va_D A [(oh, .inl (cI, 10000, .inl fh)), (og, .inl (cI, 32, .inl fs)), (on_, .inl (cI, 32, .inl fn)), (mo, .inr (8, [.int qc, .int (iZ (np : Int)), .ref ow, .ref om, .ref ok_, .ref oK, .ref og, .ref on_, .ref oh, .ref ox, .int qn, .int qf, .ref op_, .int ql])), (ow, .inl (cI, 108000, .inl fx5)), (om, .inl (cI, 9, .inl fy5)), (ok_, .inl (cI, 166400, .inl fk)), (oK, .inl (cI, 64, .inl fK))] := hD
  show W p l e R s m args below meth c H locs _ _ Q (F0 m 63 ls [])
  rw [kvf_1] at w5
  obtain ⟨v5, hv5⟩ : ∃ z, z = up v4 5 (bv b_) := ⟨_, rfl⟩
  rw [← hv5] at w5
  have y54 : v5 4 = bv a := by simp [hv5, hv4, up]
  have y55 : v5 5 = bv b_ := by simp [hv5, hv4, up]
  have y50 : v5 0 = tv a * tv b_ := by rw [hv5, up_n (by decide), hv4, up_n (by decide)]; exact y30
  refine lv_aload_n hx hb d_Mo_products_63 rfl (lv_at hl 0 rfl) ?_
  refine lv_iconst (v := iZ (1)) hx hb d_Mo_products_64 (by decide +kernel) ?_
  refine lv_iconst (v := iZ (4)) hx hb d_Mo_products_65 (by decide +kernel) ?_
  refine lv_iconst (v := iZ (5)) hx hb d_Mo_products_66 (by decide +kernel) ?_
  refine cv (n := 3) (wr := [(oh, .inl (cI, 10000, .inl fh)), (og, .inl (cI, 32, .inl fs)), (on_, .inl (cI, 32, .inl fn)), (ok_, .inl (cI, 166400, .inl fk)), (oK, .inl (cI, 64, .inl fK))]) (w1 := (fun (u : (Nat → Int32) × (Nat → Int32)) => [(mo, .inr (8, [.int qc, .int (iZ (np : Int)), .ref ow, .ref om, .ref ok_, .ref oK, .ref og, .ref on_, .ref oh, .ref ox, .int qn, .int qf, .ref op_, .int ql])), (ow, .inl (cI, 108000, .inl u.1)), (om, .inl (cI, 9, .inl u.2))])) (As := [.int (iZ 1), .int (iZ 4), .int (iZ 5)]) (rest := []) K hP hD hK hS hA hl.1 (c_Mo_product l D mo qc np ow om ok_ oK og on_ oh ox qn qf op_ ql fx5 fy5 cI v5 1 4 5 H.size w5 (by decide) (by decide) (by decide) (by decide) (by decide) (by rw [y54, y55]; omega)) [3, 4, 5] [0, 1, 2, 6, 7] [0] rfl rfl rfl (by decide) (by decide) (by decide) 0 rfl rfl (big_in mw_1258 rfl) (big_in mw_10 rfl) (big_in mw_1255 rfl) (big_in mw_1257 rfl) (big_in sp_34 rfl) rfl rfl (by decide +kernel) ⟨by rw [hR]; exact Nat.le_of_ble_eq_true rfl, by rw [hR]; exact Nat.le_of_ble_eq_true rfl⟩ rfl (Nat.le_of_ble_eq_true rfl) d_Mo_products_67 ⟨by rw [hR]; exact Nat.le_of_ble_eq_true rfl, by rw [hR]; exact Nat.le_of_ble_eq_true rfl⟩ rfl (fun v u H locs hp6 hP hD hS _ => ?_)
  obtain ⟨fx6, fy6⟩ := u
  try dsimp only at hp6
  obtain ⟨rfl, w6⟩ := hp6
  have hP : va_P D cls0 [(oh, .inl (cI, 10000, .inl fh)), (og, .inl (cI, 32, .inl fs)), (on_, .inl (cI, 32, .inl fn)), (ok_, .inl (cI, 166400, .inl fk)), (oK, .inl (cI, 64, .inl fK)), (mo, .inr (8, [.int qc, .int (iZ (np : Int)), .ref ow, .ref om, .ref ok_, .ref oK, .ref og, .ref on_, .ref oh, .ref ox, .int qn, .int qf, .ref op_, .int ql])), (ow, .inl (cI, 108000, .inl fx6)), (om, .inl (cI, 9, .inl fy6))] H := hP
  have hD : va_D A [(oh, .inl (cI, 10000, .inl fh)), (og, .inl (cI, 32, .inl fs)), (on_, .inl (cI, 32, .inl fn)), (ok_, .inl (cI, 166400, .inl fk)), (oK, .inl (cI, 64, .inl fK)), (mo, .inr (8, [.int qc, .int (iZ (np : Int)), .ref ow, .ref om, .ref ok_, .ref oK, .ref og, .ref on_, .ref oh, .ref ox, .int qn, .int qf, .ref op_, .int ql])), (ow, .inl (cI, 108000, .inl fx6)), (om, .inl (cI, 9, .inl fy6))] := hD
  show W p l e R s m args below meth c H locs _ _ Q (F0 m 70 ls [])
  obtain ⟨v6, hv6⟩ : ∃ z, z = up v5 1 (v5 4 * v5 5) := ⟨_, rfl⟩
  rw [← hv6] at w6
  have y60 : v6 0 = tv a * tv b_ := by rw [hv6, up_n (by decide)]; exact y50
  have y61 : v6 1 = bv a * bv b_ := by rw [hv6, up_s, y54, y55]
  have l5 := lm_mul (tv a) (tv b_)
  have l6 := lm_mul (bv a) (bv b_)
  obtain ⟨sp1, sp2⟩ := sg_prod ja3 jb3 ja2 jb2
  refine lv_aload_n hx hb d_Mo_products_70 rfl (lv_at hl 0 rfl) ?_
  refine lv_iload_n hx hb d_Mo_products_71 rfl (lv_at hl 1 rfl) ?_
  refine lv_aload_n hx hb d_Mo_products_72 rfl (lv_at hl 0 rfl) ?_
  refine va_get (D := D) (ci := 8) (v := .ref og) (C := R_Mo) (T := F_Mo) (N := 14) hx hb hts i_Mo hown hK hP 5 rfl rfl 6 (by decide) (hts _ (big_in mw_1121 rfl)) (fun _ h9 => h9) rfl d_Mo_products_73 ?_
  refine lv_iload_n hx hb d_Mo_products_76 rfl (lv_at hl 2 rfl) ?_
  refine zz_iald hx hb hK hP 1 0 rfl rfl (a) (by omega) (by omega) (by omega) d_Mo_products_77 ?_
  rw [hMR.2.1 a (by omega)]
  refine lv_aload_n hx hb d_Mo_products_78 rfl (lv_at hl 0 rfl) ?_
  refine va_get (D := D) (ci := 8) (v := .ref og) (C := R_Mo) (T := F_Mo) (N := 14) hx hb hts i_Mo hown hK hP 5 rfl rfl 6 (by decide) (hts _ (big_in mw_1121 rfl)) (fun _ h9 => h9) rfl d_Mo_products_79 ?_
  refine lv_iload_n hx hb d_Mo_products_82 rfl (lv_at hl 3 rfl) ?_
  refine zz_iald hx hb hK hP 1 0 rfl rfl (b_) (by omega) (by omega) (by omega) d_Mo_products_83 ?_
  rw [hMR.2.1 b_ (by omega)]
  refine zz_imul hx hb d_Mo_products_84 ?_
  refine lv_iload hx hb d_Mo_products_85 (lv_at hl 4 rfl) ?_
  refine zz_if_eq (tgt := 94) hx hb d_Mo_products_87 (by decide) (by omega) (fun c87 => ?_) (fun c87 => False.elim (by omega))
  refine lv_iconst (v := iZ (2)) hx hb d_Mo_products_94 (by decide +kernel) ?_
  refine cv (n := 3) (wr := []) (w1 := (fun (u : (Nat → Int32) × (Nat → Int32) × (Nat → Int32) × (Nat → Nat)) => [(mo, .inr (8, [.int (iZ 2), .int (iZ (np : Int)), .ref ow, .ref om, .ref ok_, .ref oK, .ref og, .ref on_, .ref oh, .ref ox, .int qn, .int qf, .ref op_, .int ql])), (ow, .inl (cI, 108000, .inl u.1)), (om, .inl (cI, 9, .inl u.2.1)), (oh, .inl (cI, 10000, .inl u.2.2.1)), (ok_, .inl (cI, 166400, .inl fk)), (oK, .inl (cI, 64, .inl fK)), (og, .inl (cI, 32, .inl fs)), (on_, .inl (cI, 32, .inl fn))])) (As := [.int (iZ (to : Int)), .int (iZ ((sg a) * (sg b_))), .int (iZ 2)]) (rest := []) K hP hD hK hS hA hl.1 (c_Mo_putX l D mo qc np ow om ok_ oK og on_ oh ox qn qf op_ ql fx6 fy6 cI fh fk fK fs fn v6 tv bv sg to ((sg a) * (sg b_)) 2 H.size w6 hMR (by omega) hnd hnp (by omega) (by decide) (by rw [y61]; exact Nat.mul_pos pa pb) (by rw [y60]; omega) (by rw [y61]; omega) (by rw [y60, y61]; exact hfit)) [5, 6, 7, 0, 3, 4, 1, 2] [] [0] rfl rfl rfl (by decide) (by decide) (by decide) 0 rfl rfl (big_in mw_1185 rfl) (big_in mw_10 rfl) (big_in mw_1182 rfl) (big_in mw_1184 rfl) (big_in sp_20 rfl) rfl rfl (by decide +kernel) ⟨by rw [hR]; exact Nat.le_of_ble_eq_true rfl, by rw [hR]; exact Nat.le_of_ble_eq_true rfl⟩ rfl (Nat.le_of_ble_eq_true rfl) d_Mo_products_95 ⟨by rw [hR]; exact Nat.le_of_ble_eq_true rfl, by rw [hR]; exact Nat.le_of_ble_eq_true rfl⟩ rfl (fun v u H locs hp7 hP hD hS _ => ?_)
  obtain ⟨fa, fb, fc, v9⟩ := u
  try dsimp only at hp7
  obtain ⟨rfl, w9⟩ := hp7
  have hP : va_P D cls0 [(mo, .inr (8, [.int (iZ 2), .int (iZ (np : Int)), .ref ow, .ref om, .ref ok_, .ref oK, .ref og, .ref on_, .ref oh, .ref ox, .int qn, .int qf, .ref op_, .int ql])), (ow, .inl (cI, 108000, .inl fa)), (om, .inl (cI, 9, .inl fb)), (oh, .inl (cI, 10000, .inl fc)), (ok_, .inl (cI, 166400, .inl fk)), (oK, .inl (cI, 64, .inl fK)), (og, .inl (cI, 32, .inl fs)), (on_, .inl (cI, 32, .inl fn))] H := hP
  have hD : va_D A [(mo, .inr (8, [.int (iZ 2), .int (iZ (np : Int)), .ref ow, .ref om, .ref ok_, .ref oK, .ref og, .ref on_, .ref oh, .ref ox, .int qn, .int qf, .ref op_, .int ql])), (ow, .inl (cI, 108000, .inl fa)), (om, .inl (cI, 9, .inl fb)), (oh, .inl (cI, 10000, .inl fc)), (ok_, .inl (cI, 166400, .inl fk)), (oK, .inl (cI, 64, .inl fK)), (og, .inl (cI, 32, .inl fs)), (on_, .inl (cI, 32, .inl fn))] := hD
  show W p l e R s m args below meth c H locs _ _ Q (F0 m 98 ls [.int (iZ 0)])
  have hP9 : va_P D cls0 [(mo, .inr (8, [.int (iZ 2), .int (iZ (np : Int)), .ref ow, .ref om, .ref ok_, .ref oK, .ref og, .ref on_, .ref oh, .ref ox, .int qn, .int qf, .ref op_, .int ql])), (ow, .inl (cI, 108000, .inl fa)), (om, .inl (cI, 9, .inl fb)), (oh, .inl (cI, 10000, .inl fc)), (ok_, .inl (cI, 166400, .inl fk)), (oK, .inl (cI, 64, .inl fK)), (og, .inl (cI, 32, .inl fs)), (on_, .inl (cI, 32, .inl fn))] H := hP.sub [0, 1, 2, 3, 4, 5, 6, 7] rfl
  have hD9 : va_D A [(mo, .inr (8, [.int (iZ 2), .int (iZ (np : Int)), .ref ow, .ref om, .ref ok_, .ref oK, .ref og, .ref on_, .ref oh, .ref ox, .int qn, .int qf, .ref op_, .int ql])), (ow, .inl (cI, 108000, .inl fa)), (om, .inl (cI, 9, .inl fb)), (oh, .inl (cI, 10000, .inl fc)), (ok_, .inl (cI, 166400, .inl fk)), (oK, .inl (cI, 64, .inl fK)), (og, .inl (cI, 32, .inl fs)), (on_, .inl (cI, 32, .inl fn))] := hD.sub [0, 1, 2, 3, 4, 5, 6, 7] (by decide) rfl
  rw [hQ, ← hAe]
  refine r_i (v := (iZ 0)) K (fa, fb, fc, v9) hS d_Mo_products_98 ?_ (fun t ht hv => ?_)
  · exact ⟨rfl, w9⟩
  · exact ⟨by rw [ht]; exact hP9, va_K.moved hv hK, by rw [← hAe]; exact hD9⟩
set_option maxHeartbeats 4000000 in
set_option maxRecDepth 100000 in
/-- Mo_products -/
theorem c_Mo_products1 (l : Launch) (D : va_G) (mo : Nat) (qc : Int32) (np : Nat) (ow : Nat) (om : Nat) (ok_ : Nat) (oK : Nat) (og : Nat) (on_ : Nat) (oh : Nat) (ox : Nat) (qn : Int32) (qf : Int32) (op_ : Nat) (ql : Int32) (fw : Nat → Int32) (fm : Nat → Int32) (cI : ClassId) (fh : Nat → Int32) (fk : Nat → Int32) (fK : Nat → Int32) (fs : Nat → Int32) (fn : Nat → Int32) (val : Nat → Nat) (tv : Nat → Nat) (bv : Nat → Nat) (sg : Nat → Int) (to : Nat) (a : Nat) (b_ : Nat) (sz : Nat) (hW : WB fw fm val) (hMR : MoR fk fK fs fn tv bv sg) (hnd : ndS tv bv 32 ≤ np) (hnp : np ≤ 1024) (J : RgC tv bv sg) (hbv : ∀ r, r < 32 → 0 < bv r) (t1 : to < 32) (t2 : a < 32) (t3_ : b_ < 32) (hb0 : 0 < tv b_) (hfit : ndS tv bv 32 + (lm (rdN (tv a * bv b_) (bv a * tv b_)) + lm (rdD (tv a * bv b_) (bv a * tv b_))) ≤ np + (lm (tv to) + lm (bv to))) : Met l y_Mo_products (wsB y_Mo_products b_Mo_products 5 (some .int)) ({ frames := 5, cells := 0, slots := 0, locals := 125 }) (va_Pc [.ref mo, .int (iZ (to : Int)), .int (iZ (a : Int)), .int (iZ (b_ : Int)), .int (iZ 1)] (wPre D [(cI, .int)] [(mo, .inr (8, [.int qc, .int (iZ (np : Int)), .ref ow, .ref om, .ref ok_, .ref oK, .ref og, .ref on_, .ref oh, .ref ox, .int qn, .int qf, .ref op_, .int ql])), (ow, .inl (cI, 108000, .inl fw)), (om, .inl (cI, 9, .inl fm)), (oh, .inl (cI, 10000, .inl fh)), (ok_, .inl (cI, 166400, .inl fk)), (oK, .inl (cI, 64, .inl fK)), (og, .inl (cI, 32, .inl fs)), (on_, .inl (cI, 32, .inl fn))] sz)) (va_QV (fun (v_9 : Option Value) (u_9 : (Nat → Int32) × (Nat → Int32) × (Nat → Int32) × (Nat → Int32) × (Nat → Int32) × (Nat → Int32) × (Nat → Int32) × (Nat → Nat)) => v_9 = some (.int (iZ ((lm (rdN (tv a * bv b_) (bv a * tv b_)) : Int) + (lm (rdD (tv a * bv b_) (bv a * tv b_)) : Int)))) ∧ (WB u_9.1 u_9.2.1 u_9.2.2.2.2.2.2.2) ∧ (MoR u_9.2.2.2.1 u_9.2.2.2.2.1 u_9.2.2.2.2.2.1 u_9.2.2.2.2.2.2.1 (up tv to (rdN (tv a * bv b_) (bv a * tv b_))) (up bv to (rdD (tv a * bv b_) (bv a * tv b_))) (up sg to (if rdN (tv a * bv b_) (bv a * tv b_) = 0 then 0 else sg a * sg b_)))) (fun u_9 => wPost D [(cI, .int)] [(mo, .inr (8, [.int qc, .int (iZ (np : Int)), .ref ow, .ref om, .ref ok_, .ref oK, .ref og, .ref on_, .ref oh, .ref ox, .int qn, .int qf, .ref op_, .int ql])), (ow, .inl (cI, 108000, .inl fw)), (om, .inl (cI, 9, .inl fm)), (oh, .inl (cI, 10000, .inl fh)), (ok_, .inl (cI, 166400, .inl fk)), (oK, .inl (cI, 64, .inl fK)), (og, .inl (cI, 32, .inl fs)), (on_, .inl (cI, 32, .inl fn))] [(mo, .inr (8, [.int (iZ 0), .int (iZ (np : Int)), .ref ow, .ref om, .ref ok_, .ref oK, .ref og, .ref on_, .ref oh, .ref ox, .int qn, .int qf, .ref op_, .int ql])), (ow, .inl (cI, 108000, .inl u_9.1)), (om, .inl (cI, 9, .inl u_9.2.1)), (oh, .inl (cI, 10000, .inl u_9.2.2.1)), (ok_, .inl (cI, 166400, .inl u_9.2.2.2.1)), (oK, .inl (cI, 64, .inl u_9.2.2.2.2.1)), (og, .inl (cI, 32, .inl u_9.2.2.2.2.2.1)), (on_, .inl (cI, 32, .inl u_9.2.2.2.2.2.2.1))] sz) (va_A [(mo, .inr (8, [.int qc, .int (iZ (np : Int)), .ref ow, .ref om, .ref ok_, .ref oK, .ref og, .ref on_, .ref oh, .ref ox, .int qn, .int qf, .ref op_, .int ql])), (ow, .inl (cI, 108000, .inl fw)), (om, .inl (cI, 9, .inl fm)), (oh, .inl (cI, 10000, .inl fh)), (ok_, .inl (cI, 166400, .inl fk)), (oK, .inl (cI, 64, .inl fK)), (og, .inl (cI, 32, .inl fs)), (on_, .inl (cI, 32, .inl fn))] sz)) 0 0 (va_A [(mo, .inr (8, [.int qc, .int (iZ (np : Int)), .ref ow, .ref om, .ref ok_, .ref oK, .ref og, .ref on_, .ref oh, .ref ox, .int qn, .int qf, .ref op_, .int ql])), (ow, .inl (cI, 108000, .inl fw)), (om, .inl (cI, 9, .inl fm)), (oh, .inl (cI, 10000, .inl fh)), (ok_, .inl (cI, 166400, .inl fk)), (oK, .inl (cI, 64, .inl fK)), (og, .inl (cI, 32, .inl fs)), (on_, .inl (cI, 32, .inl fn))] sz) := by
  refine met_enter (by decide +kernel) (Nat.le_of_ble_eq_true rfl) ?_
  intro p e s m args below meth c ls A R Q H locs K hin hAe hA hR hQ hP hK hD hS hl
  obtain ⟨hx, hb, hml, hrt, hlk, hts, hown, hno⟩ := id K
  have hl : lv_has ls 5 [(0, .ref mo), (1, .int (iZ (to : Int))), (2, .int (iZ (a : Int))), (3, .int (iZ (b_ : Int))), (4, .int (iZ 1))] := hl
  have hlr : ∀ q, q < 32 → lm (tv q) + lm (bv q) ≤ 1024 := fun q hq => by have z := ndS_le (tv := tv) (bv := bv) hq; omega
  have hnt : ∀ q, q < 32 → nd (tv q) ≤ 2600 := fun q hq => by have z := nd_lm (v := tv q) (L := 1024) (by have y := hlr q hq; omega); omega
  have hnb : ∀ q, q < 32 → nd (bv q) ≤ 2600 := fun q hq => by have z := nd_lm (v := bv q) (L := 1024) (by have y := hlr q hq; omega); omega
  obtain ⟨ja1, ja2, ja3⟩ := J a (by omega)
  obtain ⟨jb1, jb2, jb3⟩ := J b_ (by omega)
  have pa := hbv a (by omega)
  have pb := hbv b_ (by omega)
  have la := hlr a (by omega)
  have lb := hlr b_ (by omega)
  have n1 := hnt a (by omega)
  have n2 := hnb a (by omega)
  have n3 := hnt b_ (by omega)
  have n4 := hnb b_ (by omega)
  refine lv_aload_n hx hb d_Mo_products_0 rfl (lv_at hl 0 rfl) ?_
  refine lv_iconst (v := iZ (4)) hx hb d_Mo_products_1 (by decide +kernel) ?_
  refine lv_iconst (v := iZ (2)) hx hb d_Mo_products_2 (by decide +kernel) ?_
  refine lv_iload_n hx hb d_Mo_products_3 rfl (lv_at hl 2 rfl) ?_
  refine zz_imul hx hb d_Mo_products_4 ?_
  rw [show (2 * (a : Int) : Int) = ((2 * a : Nat) : Int) by omega]
  refine cv (n := 2) (wr := [(oh, .inl (cI, 10000, .inl fh)), (og, .inl (cI, 32, .inl fs)), (on_, .inl (cI, 32, .inl fn))]) (w1 := (fun (u : (Nat → Int32) × (Nat → Int32)) => [(mo, .inr (8, [.int qc, .int (iZ (np : Int)), .ref ow, .ref om, .ref ok_, .ref oK, .ref og, .ref on_, .ref oh, .ref ox, .int qn, .int qf, .ref op_, .int ql])), (ow, .inl (cI, 108000, .inl u.1)), (om, .inl (cI, 9, .inl u.2)), (ok_, .inl (cI, 166400, .inl fk)), (oK, .inl (cI, 64, .inl fK))])) (As := [.int (iZ 4), .int (iZ ((2 * a : Nat) : Int))]) (rest := []) K hP hD hK hS hA hl.1 (c_Mo_load l D mo qc np ow om ok_ oK og on_ oh ox qn qf op_ ql fw fm cI fk fK val (kvf tv bv) 4 (2 * a) H.size hW hMR.1 (by decide) (by omega)) [0, 1, 2, 4, 5] [3, 6, 7] [0] rfl rfl rfl (by decide) (by decide) (by decide) 0 rfl rfl (big_in mw_1238 rfl) (big_in mw_10 rfl) (big_in mw_1235 rfl) (big_in mw_1237 rfl) (big_in sp_31 rfl) rfl rfl (by decide +kernel) ⟨by rw [hR]; exact Nat.le_of_ble_eq_true rfl, by rw [hR]; exact Nat.le_of_ble_eq_true rfl⟩ rfl (Nat.le_of_ble_eq_true rfl) d_Mo_products_5 ⟨by rw [hR]; exact Nat.le_of_ble_eq_true rfl, by rw [hR]; exact Nat.le_of_ble_eq_true rfl⟩ rfl (fun v u H locs hp1 hP hD hS _ => ?_)
  obtain ⟨fx1, fy1⟩ := u
  try dsimp only at hp1
  obtain ⟨rfl, w1⟩ := hp1
  have hP : va_P D cls0 [(oh, .inl (cI, 10000, .inl fh)), (og, .inl (cI, 32, .inl fs)), (on_, .inl (cI, 32, .inl fn)), (mo, .inr (8, [.int qc, .int (iZ (np : Int)), .ref ow, .ref om, .ref ok_, .ref oK, .ref og, .ref on_, .ref oh, .ref ox, .int qn, .int qf, .ref op_, .int ql])), (ow, .inl (cI, 108000, .inl fx1)), (om, .inl (cI, 9, .inl fy1)), (ok_, .inl (cI, 166400, .inl fk)), (oK, .inl (cI, 64, .inl fK))] H := hP
  have hD : va_D A [(oh, .inl (cI, 10000, .inl fh)), (og, .inl (cI, 32, .inl fs)), (on_, .inl (cI, 32, .inl fn)), (mo, .inr (8, [.int qc, .int (iZ (np : Int)), .ref ow, .ref om, .ref ok_, .ref oK, .ref og, .ref on_, .ref oh, .ref ox, .int qn, .int qf, .ref op_, .int ql])), (ow, .inl (cI, 108000, .inl fx1)), (om, .inl (cI, 9, .inl fy1)), (ok_, .inl (cI, 166400, .inl fk)), (oK, .inl (cI, 64, .inl fK))] := hD
  show W p l e R s m args below meth c H locs _ _ Q (F0 m 8 ls [])
  rw [kvf_0] at w1
  obtain ⟨v1, hv1⟩ : ∃ z, z = up val 4 (tv a) := ⟨_, rfl⟩
  rw [← hv1] at w1
  refine lv_aload_n hx hb d_Mo_products_8 rfl (lv_at hl 0 rfl) ?_
  refine lv_iconst (v := iZ (5)) hx hb d_Mo_products_9 (by decide +kernel) ?_
  refine lv_iconst (v := iZ (2)) hx hb d_Mo_products_10 (by decide +kernel) ?_
  refine lv_iload_n hx hb d_Mo_products_11 rfl (lv_at hl 3 rfl) ?_
  refine zz_imul hx hb d_Mo_products_12 ?_
  refine lv_iload hx hb d_Mo_products_13 (lv_at hl 4 rfl) ?_
  refine zz_if_eq (tgt := 22) hx hb d_Mo_products_15 (by decide) (by omega) (fun c15 => False.elim (by omega)) (fun c15 => ?_)
  refine lv_iconst (v := iZ (1)) hx hb d_Mo_products_18 (by decide +kernel) ?_
  refine lv_goto (tgt := 23) hx hb d_Mo_products_19 (by decide) ?_
  refine zz_iadd hx hb d_Mo_products_23 ?_
  rw [show (2 * (b_ : Int) + 1 : Int) = ((2 * b_ + 1 : Nat) : Int) by omega]
  refine cv (n := 2) (wr := [(oh, .inl (cI, 10000, .inl fh)), (og, .inl (cI, 32, .inl fs)), (on_, .inl (cI, 32, .inl fn))]) (w1 := (fun (u : (Nat → Int32) × (Nat → Int32)) => [(mo, .inr (8, [.int qc, .int (iZ (np : Int)), .ref ow, .ref om, .ref ok_, .ref oK, .ref og, .ref on_, .ref oh, .ref ox, .int qn, .int qf, .ref op_, .int ql])), (ow, .inl (cI, 108000, .inl u.1)), (om, .inl (cI, 9, .inl u.2)), (ok_, .inl (cI, 166400, .inl fk)), (oK, .inl (cI, 64, .inl fK))])) (As := [.int (iZ 5), .int (iZ ((2 * b_ + 1 : Nat) : Int))]) (rest := []) K hP hD hK hS hA hl.1 (c_Mo_load l D mo qc np ow om ok_ oK og on_ oh ox qn qf op_ ql fx1 fy1 cI fk fK v1 (kvf tv bv) 5 (2 * b_ + 1) H.size w1 hMR.1 (by decide) (by omega)) [3, 4, 5, 6, 7] [0, 1, 2] [0] rfl rfl rfl (by decide) (by decide) (by decide) 0 rfl rfl (big_in mw_1238 rfl) (big_in mw_10 rfl) (big_in mw_1235 rfl) (big_in mw_1237 rfl) (big_in sp_31 rfl) rfl rfl (by decide +kernel) ⟨by rw [hR]; exact Nat.le_of_ble_eq_true rfl, by rw [hR]; exact Nat.le_of_ble_eq_true rfl⟩ rfl (Nat.le_of_ble_eq_true rfl) d_Mo_products_24 ⟨by rw [hR]; exact Nat.le_of_ble_eq_true rfl, by rw [hR]; exact Nat.le_of_ble_eq_true rfl⟩ rfl (fun v u H locs hp2 hP hD hS _ => ?_)
  obtain ⟨fx2, fy2⟩ := u
  try dsimp only at hp2
  obtain ⟨rfl, w2⟩ := hp2
  have hP : va_P D cls0 [(oh, .inl (cI, 10000, .inl fh)), (og, .inl (cI, 32, .inl fs)), (on_, .inl (cI, 32, .inl fn)), (mo, .inr (8, [.int qc, .int (iZ (np : Int)), .ref ow, .ref om, .ref ok_, .ref oK, .ref og, .ref on_, .ref oh, .ref ox, .int qn, .int qf, .ref op_, .int ql])), (ow, .inl (cI, 108000, .inl fx2)), (om, .inl (cI, 9, .inl fy2)), (ok_, .inl (cI, 166400, .inl fk)), (oK, .inl (cI, 64, .inl fK))] H := hP
  have hD : va_D A [(oh, .inl (cI, 10000, .inl fh)), (og, .inl (cI, 32, .inl fs)), (on_, .inl (cI, 32, .inl fn)), (mo, .inr (8, [.int qc, .int (iZ (np : Int)), .ref ow, .ref om, .ref ok_, .ref oK, .ref og, .ref on_, .ref oh, .ref ox, .int qn, .int qf, .ref op_, .int ql])), (ow, .inl (cI, 108000, .inl fx2)), (om, .inl (cI, 9, .inl fy2)), (ok_, .inl (cI, 166400, .inl fk)), (oK, .inl (cI, 64, .inl fK))] := hD
  show W p l e R s m args below meth c H locs _ _ Q (F0 m 27 ls [])
  rw [kvf_1] at w2
  obtain ⟨v2, hv2⟩ : ∃ z, z = up v1 5 (bv b_) := ⟨_, rfl⟩
  rw [← hv2] at w2
  have y24 : v2 4 = tv a := by simp [hv2, hv1, up]
  have y25 : v2 5 = bv b_ := by simp [hv2, hv1, up]
  refine lv_aload_n hx hb d_Mo_products_27 rfl (lv_at hl 0 rfl) ?_
  refine lv_iconst (v := iZ (0)) hx hb d_Mo_products_28 (by decide +kernel) ?_
  refine lv_iconst (v := iZ (4)) hx hb d_Mo_products_29 (by decide +kernel) ?_
  refine lv_iconst (v := iZ (5)) hx hb d_Mo_products_30 (by decide +kernel) ?_
  refine cv (n := 3) (wr := [(oh, .inl (cI, 10000, .inl fh)), (og, .inl (cI, 32, .inl fs)), (on_, .inl (cI, 32, .inl fn)), (ok_, .inl (cI, 166400, .inl fk)), (oK, .inl (cI, 64, .inl fK))]) (w1 := (fun (u : (Nat → Int32) × (Nat → Int32)) => [(mo, .inr (8, [.int qc, .int (iZ (np : Int)), .ref ow, .ref om, .ref ok_, .ref oK, .ref og, .ref on_, .ref oh, .ref ox, .int qn, .int qf, .ref op_, .int ql])), (ow, .inl (cI, 108000, .inl u.1)), (om, .inl (cI, 9, .inl u.2))])) (As := [.int (iZ 0), .int (iZ 4), .int (iZ 5)]) (rest := []) K hP hD hK hS hA hl.1 (c_Mo_product l D mo qc np ow om ok_ oK og on_ oh ox qn qf op_ ql fx2 fy2 cI v2 0 4 5 H.size w2 (by decide) (by decide) (by decide) (by decide) (by decide) (by rw [y24, y25]; omega)) [3, 4, 5] [0, 1, 2, 6, 7] [0] rfl rfl rfl (by decide) (by decide) (by decide) 0 rfl rfl (big_in mw_1258 rfl) (big_in mw_10 rfl) (big_in mw_1255 rfl) (big_in mw_1257 rfl) (big_in sp_34 rfl) rfl rfl (by decide +kernel) ⟨by rw [hR]; exact Nat.le_of_ble_eq_true rfl, by rw [hR]; exact Nat.le_of_ble_eq_true rfl⟩ rfl (Nat.le_of_ble_eq_true rfl) d_Mo_products_31 ⟨by rw [hR]; exact Nat.le_of_ble_eq_true rfl, by rw [hR]; exact Nat.le_of_ble_eq_true rfl⟩ rfl (fun v u H locs hp3 hP hD hS _ => ?_)
  obtain ⟨fx3, fy3⟩ := u
  try dsimp only at hp3
  obtain ⟨rfl, w3⟩ := hp3
  have hP : va_P D cls0 [(oh, .inl (cI, 10000, .inl fh)), (og, .inl (cI, 32, .inl fs)), (on_, .inl (cI, 32, .inl fn)), (ok_, .inl (cI, 166400, .inl fk)), (oK, .inl (cI, 64, .inl fK)), (mo, .inr (8, [.int qc, .int (iZ (np : Int)), .ref ow, .ref om, .ref ok_, .ref oK, .ref og, .ref on_, .ref oh, .ref ox, .int qn, .int qf, .ref op_, .int ql])), (ow, .inl (cI, 108000, .inl fx3)), (om, .inl (cI, 9, .inl fy3))] H := hP
  have hD : va_D A [(oh, .inl (cI, 10000, .inl fh)), (og, .inl (cI, 32, .inl fs)), (on_, .inl (cI, 32, .inl fn)), (ok_, .inl (cI, 166400, .inl fk)), (oK, .inl (cI, 64, .inl fK)), (mo, .inr (8, [.int qc, .int (iZ (np : Int)), .ref ow, .ref om, .ref ok_, .ref oK, .ref og, .ref on_, .ref oh, .ref ox, .int qn, .int qf, .ref op_, .int ql])), (ow, .inl (cI, 108000, .inl fx3)), (om, .inl (cI, 9, .inl fy3))] := hD
  show W p l e R s m args below meth c H locs _ _ Q (F0 m 34 ls [])
  obtain ⟨v3, hv3⟩ : ∃ z, z = up v2 0 (v2 4 * v2 5) := ⟨_, rfl⟩
  rw [← hv3] at w3
  have y30 : v3 0 = tv a * bv b_ := by rw [hv3, up_s, y24, y25]
  refine lv_aload_n hx hb d_Mo_products_34 rfl (lv_at hl 0 rfl) ?_
  refine lv_iconst (v := iZ (4)) hx hb d_Mo_products_35 (by decide +kernel) ?_
  refine lv_iconst (v := iZ (2)) hx hb d_Mo_products_36 (by decide +kernel) ?_
  refine lv_iload_n hx hb d_Mo_products_37 rfl (lv_at hl 2 rfl) ?_
  refine zz_imul hx hb d_Mo_products_38 ?_
  refine lv_iconst (v := iZ (1)) hx hb d_Mo_products_39 (by decide +kernel) ?_
  refine zz_iadd hx hb d_Mo_products_40 ?_
  rw [show (2 * (a : Int) + 1 : Int) = ((2 * a + 1 : Nat) : Int) by omega]
  refine cv (n := 2) (wr := [(oh, .inl (cI, 10000, .inl fh)), (og, .inl (cI, 32, .inl fs)), (on_, .inl (cI, 32, .inl fn))]) (w1 := (fun (u : (Nat → Int32) × (Nat → Int32)) => [(mo, .inr (8, [.int qc, .int (iZ (np : Int)), .ref ow, .ref om, .ref ok_, .ref oK, .ref og, .ref on_, .ref oh, .ref ox, .int qn, .int qf, .ref op_, .int ql])), (ow, .inl (cI, 108000, .inl u.1)), (om, .inl (cI, 9, .inl u.2)), (ok_, .inl (cI, 166400, .inl fk)), (oK, .inl (cI, 64, .inl fK))])) (As := [.int (iZ 4), .int (iZ ((2 * a + 1 : Nat) : Int))]) (rest := []) K hP hD hK hS hA hl.1 (c_Mo_load l D mo qc np ow om ok_ oK og on_ oh ox qn qf op_ ql fx3 fy3 cI fk fK v3 (kvf tv bv) 4 (2 * a + 1) H.size w3 hMR.1 (by decide) (by omega)) [5, 6, 7, 3, 4] [0, 1, 2] [0] rfl rfl rfl (by decide) (by decide) (by decide) 0 rfl rfl (big_in mw_1238 rfl) (big_in mw_10 rfl) (big_in mw_1235 rfl) (big_in mw_1237 rfl) (big_in sp_31 rfl) rfl rfl (by decide +kernel) ⟨by rw [hR]; exact Nat.le_of_ble_eq_true rfl, by rw [hR]; exact Nat.le_of_ble_eq_true rfl⟩ rfl (Nat.le_of_ble_eq_true rfl) d_Mo_products_41 ⟨by rw [hR]; exact Nat.le_of_ble_eq_true rfl, by rw [hR]; exact Nat.le_of_ble_eq_true rfl⟩ rfl (fun v u H locs hp4 hP hD hS _ => ?_)
  obtain ⟨fx4, fy4⟩ := u
  try dsimp only at hp4
  obtain ⟨rfl, w4⟩ := hp4
  have hP : va_P D cls0 [(oh, .inl (cI, 10000, .inl fh)), (og, .inl (cI, 32, .inl fs)), (on_, .inl (cI, 32, .inl fn)), (mo, .inr (8, [.int qc, .int (iZ (np : Int)), .ref ow, .ref om, .ref ok_, .ref oK, .ref og, .ref on_, .ref oh, .ref ox, .int qn, .int qf, .ref op_, .int ql])), (ow, .inl (cI, 108000, .inl fx4)), (om, .inl (cI, 9, .inl fy4)), (ok_, .inl (cI, 166400, .inl fk)), (oK, .inl (cI, 64, .inl fK))] H := hP
  have hD : va_D A [(oh, .inl (cI, 10000, .inl fh)), (og, .inl (cI, 32, .inl fs)), (on_, .inl (cI, 32, .inl fn)), (mo, .inr (8, [.int qc, .int (iZ (np : Int)), .ref ow, .ref om, .ref ok_, .ref oK, .ref og, .ref on_, .ref oh, .ref ox, .int qn, .int qf, .ref op_, .int ql])), (ow, .inl (cI, 108000, .inl fx4)), (om, .inl (cI, 9, .inl fy4)), (ok_, .inl (cI, 166400, .inl fk)), (oK, .inl (cI, 64, .inl fK))] := hD
  show W p l e R s m args below meth c H locs _ _ Q (F0 m 44 ls [])
  rw [kvf_1] at w4
  obtain ⟨v4, hv4⟩ : ∃ z, z = up v3 4 (bv a) := ⟨_, rfl⟩
  rw [← hv4] at w4
  refine lv_aload_n hx hb d_Mo_products_44 rfl (lv_at hl 0 rfl) ?_
  refine lv_iconst (v := iZ (5)) hx hb d_Mo_products_45 (by decide +kernel) ?_
  refine lv_iconst (v := iZ (2)) hx hb d_Mo_products_46 (by decide +kernel) ?_
  refine lv_iload_n hx hb d_Mo_products_47 rfl (lv_at hl 3 rfl) ?_
  refine zz_imul hx hb d_Mo_products_48 ?_
  refine lv_iload hx hb d_Mo_products_49 (lv_at hl 4 rfl) ?_
  refine zz_if_eq (tgt := 58) hx hb d_Mo_products_51 (by decide) (by omega) (fun c51 => False.elim (by omega)) (fun c51 => ?_)
  refine lv_iconst (v := iZ (0)) hx hb d_Mo_products_54 (by decide +kernel) ?_
  refine lv_goto (tgt := 59) hx hb d_Mo_products_55 (by decide) ?_
  refine zz_iadd hx hb d_Mo_products_59 ?_
  rw [show (2 * (b_ : Int) + 0 : Int) = ((2 * b_ : Nat) : Int) by omega]
  refine cv (n := 2) (wr := [(oh, .inl (cI, 10000, .inl fh)), (og, .inl (cI, 32, .inl fs)), (on_, .inl (cI, 32, .inl fn))]) (w1 := (fun (u : (Nat → Int32) × (Nat → Int32)) => [(mo, .inr (8, [.int qc, .int (iZ (np : Int)), .ref ow, .ref om, .ref ok_, .ref oK, .ref og, .ref on_, .ref oh, .ref ox, .int qn, .int qf, .ref op_, .int ql])), (ow, .inl (cI, 108000, .inl u.1)), (om, .inl (cI, 9, .inl u.2)), (ok_, .inl (cI, 166400, .inl fk)), (oK, .inl (cI, 64, .inl fK))])) (As := [.int (iZ 5), .int (iZ ((2 * b_ : Nat) : Int))]) (rest := []) K hP hD hK hS hA hl.1 (c_Mo_load l D mo qc np ow om ok_ oK og on_ oh ox qn qf op_ ql fx4 fy4 cI fk fK v4 (kvf tv bv) 5 (2 * b_) H.size w4 hMR.1 (by decide) (by omega)) [3, 4, 5, 6, 7] [0, 1, 2] [0] rfl rfl rfl (by decide) (by decide) (by decide) 0 rfl rfl (big_in mw_1238 rfl) (big_in mw_10 rfl) (big_in mw_1235 rfl) (big_in mw_1237 rfl) (big_in sp_31 rfl) rfl rfl (by decide +kernel) ⟨by rw [hR]; exact Nat.le_of_ble_eq_true rfl, by rw [hR]; exact Nat.le_of_ble_eq_true rfl⟩ rfl (Nat.le_of_ble_eq_true rfl) d_Mo_products_60 ⟨by rw [hR]; exact Nat.le_of_ble_eq_true rfl, by rw [hR]; exact Nat.le_of_ble_eq_true rfl⟩ rfl (fun v u H locs hp5 hP hD hS _ => ?_)
  obtain ⟨fx5, fy5⟩ := u
  try dsimp only at hp5
  obtain ⟨rfl, w5⟩ := hp5
  have hP : va_P D cls0 [(oh, .inl (cI, 10000, .inl fh)), (og, .inl (cI, 32, .inl fs)), (on_, .inl (cI, 32, .inl fn)), (mo, .inr (8, [.int qc, .int (iZ (np : Int)), .ref ow, .ref om, .ref ok_, .ref oK, .ref og, .ref on_, .ref oh, .ref ox, .int qn, .int qf, .ref op_, .int ql])), (ow, .inl (cI, 108000, .inl fx5)), (om, .inl (cI, 9, .inl fy5)), (ok_, .inl (cI, 166400, .inl fk)), (oK, .inl (cI, 64, .inl fK))] H := hP
  have hD : va_D A [(oh, .inl (cI, 10000, .inl fh)), (og, .inl (cI, 32, .inl fs)), (on_, .inl (cI, 32, .inl fn)), (mo, .inr (8, [.int qc, .int (iZ (np : Int)), .ref ow, .ref om, .ref ok_, .ref oK, .ref og, .ref on_, .ref oh, .ref ox, .int qn, .int qf, .ref op_, .int ql])), (ow, .inl (cI, 108000, .inl fx5)), (om, .inl (cI, 9, .inl fy5)), (ok_, .inl (cI, 166400, .inl fk)), (oK, .inl (cI, 64, .inl fK))] := hD
  show W p l e R s m args below meth c H locs _ _ Q (F0 m 63 ls [])
  rw [kvf_0] at w5
  obtain ⟨v5, hv5⟩ : ∃ z, z = up v4 5 (tv b_) := ⟨_, rfl⟩
  rw [← hv5] at w5
  have y54 : v5 4 = bv a := by simp [hv5, hv4, up]
  have y55 : v5 5 = tv b_ := by simp [hv5, hv4, up]
  have y50 : v5 0 = tv a * bv b_ := by rw [hv5, up_n (by decide), hv4, up_n (by decide)]; exact y30
  refine lv_aload_n hx hb d_Mo_products_63 rfl (lv_at hl 0 rfl) ?_
  refine lv_iconst (v := iZ (1)) hx hb d_Mo_products_64 (by decide +kernel) ?_
  refine lv_iconst (v := iZ (4)) hx hb d_Mo_products_65 (by decide +kernel) ?_
  refine lv_iconst (v := iZ (5)) hx hb d_Mo_products_66 (by decide +kernel) ?_
  refine cv (n := 3) (wr := [(oh, .inl (cI, 10000, .inl fh)), (og, .inl (cI, 32, .inl fs)), (on_, .inl (cI, 32, .inl fn)), (ok_, .inl (cI, 166400, .inl fk)), (oK, .inl (cI, 64, .inl fK))]) (w1 := (fun (u : (Nat → Int32) × (Nat → Int32)) => [(mo, .inr (8, [.int qc, .int (iZ (np : Int)), .ref ow, .ref om, .ref ok_, .ref oK, .ref og, .ref on_, .ref oh, .ref ox, .int qn, .int qf, .ref op_, .int ql])), (ow, .inl (cI, 108000, .inl u.1)), (om, .inl (cI, 9, .inl u.2))])) (As := [.int (iZ 1), .int (iZ 4), .int (iZ 5)]) (rest := []) K hP hD hK hS hA hl.1 (c_Mo_product l D mo qc np ow om ok_ oK og on_ oh ox qn qf op_ ql fx5 fy5 cI v5 1 4 5 H.size w5 (by decide) (by decide) (by decide) (by decide) (by decide) (by rw [y54, y55]; omega)) [3, 4, 5] [0, 1, 2, 6, 7] [0] rfl rfl rfl (by decide) (by decide) (by decide) 0 rfl rfl (big_in mw_1258 rfl) (big_in mw_10 rfl) (big_in mw_1255 rfl) (big_in mw_1257 rfl) (big_in sp_34 rfl) rfl rfl (by decide +kernel) ⟨by rw [hR]; exact Nat.le_of_ble_eq_true rfl, by rw [hR]; exact Nat.le_of_ble_eq_true rfl⟩ rfl (Nat.le_of_ble_eq_true rfl) d_Mo_products_67 ⟨by rw [hR]; exact Nat.le_of_ble_eq_true rfl, by rw [hR]; exact Nat.le_of_ble_eq_true rfl⟩ rfl (fun v u H locs hp6 hP hD hS _ => ?_)
  obtain ⟨fx6, fy6⟩ := u
  try dsimp only at hp6
  obtain ⟨rfl, w6⟩ := hp6
  have hP : va_P D cls0 [(oh, .inl (cI, 10000, .inl fh)), (og, .inl (cI, 32, .inl fs)), (on_, .inl (cI, 32, .inl fn)), (ok_, .inl (cI, 166400, .inl fk)), (oK, .inl (cI, 64, .inl fK)), (mo, .inr (8, [.int qc, .int (iZ (np : Int)), .ref ow, .ref om, .ref ok_, .ref oK, .ref og, .ref on_, .ref oh, .ref ox, .int qn, .int qf, .ref op_, .int ql])), (ow, .inl (cI, 108000, .inl fx6)), (om, .inl (cI, 9, .inl fy6))] H := hP
  have hD : va_D A [(oh, .inl (cI, 10000, .inl fh)), (og, .inl (cI, 32, .inl fs)), (on_, .inl (cI, 32, .inl fn)), (ok_, .inl (cI, 166400, .inl fk)), (oK, .inl (cI, 64, .inl fK)), (mo, .inr (8, [.int qc, .int (iZ (np : Int)), .ref ow, .ref om, .ref ok_, .ref oK, .ref og, .ref on_, .ref oh, .ref ox, .int qn, .int qf, .ref op_, .int ql])), (ow, .inl (cI, 108000, .inl fx6)), (om, .inl (cI, 9, .inl fy6))] := hD
  show W p l e R s m args below meth c H locs _ _ Q (F0 m 70 ls [])
  obtain ⟨v6, hv6⟩ : ∃ z, z = up v5 1 (v5 4 * v5 5) := ⟨_, rfl⟩
  rw [← hv6] at w6
  have y60 : v6 0 = tv a * bv b_ := by rw [hv6, up_n (by decide)]; exact y50
  have y61 : v6 1 = bv a * tv b_ := by rw [hv6, up_s, y54, y55]
  have l5 := lm_mul (tv a) (bv b_)
  have l6 := lm_mul (bv a) (tv b_)
  obtain ⟨sp1, sp2⟩ := sg_prod ja3 jb3 ja2 jb2
  refine lv_aload_n hx hb d_Mo_products_70 rfl (lv_at hl 0 rfl) ?_
  refine lv_iload_n hx hb d_Mo_products_71 rfl (lv_at hl 1 rfl) ?_
  refine lv_aload_n hx hb d_Mo_products_72 rfl (lv_at hl 0 rfl) ?_
  refine va_get (D := D) (ci := 8) (v := .ref og) (C := R_Mo) (T := F_Mo) (N := 14) hx hb hts i_Mo hown hK hP 5 rfl rfl 6 (by decide) (hts _ (big_in mw_1121 rfl)) (fun _ h9 => h9) rfl d_Mo_products_73 ?_
  refine lv_iload_n hx hb d_Mo_products_76 rfl (lv_at hl 2 rfl) ?_
  refine zz_iald hx hb hK hP 1 0 rfl rfl (a) (by omega) (by omega) (by omega) d_Mo_products_77 ?_
  rw [hMR.2.1 a (by omega)]
  refine lv_aload_n hx hb d_Mo_products_78 rfl (lv_at hl 0 rfl) ?_
  refine va_get (D := D) (ci := 8) (v := .ref og) (C := R_Mo) (T := F_Mo) (N := 14) hx hb hts i_Mo hown hK hP 5 rfl rfl 6 (by decide) (hts _ (big_in mw_1121 rfl)) (fun _ h9 => h9) rfl d_Mo_products_79 ?_
  refine lv_iload_n hx hb d_Mo_products_82 rfl (lv_at hl 3 rfl) ?_
  refine zz_iald hx hb hK hP 1 0 rfl rfl (b_) (by omega) (by omega) (by omega) d_Mo_products_83 ?_
  rw [hMR.2.1 b_ (by omega)]
  refine zz_imul hx hb d_Mo_products_84 ?_
  refine lv_iload hx hb d_Mo_products_85 (lv_at hl 4 rfl) ?_
  refine zz_if_eq (tgt := 94) hx hb d_Mo_products_87 (by decide) (by omega) (fun c87 => False.elim (by omega)) (fun c87 => ?_)
  refine lv_iconst (v := iZ (3)) hx hb d_Mo_products_90 (by decide +kernel) ?_
  refine lv_goto (tgt := 95) hx hb d_Mo_products_91 (by decide) ?_
  refine cv (n := 3) (wr := []) (w1 := (fun (u : (Nat → Int32) × (Nat → Int32) × (Nat → Int32) × (Nat → Int32) × (Nat → Int32) × (Nat → Int32) × (Nat → Int32) × (Nat → Nat)) => [(mo, .inr (8, [.int (iZ 0), .int (iZ (np : Int)), .ref ow, .ref om, .ref ok_, .ref oK, .ref og, .ref on_, .ref oh, .ref ox, .int qn, .int qf, .ref op_, .int ql])), (ow, .inl (cI, 108000, .inl u.1)), (om, .inl (cI, 9, .inl u.2.1)), (oh, .inl (cI, 10000, .inl u.2.2.1)), (ok_, .inl (cI, 166400, .inl u.2.2.2.1)), (oK, .inl (cI, 64, .inl u.2.2.2.2.1)), (og, .inl (cI, 32, .inl u.2.2.2.2.2.1)), (on_, .inl (cI, 32, .inl u.2.2.2.2.2.2.1))])) (As := [.int (iZ (to : Int)), .int (iZ ((sg a) * (sg b_))), .int (iZ 3)]) (rest := []) K hP hD hK hS hA hl.1 (c_Mo_put l D mo qc np ow om ok_ oK og on_ oh ox qn qf op_ ql fx6 fy6 cI fh fk fK fs fn v6 tv bv sg to ((sg a) * (sg b_)) 3 H.size w6 hMR (by omega) hnd hnp (by omega) (by decide) (by rw [y61]; exact Nat.mul_pos pa hb0) (by rw [y60]; omega) (by rw [y61]; omega) (by rw [y60, y61]; exact hfit)) [5, 6, 7, 0, 3, 4, 1, 2] [] [0] rfl rfl rfl (by decide) (by decide) (by decide) 0 rfl rfl (big_in mw_1185 rfl) (big_in mw_10 rfl) (big_in mw_1182 rfl) (big_in mw_1184 rfl) (big_in sp_20 rfl) rfl rfl (by decide +kernel) ⟨by rw [hR]; exact Nat.le_of_ble_eq_true rfl, by rw [hR]; exact Nat.le_of_ble_eq_true rfl⟩ rfl (Nat.le_of_ble_eq_true rfl) d_Mo_products_95 ⟨by rw [hR]; exact Nat.le_of_ble_eq_true rfl, by rw [hR]; exact Nat.le_of_ble_eq_true rfl⟩ rfl (fun v u H locs hp7 hP hD hS _ => ?_)
  obtain ⟨fa, fb, fc, fd, fe, ff, fg, v9⟩ := u
  try dsimp only at hp7
  obtain ⟨rfl, w9, q9⟩ := hp7
  have hP : va_P D cls0 [(mo, .inr (8, [.int (iZ 0), .int (iZ (np : Int)), .ref ow, .ref om, .ref ok_, .ref oK, .ref og, .ref on_, .ref oh, .ref ox, .int qn, .int qf, .ref op_, .int ql])), (ow, .inl (cI, 108000, .inl fa)), (om, .inl (cI, 9, .inl fb)), (oh, .inl (cI, 10000, .inl fc)), (ok_, .inl (cI, 166400, .inl fd)), (oK, .inl (cI, 64, .inl fe)), (og, .inl (cI, 32, .inl ff)), (on_, .inl (cI, 32, .inl fg))] H := hP
  have hD : va_D A [(mo, .inr (8, [.int (iZ 0), .int (iZ (np : Int)), .ref ow, .ref om, .ref ok_, .ref oK, .ref og, .ref on_, .ref oh, .ref ox, .int qn, .int qf, .ref op_, .int ql])), (ow, .inl (cI, 108000, .inl fa)), (om, .inl (cI, 9, .inl fb)), (oh, .inl (cI, 10000, .inl fc)), (ok_, .inl (cI, 166400, .inl fd)), (oK, .inl (cI, 64, .inl fe)), (og, .inl (cI, 32, .inl ff)), (on_, .inl (cI, 32, .inl fg))] := hD
  show W p l e R s m args below meth c H locs _ _ Q (F0 m 98 ls [.int (iZ ((lm (rdN (v6 0) (v6 1)) : Int) + (lm (rdD (v6 0) (v6 1)) : Int)))])
  rw [y60, y61]
  rw [y60, y61] at q9
  have hP9 : va_P D cls0 [(mo, .inr (8, [.int (iZ 0), .int (iZ (np : Int)), .ref ow, .ref om, .ref ok_, .ref oK, .ref og, .ref on_, .ref oh, .ref ox, .int qn, .int qf, .ref op_, .int ql])), (ow, .inl (cI, 108000, .inl fa)), (om, .inl (cI, 9, .inl fb)), (oh, .inl (cI, 10000, .inl fc)), (ok_, .inl (cI, 166400, .inl fd)), (oK, .inl (cI, 64, .inl fe)), (og, .inl (cI, 32, .inl ff)), (on_, .inl (cI, 32, .inl fg))] H := hP.sub [0, 1, 2, 3, 4, 5, 6, 7] rfl
  have hD9 : va_D A [(mo, .inr (8, [.int (iZ 0), .int (iZ (np : Int)), .ref ow, .ref om, .ref ok_, .ref oK, .ref og, .ref on_, .ref oh, .ref ox, .int qn, .int qf, .ref op_, .int ql])), (ow, .inl (cI, 108000, .inl fa)), (om, .inl (cI, 9, .inl fb)), (oh, .inl (cI, 10000, .inl fc)), (ok_, .inl (cI, 166400, .inl fd)), (oK, .inl (cI, 64, .inl fe)), (og, .inl (cI, 32, .inl ff)), (on_, .inl (cI, 32, .inl fg))] := hD.sub [0, 1, 2, 3, 4, 5, 6, 7] (by decide) rfl
  rw [hQ, ← hAe]
  refine r_i (v := (iZ ((lm (rdN ((tv a * bv b_)) ((bv a * tv b_))) : Int) + (lm (rdD ((tv a * bv b_)) ((bv a * tv b_))) : Int)))) K (fa, fb, fc, fd, fe, ff, fg, v9) hS d_Mo_products_98 ?_ (fun t ht hv => ?_)
  · try dsimp only
    refine ⟨rfl, w9, ?_⟩
    exact q9
  · exact ⟨by rw [ht]; exact hP9, va_K.moved hv hK, by rw [← hAe]; exact hD9⟩
set_option maxHeartbeats 4000000 in
set_option maxRecDepth 100000 in
/-- Mo_products -/
theorem f_Mo_products1 (l : Launch) (D : va_G) (mo : Nat) (qc : Int32) (np : Nat) (ow : Nat) (om : Nat) (ok_ : Nat) (oK : Nat) (og : Nat) (on_ : Nat) (oh : Nat) (ox : Nat) (qn : Int32) (qf : Int32) (op_ : Nat) (ql : Int32) (fw : Nat → Int32) (fm : Nat → Int32) (cI : ClassId) (fh : Nat → Int32) (fk : Nat → Int32) (fK : Nat → Int32) (fs : Nat → Int32) (fn : Nat → Int32) (val : Nat → Nat) (tv : Nat → Nat) (bv : Nat → Nat) (sg : Nat → Int) (to : Nat) (a : Nat) (b_ : Nat) (sz : Nat) (hW : WB fw fm val) (hMR : MoR fk fK fs fn tv bv sg) (hnd : ndS tv bv 32 ≤ np) (hnp : np ≤ 1024) (J : RgC tv bv sg) (hbv : ∀ r, r < 32 → 0 < bv r) (t1 : to < 32) (t2 : a < 32) (t3_ : b_ < 32) (hb0 : 0 < tv b_) (hfit : np + (lm (tv to) + lm (bv to)) < ndS tv bv 32 + (lm (rdN (tv a * bv b_) (bv a * tv b_)) + lm (rdD (tv a * bv b_) (bv a * tv b_)))) : Met l y_Mo_products (wsB y_Mo_products b_Mo_products 5 (some .int)) ({ frames := 5, cells := 0, slots := 0, locals := 125 }) (va_Pc [.ref mo, .int (iZ (to : Int)), .int (iZ (a : Int)), .int (iZ (b_ : Int)), .int (iZ 1)] (wPre D [(cI, .int)] [(mo, .inr (8, [.int qc, .int (iZ (np : Int)), .ref ow, .ref om, .ref ok_, .ref oK, .ref og, .ref on_, .ref oh, .ref ox, .int qn, .int qf, .ref op_, .int ql])), (ow, .inl (cI, 108000, .inl fw)), (om, .inl (cI, 9, .inl fm)), (oh, .inl (cI, 10000, .inl fh)), (ok_, .inl (cI, 166400, .inl fk)), (oK, .inl (cI, 64, .inl fK)), (og, .inl (cI, 32, .inl fs)), (on_, .inl (cI, 32, .inl fn))] sz)) (va_QV (fun (v_9 : Option Value) (u_9 : (Nat → Int32) × (Nat → Int32) × (Nat → Int32) × (Nat → Nat)) => v_9 = some (.int (iZ 0)) ∧ (WB u_9.1 u_9.2.1 u_9.2.2.2)) (fun u_9 => wPost D [(cI, .int)] [(mo, .inr (8, [.int qc, .int (iZ (np : Int)), .ref ow, .ref om, .ref ok_, .ref oK, .ref og, .ref on_, .ref oh, .ref ox, .int qn, .int qf, .ref op_, .int ql])), (ow, .inl (cI, 108000, .inl fw)), (om, .inl (cI, 9, .inl fm)), (oh, .inl (cI, 10000, .inl fh)), (ok_, .inl (cI, 166400, .inl fk)), (oK, .inl (cI, 64, .inl fK)), (og, .inl (cI, 32, .inl fs)), (on_, .inl (cI, 32, .inl fn))] [(mo, .inr (8, [.int (iZ 3), .int (iZ (np : Int)), .ref ow, .ref om, .ref ok_, .ref oK, .ref og, .ref on_, .ref oh, .ref ox, .int qn, .int qf, .ref op_, .int ql])), (ow, .inl (cI, 108000, .inl u_9.1)), (om, .inl (cI, 9, .inl u_9.2.1)), (oh, .inl (cI, 10000, .inl u_9.2.2.1)), (ok_, .inl (cI, 166400, .inl fk)), (oK, .inl (cI, 64, .inl fK)), (og, .inl (cI, 32, .inl fs)), (on_, .inl (cI, 32, .inl fn))] sz) (va_A [(mo, .inr (8, [.int qc, .int (iZ (np : Int)), .ref ow, .ref om, .ref ok_, .ref oK, .ref og, .ref on_, .ref oh, .ref ox, .int qn, .int qf, .ref op_, .int ql])), (ow, .inl (cI, 108000, .inl fw)), (om, .inl (cI, 9, .inl fm)), (oh, .inl (cI, 10000, .inl fh)), (ok_, .inl (cI, 166400, .inl fk)), (oK, .inl (cI, 64, .inl fK)), (og, .inl (cI, 32, .inl fs)), (on_, .inl (cI, 32, .inl fn))] sz)) 0 0 (va_A [(mo, .inr (8, [.int qc, .int (iZ (np : Int)), .ref ow, .ref om, .ref ok_, .ref oK, .ref og, .ref on_, .ref oh, .ref ox, .int qn, .int qf, .ref op_, .int ql])), (ow, .inl (cI, 108000, .inl fw)), (om, .inl (cI, 9, .inl fm)), (oh, .inl (cI, 10000, .inl fh)), (ok_, .inl (cI, 166400, .inl fk)), (oK, .inl (cI, 64, .inl fK)), (og, .inl (cI, 32, .inl fs)), (on_, .inl (cI, 32, .inl fn))] sz) := by
  refine met_enter (by decide +kernel) (Nat.le_of_ble_eq_true rfl) ?_
  intro p e s m args below meth c ls A R Q H locs K hin hAe hA hR hQ hP hK hD hS hl
  obtain ⟨hx, hb, hml, hrt, hlk, hts, hown, hno⟩ := id K
  have hl : lv_has ls 5 [(0, .ref mo), (1, .int (iZ (to : Int))), (2, .int (iZ (a : Int))), (3, .int (iZ (b_ : Int))), (4, .int (iZ 1))] := hl
  have hlr : ∀ q, q < 32 → lm (tv q) + lm (bv q) ≤ 1024 := fun q hq => by have z := ndS_le (tv := tv) (bv := bv) hq; omega
  have hnt : ∀ q, q < 32 → nd (tv q) ≤ 2600 := fun q hq => by have z := nd_lm (v := tv q) (L := 1024) (by have y := hlr q hq; omega); omega
  have hnb : ∀ q, q < 32 → nd (bv q) ≤ 2600 := fun q hq => by have z := nd_lm (v := bv q) (L := 1024) (by have y := hlr q hq; omega); omega
  obtain ⟨ja1, ja2, ja3⟩ := J a (by omega)
  obtain ⟨jb1, jb2, jb3⟩ := J b_ (by omega)
  have pa := hbv a (by omega)
  have pb := hbv b_ (by omega)
  have la := hlr a (by omega)
  have lb := hlr b_ (by omega)
  have n1 := hnt a (by omega)
  have n2 := hnb a (by omega)
  have n3 := hnt b_ (by omega)
  have n4 := hnb b_ (by omega)
  refine lv_aload_n hx hb d_Mo_products_0 rfl (lv_at hl 0 rfl) ?_
  refine lv_iconst (v := iZ (4)) hx hb d_Mo_products_1 (by decide +kernel) ?_
  refine lv_iconst (v := iZ (2)) hx hb d_Mo_products_2 (by decide +kernel) ?_
  refine lv_iload_n hx hb d_Mo_products_3 rfl (lv_at hl 2 rfl) ?_
  refine zz_imul hx hb d_Mo_products_4 ?_
  rw [show (2 * (a : Int) : Int) = ((2 * a : Nat) : Int) by omega]
  refine cv (n := 2) (wr := [(oh, .inl (cI, 10000, .inl fh)), (og, .inl (cI, 32, .inl fs)), (on_, .inl (cI, 32, .inl fn))]) (w1 := (fun (u : (Nat → Int32) × (Nat → Int32)) => [(mo, .inr (8, [.int qc, .int (iZ (np : Int)), .ref ow, .ref om, .ref ok_, .ref oK, .ref og, .ref on_, .ref oh, .ref ox, .int qn, .int qf, .ref op_, .int ql])), (ow, .inl (cI, 108000, .inl u.1)), (om, .inl (cI, 9, .inl u.2)), (ok_, .inl (cI, 166400, .inl fk)), (oK, .inl (cI, 64, .inl fK))])) (As := [.int (iZ 4), .int (iZ ((2 * a : Nat) : Int))]) (rest := []) K hP hD hK hS hA hl.1 (c_Mo_load l D mo qc np ow om ok_ oK og on_ oh ox qn qf op_ ql fw fm cI fk fK val (kvf tv bv) 4 (2 * a) H.size hW hMR.1 (by decide) (by omega)) [0, 1, 2, 4, 5] [3, 6, 7] [0] rfl rfl rfl (by decide) (by decide) (by decide) 0 rfl rfl (big_in mw_1238 rfl) (big_in mw_10 rfl) (big_in mw_1235 rfl) (big_in mw_1237 rfl) (big_in sp_31 rfl) rfl rfl (by decide +kernel) ⟨by rw [hR]; exact Nat.le_of_ble_eq_true rfl, by rw [hR]; exact Nat.le_of_ble_eq_true rfl⟩ rfl (Nat.le_of_ble_eq_true rfl) d_Mo_products_5 ⟨by rw [hR]; exact Nat.le_of_ble_eq_true rfl, by rw [hR]; exact Nat.le_of_ble_eq_true rfl⟩ rfl (fun v u H locs hp1 hP hD hS _ => ?_)
  obtain ⟨fx1, fy1⟩ := u
  try dsimp only at hp1
  obtain ⟨rfl, w1⟩ := hp1
  have hP : va_P D cls0 [(oh, .inl (cI, 10000, .inl fh)), (og, .inl (cI, 32, .inl fs)), (on_, .inl (cI, 32, .inl fn)), (mo, .inr (8, [.int qc, .int (iZ (np : Int)), .ref ow, .ref om, .ref ok_, .ref oK, .ref og, .ref on_, .ref oh, .ref ox, .int qn, .int qf, .ref op_, .int ql])), (ow, .inl (cI, 108000, .inl fx1)), (om, .inl (cI, 9, .inl fy1)), (ok_, .inl (cI, 166400, .inl fk)), (oK, .inl (cI, 64, .inl fK))] H := hP
  have hD : va_D A [(oh, .inl (cI, 10000, .inl fh)), (og, .inl (cI, 32, .inl fs)), (on_, .inl (cI, 32, .inl fn)), (mo, .inr (8, [.int qc, .int (iZ (np : Int)), .ref ow, .ref om, .ref ok_, .ref oK, .ref og, .ref on_, .ref oh, .ref ox, .int qn, .int qf, .ref op_, .int ql])), (ow, .inl (cI, 108000, .inl fx1)), (om, .inl (cI, 9, .inl fy1)), (ok_, .inl (cI, 166400, .inl fk)), (oK, .inl (cI, 64, .inl fK))] := hD
  show W p l e R s m args below meth c H locs _ _ Q (F0 m 8 ls [])
  rw [kvf_0] at w1
  obtain ⟨v1, hv1⟩ : ∃ z, z = up val 4 (tv a) := ⟨_, rfl⟩
  rw [← hv1] at w1
  refine lv_aload_n hx hb d_Mo_products_8 rfl (lv_at hl 0 rfl) ?_
  refine lv_iconst (v := iZ (5)) hx hb d_Mo_products_9 (by decide +kernel) ?_
  refine lv_iconst (v := iZ (2)) hx hb d_Mo_products_10 (by decide +kernel) ?_
  refine lv_iload_n hx hb d_Mo_products_11 rfl (lv_at hl 3 rfl) ?_
  refine zz_imul hx hb d_Mo_products_12 ?_
  refine lv_iload hx hb d_Mo_products_13 (lv_at hl 4 rfl) ?_
  refine zz_if_eq (tgt := 22) hx hb d_Mo_products_15 (by decide) (by omega) (fun c15 => False.elim (by omega)) (fun c15 => ?_)
  refine lv_iconst (v := iZ (1)) hx hb d_Mo_products_18 (by decide +kernel) ?_
  refine lv_goto (tgt := 23) hx hb d_Mo_products_19 (by decide) ?_
  refine zz_iadd hx hb d_Mo_products_23 ?_
  rw [show (2 * (b_ : Int) + 1 : Int) = ((2 * b_ + 1 : Nat) : Int) by omega]
  refine cv (n := 2) (wr := [(oh, .inl (cI, 10000, .inl fh)), (og, .inl (cI, 32, .inl fs)), (on_, .inl (cI, 32, .inl fn))]) (w1 := (fun (u : (Nat → Int32) × (Nat → Int32)) => [(mo, .inr (8, [.int qc, .int (iZ (np : Int)), .ref ow, .ref om, .ref ok_, .ref oK, .ref og, .ref on_, .ref oh, .ref ox, .int qn, .int qf, .ref op_, .int ql])), (ow, .inl (cI, 108000, .inl u.1)), (om, .inl (cI, 9, .inl u.2)), (ok_, .inl (cI, 166400, .inl fk)), (oK, .inl (cI, 64, .inl fK))])) (As := [.int (iZ 5), .int (iZ ((2 * b_ + 1 : Nat) : Int))]) (rest := []) K hP hD hK hS hA hl.1 (c_Mo_load l D mo qc np ow om ok_ oK og on_ oh ox qn qf op_ ql fx1 fy1 cI fk fK v1 (kvf tv bv) 5 (2 * b_ + 1) H.size w1 hMR.1 (by decide) (by omega)) [3, 4, 5, 6, 7] [0, 1, 2] [0] rfl rfl rfl (by decide) (by decide) (by decide) 0 rfl rfl (big_in mw_1238 rfl) (big_in mw_10 rfl) (big_in mw_1235 rfl) (big_in mw_1237 rfl) (big_in sp_31 rfl) rfl rfl (by decide +kernel) ⟨by rw [hR]; exact Nat.le_of_ble_eq_true rfl, by rw [hR]; exact Nat.le_of_ble_eq_true rfl⟩ rfl (Nat.le_of_ble_eq_true rfl) d_Mo_products_24 ⟨by rw [hR]; exact Nat.le_of_ble_eq_true rfl, by rw [hR]; exact Nat.le_of_ble_eq_true rfl⟩ rfl (fun v u H locs hp2 hP hD hS _ => ?_)
  obtain ⟨fx2, fy2⟩ := u
  try dsimp only at hp2
  obtain ⟨rfl, w2⟩ := hp2
  have hP : va_P D cls0 [(oh, .inl (cI, 10000, .inl fh)), (og, .inl (cI, 32, .inl fs)), (on_, .inl (cI, 32, .inl fn)), (mo, .inr (8, [.int qc, .int (iZ (np : Int)), .ref ow, .ref om, .ref ok_, .ref oK, .ref og, .ref on_, .ref oh, .ref ox, .int qn, .int qf, .ref op_, .int ql])), (ow, .inl (cI, 108000, .inl fx2)), (om, .inl (cI, 9, .inl fy2)), (ok_, .inl (cI, 166400, .inl fk)), (oK, .inl (cI, 64, .inl fK))] H := hP
  have hD : va_D A [(oh, .inl (cI, 10000, .inl fh)), (og, .inl (cI, 32, .inl fs)), (on_, .inl (cI, 32, .inl fn)), (mo, .inr (8, [.int qc, .int (iZ (np : Int)), .ref ow, .ref om, .ref ok_, .ref oK, .ref og, .ref on_, .ref oh, .ref ox, .int qn, .int qf, .ref op_, .int ql])), (ow, .inl (cI, 108000, .inl fx2)), (om, .inl (cI, 9, .inl fy2)), (ok_, .inl (cI, 166400, .inl fk)), (oK, .inl (cI, 64, .inl fK))] := hD
  show W p l e R s m args below meth c H locs _ _ Q (F0 m 27 ls [])
  rw [kvf_1] at w2
  obtain ⟨v2, hv2⟩ : ∃ z, z = up v1 5 (bv b_) := ⟨_, rfl⟩
  rw [← hv2] at w2
  have y24 : v2 4 = tv a := by simp [hv2, hv1, up]
  have y25 : v2 5 = bv b_ := by simp [hv2, hv1, up]
  refine lv_aload_n hx hb d_Mo_products_27 rfl (lv_at hl 0 rfl) ?_
  refine lv_iconst (v := iZ (0)) hx hb d_Mo_products_28 (by decide +kernel) ?_
  refine lv_iconst (v := iZ (4)) hx hb d_Mo_products_29 (by decide +kernel) ?_
  refine lv_iconst (v := iZ (5)) hx hb d_Mo_products_30 (by decide +kernel) ?_
  refine cv (n := 3) (wr := [(oh, .inl (cI, 10000, .inl fh)), (og, .inl (cI, 32, .inl fs)), (on_, .inl (cI, 32, .inl fn)), (ok_, .inl (cI, 166400, .inl fk)), (oK, .inl (cI, 64, .inl fK))]) (w1 := (fun (u : (Nat → Int32) × (Nat → Int32)) => [(mo, .inr (8, [.int qc, .int (iZ (np : Int)), .ref ow, .ref om, .ref ok_, .ref oK, .ref og, .ref on_, .ref oh, .ref ox, .int qn, .int qf, .ref op_, .int ql])), (ow, .inl (cI, 108000, .inl u.1)), (om, .inl (cI, 9, .inl u.2))])) (As := [.int (iZ 0), .int (iZ 4), .int (iZ 5)]) (rest := []) K hP hD hK hS hA hl.1 (c_Mo_product l D mo qc np ow om ok_ oK og on_ oh ox qn qf op_ ql fx2 fy2 cI v2 0 4 5 H.size w2 (by decide) (by decide) (by decide) (by decide) (by decide) (by rw [y24, y25]; omega)) [3, 4, 5] [0, 1, 2, 6, 7] [0] rfl rfl rfl (by decide) (by decide) (by decide) 0 rfl rfl (big_in mw_1258 rfl) (big_in mw_10 rfl) (big_in mw_1255 rfl) (big_in mw_1257 rfl) (big_in sp_34 rfl) rfl rfl (by decide +kernel) ⟨by rw [hR]; exact Nat.le_of_ble_eq_true rfl, by rw [hR]; exact Nat.le_of_ble_eq_true rfl⟩ rfl (Nat.le_of_ble_eq_true rfl) d_Mo_products_31 ⟨by rw [hR]; exact Nat.le_of_ble_eq_true rfl, by rw [hR]; exact Nat.le_of_ble_eq_true rfl⟩ rfl (fun v u H locs hp3 hP hD hS _ => ?_)
  obtain ⟨fx3, fy3⟩ := u
  try dsimp only at hp3
  obtain ⟨rfl, w3⟩ := hp3
  have hP : va_P D cls0 [(oh, .inl (cI, 10000, .inl fh)), (og, .inl (cI, 32, .inl fs)), (on_, .inl (cI, 32, .inl fn)), (ok_, .inl (cI, 166400, .inl fk)), (oK, .inl (cI, 64, .inl fK)), (mo, .inr (8, [.int qc, .int (iZ (np : Int)), .ref ow, .ref om, .ref ok_, .ref oK, .ref og, .ref on_, .ref oh, .ref ox, .int qn, .int qf, .ref op_, .int ql])), (ow, .inl (cI, 108000, .inl fx3)), (om, .inl (cI, 9, .inl fy3))] H := hP
  have hD : va_D A [(oh, .inl (cI, 10000, .inl fh)), (og, .inl (cI, 32, .inl fs)), (on_, .inl (cI, 32, .inl fn)), (ok_, .inl (cI, 166400, .inl fk)), (oK, .inl (cI, 64, .inl fK)), (mo, .inr (8, [.int qc, .int (iZ (np : Int)), .ref ow, .ref om, .ref ok_, .ref oK, .ref og, .ref on_, .ref oh, .ref ox, .int qn, .int qf, .ref op_, .int ql])), (ow, .inl (cI, 108000, .inl fx3)), (om, .inl (cI, 9, .inl fy3))] := hD
  show W p l e R s m args below meth c H locs _ _ Q (F0 m 34 ls [])
  obtain ⟨v3, hv3⟩ : ∃ z, z = up v2 0 (v2 4 * v2 5) := ⟨_, rfl⟩
  rw [← hv3] at w3
  have y30 : v3 0 = tv a * bv b_ := by rw [hv3, up_s, y24, y25]
  refine lv_aload_n hx hb d_Mo_products_34 rfl (lv_at hl 0 rfl) ?_
  refine lv_iconst (v := iZ (4)) hx hb d_Mo_products_35 (by decide +kernel) ?_
  refine lv_iconst (v := iZ (2)) hx hb d_Mo_products_36 (by decide +kernel) ?_
  refine lv_iload_n hx hb d_Mo_products_37 rfl (lv_at hl 2 rfl) ?_
  refine zz_imul hx hb d_Mo_products_38 ?_
  refine lv_iconst (v := iZ (1)) hx hb d_Mo_products_39 (by decide +kernel) ?_
  refine zz_iadd hx hb d_Mo_products_40 ?_
  rw [show (2 * (a : Int) + 1 : Int) = ((2 * a + 1 : Nat) : Int) by omega]
  refine cv (n := 2) (wr := [(oh, .inl (cI, 10000, .inl fh)), (og, .inl (cI, 32, .inl fs)), (on_, .inl (cI, 32, .inl fn))]) (w1 := (fun (u : (Nat → Int32) × (Nat → Int32)) => [(mo, .inr (8, [.int qc, .int (iZ (np : Int)), .ref ow, .ref om, .ref ok_, .ref oK, .ref og, .ref on_, .ref oh, .ref ox, .int qn, .int qf, .ref op_, .int ql])), (ow, .inl (cI, 108000, .inl u.1)), (om, .inl (cI, 9, .inl u.2)), (ok_, .inl (cI, 166400, .inl fk)), (oK, .inl (cI, 64, .inl fK))])) (As := [.int (iZ 4), .int (iZ ((2 * a + 1 : Nat) : Int))]) (rest := []) K hP hD hK hS hA hl.1 (c_Mo_load l D mo qc np ow om ok_ oK og on_ oh ox qn qf op_ ql fx3 fy3 cI fk fK v3 (kvf tv bv) 4 (2 * a + 1) H.size w3 hMR.1 (by decide) (by omega)) [5, 6, 7, 3, 4] [0, 1, 2] [0] rfl rfl rfl (by decide) (by decide) (by decide) 0 rfl rfl (big_in mw_1238 rfl) (big_in mw_10 rfl) (big_in mw_1235 rfl) (big_in mw_1237 rfl) (big_in sp_31 rfl) rfl rfl (by decide +kernel) ⟨by rw [hR]; exact Nat.le_of_ble_eq_true rfl, by rw [hR]; exact Nat.le_of_ble_eq_true rfl⟩ rfl (Nat.le_of_ble_eq_true rfl) d_Mo_products_41 ⟨by rw [hR]; exact Nat.le_of_ble_eq_true rfl, by rw [hR]; exact Nat.le_of_ble_eq_true rfl⟩ rfl (fun v u H locs hp4 hP hD hS _ => ?_)
  obtain ⟨fx4, fy4⟩ := u
  try dsimp only at hp4
  obtain ⟨rfl, w4⟩ := hp4
  have hP : va_P D cls0 [(oh, .inl (cI, 10000, .inl fh)), (og, .inl (cI, 32, .inl fs)), (on_, .inl (cI, 32, .inl fn)), (mo, .inr (8, [.int qc, .int (iZ (np : Int)), .ref ow, .ref om, .ref ok_, .ref oK, .ref og, .ref on_, .ref oh, .ref ox, .int qn, .int qf, .ref op_, .int ql])), (ow, .inl (cI, 108000, .inl fx4)), (om, .inl (cI, 9, .inl fy4)), (ok_, .inl (cI, 166400, .inl fk)), (oK, .inl (cI, 64, .inl fK))] H := hP
  have hD : va_D A [(oh, .inl (cI, 10000, .inl fh)), (og, .inl (cI, 32, .inl fs)), (on_, .inl (cI, 32, .inl fn)), (mo, .inr (8, [.int qc, .int (iZ (np : Int)), .ref ow, .ref om, .ref ok_, .ref oK, .ref og, .ref on_, .ref oh, .ref ox, .int qn, .int qf, .ref op_, .int ql])), (ow, .inl (cI, 108000, .inl fx4)), (om, .inl (cI, 9, .inl fy4)), (ok_, .inl (cI, 166400, .inl fk)), (oK, .inl (cI, 64, .inl fK))] := hD
  show W p l e R s m args below meth c H locs _ _ Q (F0 m 44 ls [])
  rw [kvf_1] at w4
  obtain ⟨v4, hv4⟩ : ∃ z, z = up v3 4 (bv a) := ⟨_, rfl⟩
  rw [← hv4] at w4
  refine lv_aload_n hx hb d_Mo_products_44 rfl (lv_at hl 0 rfl) ?_
  refine lv_iconst (v := iZ (5)) hx hb d_Mo_products_45 (by decide +kernel) ?_
  refine lv_iconst (v := iZ (2)) hx hb d_Mo_products_46 (by decide +kernel) ?_
  refine lv_iload_n hx hb d_Mo_products_47 rfl (lv_at hl 3 rfl) ?_
  refine zz_imul hx hb d_Mo_products_48 ?_
  refine lv_iload hx hb d_Mo_products_49 (lv_at hl 4 rfl) ?_
  refine zz_if_eq (tgt := 58) hx hb d_Mo_products_51 (by decide) (by omega) (fun c51 => False.elim (by omega)) (fun c51 => ?_)
  refine lv_iconst (v := iZ (0)) hx hb d_Mo_products_54 (by decide +kernel) ?_
  refine lv_goto (tgt := 59) hx hb d_Mo_products_55 (by decide) ?_
  refine zz_iadd hx hb d_Mo_products_59 ?_
  rw [show (2 * (b_ : Int) + 0 : Int) = ((2 * b_ : Nat) : Int) by omega]
  refine cv (n := 2) (wr := [(oh, .inl (cI, 10000, .inl fh)), (og, .inl (cI, 32, .inl fs)), (on_, .inl (cI, 32, .inl fn))]) (w1 := (fun (u : (Nat → Int32) × (Nat → Int32)) => [(mo, .inr (8, [.int qc, .int (iZ (np : Int)), .ref ow, .ref om, .ref ok_, .ref oK, .ref og, .ref on_, .ref oh, .ref ox, .int qn, .int qf, .ref op_, .int ql])), (ow, .inl (cI, 108000, .inl u.1)), (om, .inl (cI, 9, .inl u.2)), (ok_, .inl (cI, 166400, .inl fk)), (oK, .inl (cI, 64, .inl fK))])) (As := [.int (iZ 5), .int (iZ ((2 * b_ : Nat) : Int))]) (rest := []) K hP hD hK hS hA hl.1 (c_Mo_load l D mo qc np ow om ok_ oK og on_ oh ox qn qf op_ ql fx4 fy4 cI fk fK v4 (kvf tv bv) 5 (2 * b_) H.size w4 hMR.1 (by decide) (by omega)) [3, 4, 5, 6, 7] [0, 1, 2] [0] rfl rfl rfl (by decide) (by decide) (by decide) 0 rfl rfl (big_in mw_1238 rfl) (big_in mw_10 rfl) (big_in mw_1235 rfl) (big_in mw_1237 rfl) (big_in sp_31 rfl) rfl rfl (by decide +kernel) ⟨by rw [hR]; exact Nat.le_of_ble_eq_true rfl, by rw [hR]; exact Nat.le_of_ble_eq_true rfl⟩ rfl (Nat.le_of_ble_eq_true rfl) d_Mo_products_60 ⟨by rw [hR]; exact Nat.le_of_ble_eq_true rfl, by rw [hR]; exact Nat.le_of_ble_eq_true rfl⟩ rfl (fun v u H locs hp5 hP hD hS _ => ?_)
  obtain ⟨fx5, fy5⟩ := u
  try dsimp only at hp5
  obtain ⟨rfl, w5⟩ := hp5
  have hP : va_P D cls0 [(oh, .inl (cI, 10000, .inl fh)), (og, .inl (cI, 32, .inl fs)), (on_, .inl (cI, 32, .inl fn)), (mo, .inr (8, [.int qc, .int (iZ (np : Int)), .ref ow, .ref om, .ref ok_, .ref oK, .ref og, .ref on_, .ref oh, .ref ox, .int qn, .int qf, .ref op_, .int ql])), (ow, .inl (cI, 108000, .inl fx5)), (om, .inl (cI, 9, .inl fy5)), (ok_, .inl (cI, 166400, .inl fk)), (oK, .inl (cI, 64, .inl fK))] H := hP
  have hD : va_D A [(oh, .inl (cI, 10000, .inl fh)), (og, .inl (cI, 32, .inl fs)), (on_, .inl (cI, 32, .inl fn)), (mo, .inr (8, [.int qc, .int (iZ (np : Int)), .ref ow, .ref om, .ref ok_, .ref oK, .ref og, .ref on_, .ref oh, .ref ox, .int qn, .int qf, .ref op_, .int ql])), (ow, .inl (cI, 108000, .inl fx5)), (om, .inl (cI, 9, .inl fy5)), (ok_, .inl (cI, 166400, .inl fk)), (oK, .inl (cI, 64, .inl fK))] := hD
  show W p l e R s m args below meth c H locs _ _ Q (F0 m 63 ls [])
  rw [kvf_0] at w5
  obtain ⟨v5, hv5⟩ : ∃ z, z = up v4 5 (tv b_) := ⟨_, rfl⟩
  rw [← hv5] at w5
  have y54 : v5 4 = bv a := by simp [hv5, hv4, up]
  have y55 : v5 5 = tv b_ := by simp [hv5, hv4, up]
  have y50 : v5 0 = tv a * bv b_ := by rw [hv5, up_n (by decide), hv4, up_n (by decide)]; exact y30
  refine lv_aload_n hx hb d_Mo_products_63 rfl (lv_at hl 0 rfl) ?_
  refine lv_iconst (v := iZ (1)) hx hb d_Mo_products_64 (by decide +kernel) ?_
  refine lv_iconst (v := iZ (4)) hx hb d_Mo_products_65 (by decide +kernel) ?_
  refine lv_iconst (v := iZ (5)) hx hb d_Mo_products_66 (by decide +kernel) ?_
  refine cv (n := 3) (wr := [(oh, .inl (cI, 10000, .inl fh)), (og, .inl (cI, 32, .inl fs)), (on_, .inl (cI, 32, .inl fn)), (ok_, .inl (cI, 166400, .inl fk)), (oK, .inl (cI, 64, .inl fK))]) (w1 := (fun (u : (Nat → Int32) × (Nat → Int32)) => [(mo, .inr (8, [.int qc, .int (iZ (np : Int)), .ref ow, .ref om, .ref ok_, .ref oK, .ref og, .ref on_, .ref oh, .ref ox, .int qn, .int qf, .ref op_, .int ql])), (ow, .inl (cI, 108000, .inl u.1)), (om, .inl (cI, 9, .inl u.2))])) (As := [.int (iZ 1), .int (iZ 4), .int (iZ 5)]) (rest := []) K hP hD hK hS hA hl.1 (c_Mo_product l D mo qc np ow om ok_ oK og on_ oh ox qn qf op_ ql fx5 fy5 cI v5 1 4 5 H.size w5 (by decide) (by decide) (by decide) (by decide) (by decide) (by rw [y54, y55]; omega)) [3, 4, 5] [0, 1, 2, 6, 7] [0] rfl rfl rfl (by decide) (by decide) (by decide) 0 rfl rfl (big_in mw_1258 rfl) (big_in mw_10 rfl) (big_in mw_1255 rfl) (big_in mw_1257 rfl) (big_in sp_34 rfl) rfl rfl (by decide +kernel) ⟨by rw [hR]; exact Nat.le_of_ble_eq_true rfl, by rw [hR]; exact Nat.le_of_ble_eq_true rfl⟩ rfl (Nat.le_of_ble_eq_true rfl) d_Mo_products_67 ⟨by rw [hR]; exact Nat.le_of_ble_eq_true rfl, by rw [hR]; exact Nat.le_of_ble_eq_true rfl⟩ rfl (fun v u H locs hp6 hP hD hS _ => ?_)
  obtain ⟨fx6, fy6⟩ := u
  try dsimp only at hp6
  obtain ⟨rfl, w6⟩ := hp6
  have hP : va_P D cls0 [(oh, .inl (cI, 10000, .inl fh)), (og, .inl (cI, 32, .inl fs)), (on_, .inl (cI, 32, .inl fn)), (ok_, .inl (cI, 166400, .inl fk)), (oK, .inl (cI, 64, .inl fK)), (mo, .inr (8, [.int qc, .int (iZ (np : Int)), .ref ow, .ref om, .ref ok_, .ref oK, .ref og, .ref on_, .ref oh, .ref ox, .int qn, .int qf, .ref op_, .int ql])), (ow, .inl (cI, 108000, .inl fx6)), (om, .inl (cI, 9, .inl fy6))] H := hP
  have hD : va_D A [(oh, .inl (cI, 10000, .inl fh)), (og, .inl (cI, 32, .inl fs)), (on_, .inl (cI, 32, .inl fn)), (ok_, .inl (cI, 166400, .inl fk)), (oK, .inl (cI, 64, .inl fK)), (mo, .inr (8, [.int qc, .int (iZ (np : Int)), .ref ow, .ref om, .ref ok_, .ref oK, .ref og, .ref on_, .ref oh, .ref ox, .int qn, .int qf, .ref op_, .int ql])), (ow, .inl (cI, 108000, .inl fx6)), (om, .inl (cI, 9, .inl fy6))] := hD
  show W p l e R s m args below meth c H locs _ _ Q (F0 m 70 ls [])
  obtain ⟨v6, hv6⟩ : ∃ z, z = up v5 1 (v5 4 * v5 5) := ⟨_, rfl⟩
  rw [← hv6] at w6
  have y60 : v6 0 = tv a * bv b_ := by rw [hv6, up_n (by decide)]; exact y50
  have y61 : v6 1 = bv a * tv b_ := by rw [hv6, up_s, y54, y55]
  have l5 := lm_mul (tv a) (bv b_)
  have l6 := lm_mul (bv a) (tv b_)
  obtain ⟨sp1, sp2⟩ := sg_prod ja3 jb3 ja2 jb2
  refine lv_aload_n hx hb d_Mo_products_70 rfl (lv_at hl 0 rfl) ?_
  refine lv_iload_n hx hb d_Mo_products_71 rfl (lv_at hl 1 rfl) ?_
  refine lv_aload_n hx hb d_Mo_products_72 rfl (lv_at hl 0 rfl) ?_
  refine va_get (D := D) (ci := 8) (v := .ref og) (C := R_Mo) (T := F_Mo) (N := 14) hx hb hts i_Mo hown hK hP 5 rfl rfl 6 (by decide) (hts _ (big_in mw_1121 rfl)) (fun _ h9 => h9) rfl d_Mo_products_73 ?_
  refine lv_iload_n hx hb d_Mo_products_76 rfl (lv_at hl 2 rfl) ?_
  refine zz_iald hx hb hK hP 1 0 rfl rfl (a) (by omega) (by omega) (by omega) d_Mo_products_77 ?_
  rw [hMR.2.1 a (by omega)]
  refine lv_aload_n hx hb d_Mo_products_78 rfl (lv_at hl 0 rfl) ?_
  refine va_get (D := D) (ci := 8) (v := .ref og) (C := R_Mo) (T := F_Mo) (N := 14) hx hb hts i_Mo hown hK hP 5 rfl rfl 6 (by decide) (hts _ (big_in mw_1121 rfl)) (fun _ h9 => h9) rfl d_Mo_products_79 ?_
  refine lv_iload_n hx hb d_Mo_products_82 rfl (lv_at hl 3 rfl) ?_
  refine zz_iald hx hb hK hP 1 0 rfl rfl (b_) (by omega) (by omega) (by omega) d_Mo_products_83 ?_
  rw [hMR.2.1 b_ (by omega)]
  refine zz_imul hx hb d_Mo_products_84 ?_
  refine lv_iload hx hb d_Mo_products_85 (lv_at hl 4 rfl) ?_
  refine zz_if_eq (tgt := 94) hx hb d_Mo_products_87 (by decide) (by omega) (fun c87 => False.elim (by omega)) (fun c87 => ?_)
  refine lv_iconst (v := iZ (3)) hx hb d_Mo_products_90 (by decide +kernel) ?_
  refine lv_goto (tgt := 95) hx hb d_Mo_products_91 (by decide) ?_
  refine cv (n := 3) (wr := []) (w1 := (fun (u : (Nat → Int32) × (Nat → Int32) × (Nat → Int32) × (Nat → Nat)) => [(mo, .inr (8, [.int (iZ 3), .int (iZ (np : Int)), .ref ow, .ref om, .ref ok_, .ref oK, .ref og, .ref on_, .ref oh, .ref ox, .int qn, .int qf, .ref op_, .int ql])), (ow, .inl (cI, 108000, .inl u.1)), (om, .inl (cI, 9, .inl u.2.1)), (oh, .inl (cI, 10000, .inl u.2.2.1)), (ok_, .inl (cI, 166400, .inl fk)), (oK, .inl (cI, 64, .inl fK)), (og, .inl (cI, 32, .inl fs)), (on_, .inl (cI, 32, .inl fn))])) (As := [.int (iZ (to : Int)), .int (iZ ((sg a) * (sg b_))), .int (iZ 3)]) (rest := []) K hP hD hK hS hA hl.1 (c_Mo_putX l D mo qc np ow om ok_ oK og on_ oh ox qn qf op_ ql fx6 fy6 cI fh fk fK fs fn v6 tv bv sg to ((sg a) * (sg b_)) 3 H.size w6 hMR (by omega) hnd hnp (by omega) (by decide) (by rw [y61]; exact Nat.mul_pos pa hb0) (by rw [y60]; omega) (by rw [y61]; omega) (by rw [y60, y61]; exact hfit)) [5, 6, 7, 0, 3, 4, 1, 2] [] [0] rfl rfl rfl (by decide) (by decide) (by decide) 0 rfl rfl (big_in mw_1185 rfl) (big_in mw_10 rfl) (big_in mw_1182 rfl) (big_in mw_1184 rfl) (big_in sp_20 rfl) rfl rfl (by decide +kernel) ⟨by rw [hR]; exact Nat.le_of_ble_eq_true rfl, by rw [hR]; exact Nat.le_of_ble_eq_true rfl⟩ rfl (Nat.le_of_ble_eq_true rfl) d_Mo_products_95 ⟨by rw [hR]; exact Nat.le_of_ble_eq_true rfl, by rw [hR]; exact Nat.le_of_ble_eq_true rfl⟩ rfl (fun v u H locs hp7 hP hD hS _ => ?_)
  obtain ⟨fa, fb, fc, v9⟩ := u
  try dsimp only at hp7
  obtain ⟨rfl, w9⟩ := hp7
  have hP : va_P D cls0 [(mo, .inr (8, [.int (iZ 3), .int (iZ (np : Int)), .ref ow, .ref om, .ref ok_, .ref oK, .ref og, .ref on_, .ref oh, .ref ox, .int qn, .int qf, .ref op_, .int ql])), (ow, .inl (cI, 108000, .inl fa)), (om, .inl (cI, 9, .inl fb)), (oh, .inl (cI, 10000, .inl fc)), (ok_, .inl (cI, 166400, .inl fk)), (oK, .inl (cI, 64, .inl fK)), (og, .inl (cI, 32, .inl fs)), (on_, .inl (cI, 32, .inl fn))] H := hP
  have hD : va_D A [(mo, .inr (8, [.int (iZ 3), .int (iZ (np : Int)), .ref ow, .ref om, .ref ok_, .ref oK, .ref og, .ref on_, .ref oh, .ref ox, .int qn, .int qf, .ref op_, .int ql])), (ow, .inl (cI, 108000, .inl fa)), (om, .inl (cI, 9, .inl fb)), (oh, .inl (cI, 10000, .inl fc)), (ok_, .inl (cI, 166400, .inl fk)), (oK, .inl (cI, 64, .inl fK)), (og, .inl (cI, 32, .inl fs)), (on_, .inl (cI, 32, .inl fn))] := hD
  show W p l e R s m args below meth c H locs _ _ Q (F0 m 98 ls [.int (iZ 0)])
  have hP9 : va_P D cls0 [(mo, .inr (8, [.int (iZ 3), .int (iZ (np : Int)), .ref ow, .ref om, .ref ok_, .ref oK, .ref og, .ref on_, .ref oh, .ref ox, .int qn, .int qf, .ref op_, .int ql])), (ow, .inl (cI, 108000, .inl fa)), (om, .inl (cI, 9, .inl fb)), (oh, .inl (cI, 10000, .inl fc)), (ok_, .inl (cI, 166400, .inl fk)), (oK, .inl (cI, 64, .inl fK)), (og, .inl (cI, 32, .inl fs)), (on_, .inl (cI, 32, .inl fn))] H := hP.sub [0, 1, 2, 3, 4, 5, 6, 7] rfl
  have hD9 : va_D A [(mo, .inr (8, [.int (iZ 3), .int (iZ (np : Int)), .ref ow, .ref om, .ref ok_, .ref oK, .ref og, .ref on_, .ref oh, .ref ox, .int qn, .int qf, .ref op_, .int ql])), (ow, .inl (cI, 108000, .inl fa)), (om, .inl (cI, 9, .inl fb)), (oh, .inl (cI, 10000, .inl fc)), (ok_, .inl (cI, 166400, .inl fk)), (oK, .inl (cI, 64, .inl fK)), (og, .inl (cI, 32, .inl fs)), (on_, .inl (cI, 32, .inl fn))] := hD.sub [0, 1, 2, 3, 4, 5, 6, 7] (by decide) rfl
  rw [hQ, ← hAe]
  refine r_i (v := (iZ 0)) K (fa, fb, fc, v9) hS d_Mo_products_98 ?_ (fun t ht hv => ?_)
  · exact ⟨rfl, w9⟩
  · exact ⟨by rw [ht]; exact hP9, va_K.moved hv hK, by rw [← hAe]; exact hD9⟩
set_option maxHeartbeats 4000000 in
set_option maxRecDepth 100000 in
theorem c_Mo_multiply (l : Launch) (D : va_G) (mo : Nat) (qc : Int32) (np : Nat) (ow : Nat) (om : Nat) (ok_ : Nat) (oK : Nat) (og : Nat) (on_ : Nat) (oh : Nat) (ox : Nat) (qn : Int32) (qf : Int32) (op_ : Nat) (ql : Int32) (fw : Nat → Int32) (fm : Nat → Int32) (cI : ClassId) (fh : Nat → Int32) (fk : Nat → Int32) (fK : Nat → Int32) (fs : Nat → Int32) (fn : Nat → Int32) (val : Nat → Nat) (tv : Nat → Nat) (bv : Nat → Nat) (sg : Nat → Int) (to : Nat) (a : Nat) (b_ : Nat) (sz : Nat) (hW : WB fw fm val) (hMR : MoR fk fK fs fn tv bv sg) (hnd : ndS tv bv 32 ≤ np) (hnp : np ≤ 1024) (J : RgC tv bv sg) (hbv : ∀ r, r < 32 → 0 < bv r) (t1 : to < 32) (t2 : a < 32) (t3_ : b_ < 32) (hfit : ndS tv bv 32 + (lm (rdN (tv a * tv b_) (bv a * bv b_)) + lm (rdD (tv a * tv b_) (bv a * bv b_))) ≤ np + (lm (tv to) + lm (bv to))) : Met l y_Mo_multiply (wsB y_Mo_multiply b_Mo_multiply 4 (some .int)) ({ frames := 6, cells := 0, slots := 0, locals := 149 }) (va_Pc [.ref mo, .int (iZ (to : Int)), .int (iZ (a : Int)), .int (iZ (b_ : Int))] (wPre D [(cI, .int)] [(mo, .inr (8, [.int qc, .int (iZ (np : Int)), .ref ow, .ref om, .ref ok_, .ref oK, .ref og, .ref on_, .ref oh, .ref ox, .int qn, .int qf, .ref op_, .int ql])), (ow, .inl (cI, 108000, .inl fw)), (om, .inl (cI, 9, .inl fm)), (oh, .inl (cI, 10000, .inl fh)), (ok_, .inl (cI, 166400, .inl fk)), (oK, .inl (cI, 64, .inl fK)), (og, .inl (cI, 32, .inl fs)), (on_, .inl (cI, 32, .inl fn))] sz)) (va_QV (fun (v_9 : Option Value) (u_9 : (Nat → Int32) × (Nat → Int32) × (Nat → Int32) × (Nat → Int32) × (Nat → Int32) × (Nat → Int32) × (Nat → Int32) × (Nat → Nat)) => v_9 = some (.int (iZ ((lm (rdN (tv a * tv b_) (bv a * bv b_)) : Int) + (lm (rdD (tv a * tv b_) (bv a * bv b_)) : Int)))) ∧ (WB u_9.1 u_9.2.1 u_9.2.2.2.2.2.2.2) ∧ (MoR u_9.2.2.2.1 u_9.2.2.2.2.1 u_9.2.2.2.2.2.1 u_9.2.2.2.2.2.2.1 (up tv to (rdN (tv a * tv b_) (bv a * bv b_))) (up bv to (rdD (tv a * tv b_) (bv a * bv b_))) (up sg to (if rdN (tv a * tv b_) (bv a * bv b_) = 0 then 0 else sg a * sg b_)))) (fun u_9 => wPost D [(cI, .int)] [(mo, .inr (8, [.int qc, .int (iZ (np : Int)), .ref ow, .ref om, .ref ok_, .ref oK, .ref og, .ref on_, .ref oh, .ref ox, .int qn, .int qf, .ref op_, .int ql])), (ow, .inl (cI, 108000, .inl fw)), (om, .inl (cI, 9, .inl fm)), (oh, .inl (cI, 10000, .inl fh)), (ok_, .inl (cI, 166400, .inl fk)), (oK, .inl (cI, 64, .inl fK)), (og, .inl (cI, 32, .inl fs)), (on_, .inl (cI, 32, .inl fn))] [(mo, .inr (8, [.int (iZ 0), .int (iZ (np : Int)), .ref ow, .ref om, .ref ok_, .ref oK, .ref og, .ref on_, .ref oh, .ref ox, .int qn, .int qf, .ref op_, .int ql])), (ow, .inl (cI, 108000, .inl u_9.1)), (om, .inl (cI, 9, .inl u_9.2.1)), (oh, .inl (cI, 10000, .inl u_9.2.2.1)), (ok_, .inl (cI, 166400, .inl u_9.2.2.2.1)), (oK, .inl (cI, 64, .inl u_9.2.2.2.2.1)), (og, .inl (cI, 32, .inl u_9.2.2.2.2.2.1)), (on_, .inl (cI, 32, .inl u_9.2.2.2.2.2.2.1))] sz) (va_A [(mo, .inr (8, [.int qc, .int (iZ (np : Int)), .ref ow, .ref om, .ref ok_, .ref oK, .ref og, .ref on_, .ref oh, .ref ox, .int qn, .int qf, .ref op_, .int ql])), (ow, .inl (cI, 108000, .inl fw)), (om, .inl (cI, 9, .inl fm)), (oh, .inl (cI, 10000, .inl fh)), (ok_, .inl (cI, 166400, .inl fk)), (oK, .inl (cI, 64, .inl fK)), (og, .inl (cI, 32, .inl fs)), (on_, .inl (cI, 32, .inl fn))] sz)) 0 0 (va_A [(mo, .inr (8, [.int qc, .int (iZ (np : Int)), .ref ow, .ref om, .ref ok_, .ref oK, .ref og, .ref on_, .ref oh, .ref ox, .int qn, .int qf, .ref op_, .int ql])), (ow, .inl (cI, 108000, .inl fw)), (om, .inl (cI, 9, .inl fm)), (oh, .inl (cI, 10000, .inl fh)), (ok_, .inl (cI, 166400, .inl fk)), (oK, .inl (cI, 64, .inl fK)), (og, .inl (cI, 32, .inl fs)), (on_, .inl (cI, 32, .inl fn))] sz) := by
  refine met_enter (by decide +kernel) (Nat.le_of_ble_eq_true rfl) ?_
  intro p e s m args below meth c ls A R Q H locs K hin hAe hA hR hQ hP hK hD hS hl
  obtain ⟨hx, hb, hml, hrt, hlk, hts, hown, hno⟩ := id K
  have hl : lv_has ls 4 [(0, .ref mo), (1, .int (iZ (to : Int))), (2, .int (iZ (a : Int))), (3, .int (iZ (b_ : Int)))] := hl
  refine lv_aload_n hx hb d_Mo_multiply_0 rfl (lv_at hl 0 rfl) ?_
  refine lv_iload_n hx hb d_Mo_multiply_1 rfl (lv_at hl 1 rfl) ?_
  refine cs (n := 1) (wr := [(mo, .inr (8, [.int qc, .int (iZ (np : Int)), .ref ow, .ref om, .ref ok_, .ref oK, .ref og, .ref on_, .ref oh, .ref ox, .int qn, .int qf, .ref op_, .int ql])), (ow, .inl (cI, 108000, .inl fw)), (om, .inl (cI, 9, .inl fm)), (oh, .inl (cI, 10000, .inl fh)), (ok_, .inl (cI, 166400, .inl fk)), (oK, .inl (cI, 64, .inl fK)), (og, .inl (cI, 32, .inl fs)), (on_, .inl (cI, 32, .inl fn))]) (w1 := (fun (u : Int) => [])) (As := [.int (iZ (to : Int))]) (rest := [.ref mo]) K hP hD hK hS hA hl.1 (c_Mo_isRegister l D (to : Int) H.size (by omega)) [] [0, 1, 2, 3, 4, 5, 6, 7] [] rfl rfl rfl (by decide) (by decide) (by decide) (big_in mw_1172 rfl) (big_in mw_10 rfl) (big_in mw_1170 rfl) (big_in mw_1171 rfl) rfl rfl (by decide +kernel) ⟨by rw [hR]; exact Nat.le_of_ble_eq_true rfl, by rw [hR]; exact Nat.le_of_ble_eq_true rfl⟩ rfl (Nat.le_of_ble_eq_true rfl) d_Mo_multiply_2 ⟨by rw [hR]; exact Nat.le_of_ble_eq_true rfl, by rw [hR]; exact Nat.le_of_ble_eq_true rfl⟩ rfl (fun v u H locs hp1 hP hD hS _ => ?_)
  obtain ⟨r2, rfl⟩ : ∃ z, z = u := ⟨_, rfl⟩
  obtain ⟨rfl, p2⟩ := hp1
  have hP : va_P D cls0 [(mo, .inr (8, [.int qc, .int (iZ (np : Int)), .ref ow, .ref om, .ref ok_, .ref oK, .ref og, .ref on_, .ref oh, .ref ox, .int qn, .int qf, .ref op_, .int ql])), (ow, .inl (cI, 108000, .inl fw)), (om, .inl (cI, 9, .inl fm)), (oh, .inl (cI, 10000, .inl fh)), (ok_, .inl (cI, 166400, .inl fk)), (oK, .inl (cI, 64, .inl fK)), (og, .inl (cI, 32, .inl fs)), (on_, .inl (cI, 32, .inl fn))] H := hP
  have hD : va_D A [(mo, .inr (8, [.int qc, .int (iZ (np : Int)), .ref ow, .ref om, .ref ok_, .ref oK, .ref og, .ref on_, .ref oh, .ref ox, .int qn, .int qf, .ref op_, .int ql])), (ow, .inl (cI, 108000, .inl fw)), (om, .inl (cI, 9, .inl fm)), (oh, .inl (cI, 10000, .inl fh)), (ok_, .inl (cI, 166400, .inl fk)), (oK, .inl (cI, 64, .inl fK)), (og, .inl (cI, 32, .inl fs)), (on_, .inl (cI, 32, .inl fn))] := hD
  show W p l e R s m args below meth c H locs _ _ Q (F0 m 5 ls [.int (iZ r2), .ref mo])
  have b2 : 0 ≤ r2 ∧ r2 ≤ 1 := by omega
  refine zz_if_eq (tgt := 26) hx hb d_Mo_multiply_5 (by decide) (by omega) (fun c5 => ?_) (fun c5 => ?_)
  · refine lv_iconst (v := iZ (1)) hx hb d_Mo_multiply_26 (by decide +kernel) ?_
    exfalso
    omega
  · refine lv_iload_n hx hb d_Mo_multiply_8 rfl (lv_at hl 2 rfl) ?_
    refine cs (n := 1) (wr := [(mo, .inr (8, [.int qc, .int (iZ (np : Int)), .ref ow, .ref om, .ref ok_, .ref oK, .ref og, .ref on_, .ref oh, .ref ox, .int qn, .int qf, .ref op_, .int ql])), (ow, .inl (cI, 108000, .inl fw)), (om, .inl (cI, 9, .inl fm)), (oh, .inl (cI, 10000, .inl fh)), (ok_, .inl (cI, 166400, .inl fk)), (oK, .inl (cI, 64, .inl fK)), (og, .inl (cI, 32, .inl fs)), (on_, .inl (cI, 32, .inl fn))]) (w1 := (fun (u : Int) => [])) (As := [.int (iZ (a : Int))]) (rest := [.ref mo]) K hP hD hK hS hA hl.1 (c_Mo_isRegister l D (a : Int) H.size (by omega)) [] [0, 1, 2, 3, 4, 5, 6, 7] [] rfl rfl rfl (by decide) (by decide) (by decide) (big_in mw_1172 rfl) (big_in mw_10 rfl) (big_in mw_1170 rfl) (big_in mw_1171 rfl) rfl rfl (by decide +kernel) ⟨by rw [hR]; exact Nat.le_of_ble_eq_true rfl, by rw [hR]; exact Nat.le_of_ble_eq_true rfl⟩ rfl (Nat.le_of_ble_eq_true rfl) d_Mo_multiply_9 ⟨by rw [hR]; exact Nat.le_of_ble_eq_true rfl, by rw [hR]; exact Nat.le_of_ble_eq_true rfl⟩ rfl (fun v u H locs hp2 hP hD hS _ => ?_)
    obtain ⟨r9, rfl⟩ : ∃ z, z = u := ⟨_, rfl⟩
    obtain ⟨rfl, p9⟩ := hp2
    have hP : va_P D cls0 [(mo, .inr (8, [.int qc, .int (iZ (np : Int)), .ref ow, .ref om, .ref ok_, .ref oK, .ref og, .ref on_, .ref oh, .ref ox, .int qn, .int qf, .ref op_, .int ql])), (ow, .inl (cI, 108000, .inl fw)), (om, .inl (cI, 9, .inl fm)), (oh, .inl (cI, 10000, .inl fh)), (ok_, .inl (cI, 166400, .inl fk)), (oK, .inl (cI, 64, .inl fK)), (og, .inl (cI, 32, .inl fs)), (on_, .inl (cI, 32, .inl fn))] H := hP
    have hD : va_D A [(mo, .inr (8, [.int qc, .int (iZ (np : Int)), .ref ow, .ref om, .ref ok_, .ref oK, .ref og, .ref on_, .ref oh, .ref ox, .int qn, .int qf, .ref op_, .int ql])), (ow, .inl (cI, 108000, .inl fw)), (om, .inl (cI, 9, .inl fm)), (oh, .inl (cI, 10000, .inl fh)), (ok_, .inl (cI, 166400, .inl fk)), (oK, .inl (cI, 64, .inl fK)), (og, .inl (cI, 32, .inl fs)), (on_, .inl (cI, 32, .inl fn))] := hD
    show W p l e R s m args below meth c H locs _ _ Q (F0 m 12 ls [.int (iZ r9), .ref mo])
    have b9 : 0 ≤ r9 ∧ r9 ≤ 1 := by omega
    refine zz_if_eq (tgt := 26) hx hb d_Mo_multiply_12 (by decide) (by omega) (fun c12 => ?_) (fun c12 => ?_)
    · refine lv_iconst (v := iZ (1)) hx hb d_Mo_multiply_26 (by decide +kernel) ?_
      exfalso
      omega
    · refine lv_iload_n hx hb d_Mo_multiply_15 rfl (lv_at hl 3 rfl) ?_
      refine cs (n := 1) (wr := [(mo, .inr (8, [.int qc, .int (iZ (np : Int)), .ref ow, .ref om, .ref ok_, .ref oK, .ref og, .ref on_, .ref oh, .ref ox, .int qn, .int qf, .ref op_, .int ql])), (ow, .inl (cI, 108000, .inl fw)), (om, .inl (cI, 9, .inl fm)), (oh, .inl (cI, 10000, .inl fh)), (ok_, .inl (cI, 166400, .inl fk)), (oK, .inl (cI, 64, .inl fK)), (og, .inl (cI, 32, .inl fs)), (on_, .inl (cI, 32, .inl fn))]) (w1 := (fun (u : Int) => [])) (As := [.int (iZ (b_ : Int))]) (rest := [.ref mo]) K hP hD hK hS hA hl.1 (c_Mo_isRegister l D (b_ : Int) H.size (by omega)) [] [0, 1, 2, 3, 4, 5, 6, 7] [] rfl rfl rfl (by decide) (by decide) (by decide) (big_in mw_1172 rfl) (big_in mw_10 rfl) (big_in mw_1170 rfl) (big_in mw_1171 rfl) rfl rfl (by decide +kernel) ⟨by rw [hR]; exact Nat.le_of_ble_eq_true rfl, by rw [hR]; exact Nat.le_of_ble_eq_true rfl⟩ rfl (Nat.le_of_ble_eq_true rfl) d_Mo_multiply_16 ⟨by rw [hR]; exact Nat.le_of_ble_eq_true rfl, by rw [hR]; exact Nat.le_of_ble_eq_true rfl⟩ rfl (fun v u H locs hp3 hP hD hS _ => ?_)
      obtain ⟨r16, rfl⟩ : ∃ z, z = u := ⟨_, rfl⟩
      obtain ⟨rfl, p16⟩ := hp3
      have hP : va_P D cls0 [(mo, .inr (8, [.int qc, .int (iZ (np : Int)), .ref ow, .ref om, .ref ok_, .ref oK, .ref og, .ref on_, .ref oh, .ref ox, .int qn, .int qf, .ref op_, .int ql])), (ow, .inl (cI, 108000, .inl fw)), (om, .inl (cI, 9, .inl fm)), (oh, .inl (cI, 10000, .inl fh)), (ok_, .inl (cI, 166400, .inl fk)), (oK, .inl (cI, 64, .inl fK)), (og, .inl (cI, 32, .inl fs)), (on_, .inl (cI, 32, .inl fn))] H := hP
      have hD : va_D A [(mo, .inr (8, [.int qc, .int (iZ (np : Int)), .ref ow, .ref om, .ref ok_, .ref oK, .ref og, .ref on_, .ref oh, .ref ox, .int qn, .int qf, .ref op_, .int ql])), (ow, .inl (cI, 108000, .inl fw)), (om, .inl (cI, 9, .inl fm)), (oh, .inl (cI, 10000, .inl fh)), (ok_, .inl (cI, 166400, .inl fk)), (oK, .inl (cI, 64, .inl fK)), (og, .inl (cI, 32, .inl fs)), (on_, .inl (cI, 32, .inl fn))] := hD
      show W p l e R s m args below meth c H locs _ _ Q (F0 m 19 ls [.int (iZ r16), .ref mo])
      have b16 : 0 ≤ r16 ∧ r16 ≤ 1 := by omega
      refine zz_if_eq (tgt := 26) hx hb d_Mo_multiply_19 (by decide) (by omega) (fun c19 => ?_) (fun c19 => ?_)
      · refine lv_iconst (v := iZ (1)) hx hb d_Mo_multiply_26 (by decide +kernel) ?_
        exfalso
        omega
      · refine lv_iconst (v := iZ (0)) hx hb d_Mo_multiply_22 (by decide +kernel) ?_
        refine lv_goto (tgt := 27) hx hb d_Mo_multiply_23 (by decide) ?_
        refine cv (n := 1) (wr := [(ow, .inl (cI, 108000, .inl fw)), (om, .inl (cI, 9, .inl fm)), (oh, .inl (cI, 10000, .inl fh)), (ok_, .inl (cI, 166400, .inl fk)), (oK, .inl (cI, 64, .inl fK)), (og, .inl (cI, 32, .inl fs)), (on_, .inl (cI, 32, .inl fn))]) (w1 := (fun (u : Int) => [(mo, .inr (8, [.int (iZ 0), .int (iZ (np : Int)), .ref ow, .ref om, .ref ok_, .ref oK, .ref og, .ref on_, .ref oh, .ref ox, .int qn, .int qf, .ref op_, .int ql]))])) (As := [.int (iZ 0)]) (rest := []) K hP hD hK hS hA hl.1 (c_Mo_refuses l D mo qc np ow om ok_ oK og on_ oh ox qn qf op_ ql 0 H.size (by omega)) [0] [1, 2, 3, 4, 5, 6, 7] [] rfl rfl rfl (by decide) (by decide) (by decide) 0 rfl rfl (big_in mw_1176 rfl) (big_in mw_10 rfl) (big_in mw_1173 rfl) (big_in mw_1175 rfl) (big_in sp_18 rfl) rfl rfl (by decide +kernel) ⟨by rw [hR]; exact Nat.le_of_ble_eq_true rfl, by rw [hR]; exact Nat.le_of_ble_eq_true rfl⟩ rfl (Nat.le_of_ble_eq_true rfl) d_Mo_multiply_27 ⟨by rw [hR]; exact Nat.le_of_ble_eq_true rfl, by rw [hR]; exact Nat.le_of_ble_eq_true rfl⟩ rfl (fun v u H locs hp4 hP hD hS _ => ?_)
        obtain ⟨rf, rfl⟩ : ∃ z, z = u := ⟨_, rfl⟩
        obtain ⟨rfl, prf⟩ := hp4
        have hP : va_P D cls0 [(ow, .inl (cI, 108000, .inl fw)), (om, .inl (cI, 9, .inl fm)), (oh, .inl (cI, 10000, .inl fh)), (ok_, .inl (cI, 166400, .inl fk)), (oK, .inl (cI, 64, .inl fK)), (og, .inl (cI, 32, .inl fs)), (on_, .inl (cI, 32, .inl fn)), (mo, .inr (8, [.int (iZ 0), .int (iZ (np : Int)), .ref ow, .ref om, .ref ok_, .ref oK, .ref og, .ref on_, .ref oh, .ref ox, .int qn, .int qf, .ref op_, .int ql]))] H := hP
        have hD : va_D A [(ow, .inl (cI, 108000, .inl fw)), (om, .inl (cI, 9, .inl fm)), (oh, .inl (cI, 10000, .inl fh)), (ok_, .inl (cI, 166400, .inl fk)), (oK, .inl (cI, 64, .inl fK)), (og, .inl (cI, 32, .inl fs)), (on_, .inl (cI, 32, .inl fn)), (mo, .inr (8, [.int (iZ 0), .int (iZ (np : Int)), .ref ow, .ref om, .ref ok_, .ref oK, .ref og, .ref on_, .ref oh, .ref ox, .int qn, .int qf, .ref op_, .int ql]))] := hD
        show W p l e R s m args below meth c H locs _ _ Q (F0 m 30 ls [.int (iZ rf)])
        refine zz_if_eq (tgt := 37) hx hb d_Mo_multiply_30 (by decide) (by omega) (fun c30 => ?_) (fun c30 => False.elim (by omega))
        refine lv_aload_n hx hb d_Mo_multiply_37 rfl (lv_at hl 0 rfl) ?_
        refine lv_iload_n hx hb d_Mo_multiply_38 rfl (lv_at hl 1 rfl) ?_
        refine lv_iload_n hx hb d_Mo_multiply_39 rfl (lv_at hl 2 rfl) ?_
        refine lv_iload_n hx hb d_Mo_multiply_40 rfl (lv_at hl 3 rfl) ?_
        refine lv_iconst (v := iZ (0)) hx hb d_Mo_multiply_41 (by decide +kernel) ?_
        refine cv (n := 4) (wr := []) (w1 := (fun (u : (Nat → Int32) × (Nat → Int32) × (Nat → Int32) × (Nat → Int32) × (Nat → Int32) × (Nat → Int32) × (Nat → Int32) × (Nat → Nat)) => [(mo, .inr (8, [.int (iZ 0), .int (iZ (np : Int)), .ref ow, .ref om, .ref ok_, .ref oK, .ref og, .ref on_, .ref oh, .ref ox, .int qn, .int qf, .ref op_, .int ql])), (ow, .inl (cI, 108000, .inl u.1)), (om, .inl (cI, 9, .inl u.2.1)), (oh, .inl (cI, 10000, .inl u.2.2.1)), (ok_, .inl (cI, 166400, .inl u.2.2.2.1)), (oK, .inl (cI, 64, .inl u.2.2.2.2.1)), (og, .inl (cI, 32, .inl u.2.2.2.2.2.1)), (on_, .inl (cI, 32, .inl u.2.2.2.2.2.2.1))])) (As := [.int (iZ (to : Int)), .int (iZ (a : Int)), .int (iZ (b_ : Int)), .int (iZ 0)]) (rest := []) K hP hD hK hS hA hl.1 (c_Mo_products0 l D mo (iZ 0) np ow om ok_ oK og on_ oh ox qn qf op_ ql fw fm cI fh fk fK fs fn val tv bv sg to a b_ H.size hW hMR hnd hnp J hbv t1 t2 t3_ hfit) [7, 0, 1, 2, 3, 4, 5, 6] [] [0] rfl rfl rfl (by decide) (by decide) (by decide) 0 rfl rfl (big_in mw_1286 rfl) (big_in mw_10 rfl) (big_in mw_1283 rfl) (big_in mw_1285 rfl) (big_in sp_39 rfl) rfl rfl (by decide +kernel) ⟨by rw [hR]; exact Nat.le_of_ble_eq_true rfl, by rw [hR]; exact Nat.le_of_ble_eq_true rfl⟩ rfl (Nat.le_of_ble_eq_true rfl) d_Mo_multiply_42 ⟨by rw [hR]; exact Nat.le_of_ble_eq_true rfl, by rw [hR]; exact Nat.le_of_ble_eq_true rfl⟩ rfl (fun v u H locs hp5 hP hD hS _ => ?_)
        obtain ⟨fa, fb, fc, fd, fe, ff, fg, v9⟩ := u
        try dsimp only at hp5
        obtain ⟨rfl, w9, q9⟩ := hp5
        have hP : va_P D cls0 [(mo, .inr (8, [.int (iZ 0), .int (iZ (np : Int)), .ref ow, .ref om, .ref ok_, .ref oK, .ref og, .ref on_, .ref oh, .ref ox, .int qn, .int qf, .ref op_, .int ql])), (ow, .inl (cI, 108000, .inl fa)), (om, .inl (cI, 9, .inl fb)), (oh, .inl (cI, 10000, .inl fc)), (ok_, .inl (cI, 166400, .inl fd)), (oK, .inl (cI, 64, .inl fe)), (og, .inl (cI, 32, .inl ff)), (on_, .inl (cI, 32, .inl fg))] H := hP
        have hD : va_D A [(mo, .inr (8, [.int (iZ 0), .int (iZ (np : Int)), .ref ow, .ref om, .ref ok_, .ref oK, .ref og, .ref on_, .ref oh, .ref ox, .int qn, .int qf, .ref op_, .int ql])), (ow, .inl (cI, 108000, .inl fa)), (om, .inl (cI, 9, .inl fb)), (oh, .inl (cI, 10000, .inl fc)), (ok_, .inl (cI, 166400, .inl fd)), (oK, .inl (cI, 64, .inl fe)), (og, .inl (cI, 32, .inl ff)), (on_, .inl (cI, 32, .inl fg))] := hD
        show W p l e R s m args below meth c H locs _ _ Q (F0 m 45 ls [.int (iZ ((lm (rdN (tv a * tv b_) (bv a * bv b_)) : Int) + (lm (rdD (tv a * tv b_) (bv a * bv b_)) : Int)))])
        have hP9 : va_P D cls0 [(mo, .inr (8, [.int (iZ 0), .int (iZ (np : Int)), .ref ow, .ref om, .ref ok_, .ref oK, .ref og, .ref on_, .ref oh, .ref ox, .int qn, .int qf, .ref op_, .int ql])), (ow, .inl (cI, 108000, .inl fa)), (om, .inl (cI, 9, .inl fb)), (oh, .inl (cI, 10000, .inl fc)), (ok_, .inl (cI, 166400, .inl fd)), (oK, .inl (cI, 64, .inl fe)), (og, .inl (cI, 32, .inl ff)), (on_, .inl (cI, 32, .inl fg))] H := hP.sub [0, 1, 2, 3, 4, 5, 6, 7] rfl
        have hD9 : va_D A [(mo, .inr (8, [.int (iZ 0), .int (iZ (np : Int)), .ref ow, .ref om, .ref ok_, .ref oK, .ref og, .ref on_, .ref oh, .ref ox, .int qn, .int qf, .ref op_, .int ql])), (ow, .inl (cI, 108000, .inl fa)), (om, .inl (cI, 9, .inl fb)), (oh, .inl (cI, 10000, .inl fc)), (ok_, .inl (cI, 166400, .inl fd)), (oK, .inl (cI, 64, .inl fe)), (og, .inl (cI, 32, .inl ff)), (on_, .inl (cI, 32, .inl fg))] := hD.sub [0, 1, 2, 3, 4, 5, 6, 7] (by decide) rfl
        rw [hQ, ← hAe]
        refine r_i (v := (iZ ((lm (rdN (tv a * tv b_) (bv a * bv b_)) : Int) + (lm (rdD (tv a * tv b_) (bv a * bv b_)) : Int)))) K (fa, fb, fc, fd, fe, ff, fg, v9) hS d_Mo_multiply_45 ?_ (fun t ht hv => ?_)
        · exact ⟨rfl, w9, q9⟩
        · exact ⟨by rw [ht]; exact hP9, va_K.moved hv hK, by rw [← hAe]; exact hD9⟩
set_option maxHeartbeats 4000000 in
set_option maxRecDepth 100000 in
theorem f_Mo_multiply (l : Launch) (D : va_G) (mo : Nat) (qc : Int32) (np : Nat) (ow : Nat) (om : Nat) (ok_ : Nat) (oK : Nat) (og : Nat) (on_ : Nat) (oh : Nat) (ox : Nat) (qn : Int32) (qf : Int32) (op_ : Nat) (ql : Int32) (fw : Nat → Int32) (fm : Nat → Int32) (cI : ClassId) (fh : Nat → Int32) (fk : Nat → Int32) (fK : Nat → Int32) (fs : Nat → Int32) (fn : Nat → Int32) (val : Nat → Nat) (tv : Nat → Nat) (bv : Nat → Nat) (sg : Nat → Int) (to : Nat) (a : Nat) (b_ : Nat) (sz : Nat) (hW : WB fw fm val) (hMR : MoR fk fK fs fn tv bv sg) (hnd : ndS tv bv 32 ≤ np) (hnp : np ≤ 1024) (J : RgC tv bv sg) (hbv : ∀ r, r < 32 → 0 < bv r) (t1 : to < 32) (t2 : a < 32) (t3_ : b_ < 32) (hfit : np + (lm (tv to) + lm (bv to)) < ndS tv bv 32 + (lm (rdN (tv a * tv b_) (bv a * bv b_)) + lm (rdD (tv a * tv b_) (bv a * bv b_)))) : Met l y_Mo_multiply (wsB y_Mo_multiply b_Mo_multiply 4 (some .int)) ({ frames := 6, cells := 0, slots := 0, locals := 149 }) (va_Pc [.ref mo, .int (iZ (to : Int)), .int (iZ (a : Int)), .int (iZ (b_ : Int))] (wPre D [(cI, .int)] [(mo, .inr (8, [.int qc, .int (iZ (np : Int)), .ref ow, .ref om, .ref ok_, .ref oK, .ref og, .ref on_, .ref oh, .ref ox, .int qn, .int qf, .ref op_, .int ql])), (ow, .inl (cI, 108000, .inl fw)), (om, .inl (cI, 9, .inl fm)), (oh, .inl (cI, 10000, .inl fh)), (ok_, .inl (cI, 166400, .inl fk)), (oK, .inl (cI, 64, .inl fK)), (og, .inl (cI, 32, .inl fs)), (on_, .inl (cI, 32, .inl fn))] sz)) (va_QV (fun (v_9 : Option Value) (u_9 : (Nat → Int32) × (Nat → Int32) × (Nat → Int32) × (Nat → Nat)) => v_9 = some (.int (iZ 0)) ∧ (WB u_9.1 u_9.2.1 u_9.2.2.2)) (fun u_9 => wPost D [(cI, .int)] [(mo, .inr (8, [.int qc, .int (iZ (np : Int)), .ref ow, .ref om, .ref ok_, .ref oK, .ref og, .ref on_, .ref oh, .ref ox, .int qn, .int qf, .ref op_, .int ql])), (ow, .inl (cI, 108000, .inl fw)), (om, .inl (cI, 9, .inl fm)), (oh, .inl (cI, 10000, .inl fh)), (ok_, .inl (cI, 166400, .inl fk)), (oK, .inl (cI, 64, .inl fK)), (og, .inl (cI, 32, .inl fs)), (on_, .inl (cI, 32, .inl fn))] [(mo, .inr (8, [.int (iZ 2), .int (iZ (np : Int)), .ref ow, .ref om, .ref ok_, .ref oK, .ref og, .ref on_, .ref oh, .ref ox, .int qn, .int qf, .ref op_, .int ql])), (ow, .inl (cI, 108000, .inl u_9.1)), (om, .inl (cI, 9, .inl u_9.2.1)), (oh, .inl (cI, 10000, .inl u_9.2.2.1)), (ok_, .inl (cI, 166400, .inl fk)), (oK, .inl (cI, 64, .inl fK)), (og, .inl (cI, 32, .inl fs)), (on_, .inl (cI, 32, .inl fn))] sz) (va_A [(mo, .inr (8, [.int qc, .int (iZ (np : Int)), .ref ow, .ref om, .ref ok_, .ref oK, .ref og, .ref on_, .ref oh, .ref ox, .int qn, .int qf, .ref op_, .int ql])), (ow, .inl (cI, 108000, .inl fw)), (om, .inl (cI, 9, .inl fm)), (oh, .inl (cI, 10000, .inl fh)), (ok_, .inl (cI, 166400, .inl fk)), (oK, .inl (cI, 64, .inl fK)), (og, .inl (cI, 32, .inl fs)), (on_, .inl (cI, 32, .inl fn))] sz)) 0 0 (va_A [(mo, .inr (8, [.int qc, .int (iZ (np : Int)), .ref ow, .ref om, .ref ok_, .ref oK, .ref og, .ref on_, .ref oh, .ref ox, .int qn, .int qf, .ref op_, .int ql])), (ow, .inl (cI, 108000, .inl fw)), (om, .inl (cI, 9, .inl fm)), (oh, .inl (cI, 10000, .inl fh)), (ok_, .inl (cI, 166400, .inl fk)), (oK, .inl (cI, 64, .inl fK)), (og, .inl (cI, 32, .inl fs)), (on_, .inl (cI, 32, .inl fn))] sz) := by
  refine met_enter (by decide +kernel) (Nat.le_of_ble_eq_true rfl) ?_
  intro p e s m args below meth c ls A R Q H locs K hin hAe hA hR hQ hP hK hD hS hl
  obtain ⟨hx, hb, hml, hrt, hlk, hts, hown, hno⟩ := id K
  have hl : lv_has ls 4 [(0, .ref mo), (1, .int (iZ (to : Int))), (2, .int (iZ (a : Int))), (3, .int (iZ (b_ : Int)))] := hl
  refine lv_aload_n hx hb d_Mo_multiply_0 rfl (lv_at hl 0 rfl) ?_
  refine lv_iload_n hx hb d_Mo_multiply_1 rfl (lv_at hl 1 rfl) ?_
  refine cs (n := 1) (wr := [(mo, .inr (8, [.int qc, .int (iZ (np : Int)), .ref ow, .ref om, .ref ok_, .ref oK, .ref og, .ref on_, .ref oh, .ref ox, .int qn, .int qf, .ref op_, .int ql])), (ow, .inl (cI, 108000, .inl fw)), (om, .inl (cI, 9, .inl fm)), (oh, .inl (cI, 10000, .inl fh)), (ok_, .inl (cI, 166400, .inl fk)), (oK, .inl (cI, 64, .inl fK)), (og, .inl (cI, 32, .inl fs)), (on_, .inl (cI, 32, .inl fn))]) (w1 := (fun (u : Int) => [])) (As := [.int (iZ (to : Int))]) (rest := [.ref mo]) K hP hD hK hS hA hl.1 (c_Mo_isRegister l D (to : Int) H.size (by omega)) [] [0, 1, 2, 3, 4, 5, 6, 7] [] rfl rfl rfl (by decide) (by decide) (by decide) (big_in mw_1172 rfl) (big_in mw_10 rfl) (big_in mw_1170 rfl) (big_in mw_1171 rfl) rfl rfl (by decide +kernel) ⟨by rw [hR]; exact Nat.le_of_ble_eq_true rfl, by rw [hR]; exact Nat.le_of_ble_eq_true rfl⟩ rfl (Nat.le_of_ble_eq_true rfl) d_Mo_multiply_2 ⟨by rw [hR]; exact Nat.le_of_ble_eq_true rfl, by rw [hR]; exact Nat.le_of_ble_eq_true rfl⟩ rfl (fun v u H locs hp1 hP hD hS _ => ?_)
  obtain ⟨r2, rfl⟩ : ∃ z, z = u := ⟨_, rfl⟩
  obtain ⟨rfl, p2⟩ := hp1
  have hP : va_P D cls0 [(mo, .inr (8, [.int qc, .int (iZ (np : Int)), .ref ow, .ref om, .ref ok_, .ref oK, .ref og, .ref on_, .ref oh, .ref ox, .int qn, .int qf, .ref op_, .int ql])), (ow, .inl (cI, 108000, .inl fw)), (om, .inl (cI, 9, .inl fm)), (oh, .inl (cI, 10000, .inl fh)), (ok_, .inl (cI, 166400, .inl fk)), (oK, .inl (cI, 64, .inl fK)), (og, .inl (cI, 32, .inl fs)), (on_, .inl (cI, 32, .inl fn))] H := hP
  have hD : va_D A [(mo, .inr (8, [.int qc, .int (iZ (np : Int)), .ref ow, .ref om, .ref ok_, .ref oK, .ref og, .ref on_, .ref oh, .ref ox, .int qn, .int qf, .ref op_, .int ql])), (ow, .inl (cI, 108000, .inl fw)), (om, .inl (cI, 9, .inl fm)), (oh, .inl (cI, 10000, .inl fh)), (ok_, .inl (cI, 166400, .inl fk)), (oK, .inl (cI, 64, .inl fK)), (og, .inl (cI, 32, .inl fs)), (on_, .inl (cI, 32, .inl fn))] := hD
  show W p l e R s m args below meth c H locs _ _ Q (F0 m 5 ls [.int (iZ r2), .ref mo])
  have b2 : 0 ≤ r2 ∧ r2 ≤ 1 := by omega
  refine zz_if_eq (tgt := 26) hx hb d_Mo_multiply_5 (by decide) (by omega) (fun c5 => ?_) (fun c5 => ?_)
  · refine lv_iconst (v := iZ (1)) hx hb d_Mo_multiply_26 (by decide +kernel) ?_
    exfalso
    omega
  · refine lv_iload_n hx hb d_Mo_multiply_8 rfl (lv_at hl 2 rfl) ?_
    refine cs (n := 1) (wr := [(mo, .inr (8, [.int qc, .int (iZ (np : Int)), .ref ow, .ref om, .ref ok_, .ref oK, .ref og, .ref on_, .ref oh, .ref ox, .int qn, .int qf, .ref op_, .int ql])), (ow, .inl (cI, 108000, .inl fw)), (om, .inl (cI, 9, .inl fm)), (oh, .inl (cI, 10000, .inl fh)), (ok_, .inl (cI, 166400, .inl fk)), (oK, .inl (cI, 64, .inl fK)), (og, .inl (cI, 32, .inl fs)), (on_, .inl (cI, 32, .inl fn))]) (w1 := (fun (u : Int) => [])) (As := [.int (iZ (a : Int))]) (rest := [.ref mo]) K hP hD hK hS hA hl.1 (c_Mo_isRegister l D (a : Int) H.size (by omega)) [] [0, 1, 2, 3, 4, 5, 6, 7] [] rfl rfl rfl (by decide) (by decide) (by decide) (big_in mw_1172 rfl) (big_in mw_10 rfl) (big_in mw_1170 rfl) (big_in mw_1171 rfl) rfl rfl (by decide +kernel) ⟨by rw [hR]; exact Nat.le_of_ble_eq_true rfl, by rw [hR]; exact Nat.le_of_ble_eq_true rfl⟩ rfl (Nat.le_of_ble_eq_true rfl) d_Mo_multiply_9 ⟨by rw [hR]; exact Nat.le_of_ble_eq_true rfl, by rw [hR]; exact Nat.le_of_ble_eq_true rfl⟩ rfl (fun v u H locs hp2 hP hD hS _ => ?_)
    obtain ⟨r9, rfl⟩ : ∃ z, z = u := ⟨_, rfl⟩
    obtain ⟨rfl, p9⟩ := hp2
    have hP : va_P D cls0 [(mo, .inr (8, [.int qc, .int (iZ (np : Int)), .ref ow, .ref om, .ref ok_, .ref oK, .ref og, .ref on_, .ref oh, .ref ox, .int qn, .int qf, .ref op_, .int ql])), (ow, .inl (cI, 108000, .inl fw)), (om, .inl (cI, 9, .inl fm)), (oh, .inl (cI, 10000, .inl fh)), (ok_, .inl (cI, 166400, .inl fk)), (oK, .inl (cI, 64, .inl fK)), (og, .inl (cI, 32, .inl fs)), (on_, .inl (cI, 32, .inl fn))] H := hP
    have hD : va_D A [(mo, .inr (8, [.int qc, .int (iZ (np : Int)), .ref ow, .ref om, .ref ok_, .ref oK, .ref og, .ref on_, .ref oh, .ref ox, .int qn, .int qf, .ref op_, .int ql])), (ow, .inl (cI, 108000, .inl fw)), (om, .inl (cI, 9, .inl fm)), (oh, .inl (cI, 10000, .inl fh)), (ok_, .inl (cI, 166400, .inl fk)), (oK, .inl (cI, 64, .inl fK)), (og, .inl (cI, 32, .inl fs)), (on_, .inl (cI, 32, .inl fn))] := hD
    show W p l e R s m args below meth c H locs _ _ Q (F0 m 12 ls [.int (iZ r9), .ref mo])
    have b9 : 0 ≤ r9 ∧ r9 ≤ 1 := by omega
    refine zz_if_eq (tgt := 26) hx hb d_Mo_multiply_12 (by decide) (by omega) (fun c12 => ?_) (fun c12 => ?_)
    · refine lv_iconst (v := iZ (1)) hx hb d_Mo_multiply_26 (by decide +kernel) ?_
      exfalso
      omega
    · refine lv_iload_n hx hb d_Mo_multiply_15 rfl (lv_at hl 3 rfl) ?_
      refine cs (n := 1) (wr := [(mo, .inr (8, [.int qc, .int (iZ (np : Int)), .ref ow, .ref om, .ref ok_, .ref oK, .ref og, .ref on_, .ref oh, .ref ox, .int qn, .int qf, .ref op_, .int ql])), (ow, .inl (cI, 108000, .inl fw)), (om, .inl (cI, 9, .inl fm)), (oh, .inl (cI, 10000, .inl fh)), (ok_, .inl (cI, 166400, .inl fk)), (oK, .inl (cI, 64, .inl fK)), (og, .inl (cI, 32, .inl fs)), (on_, .inl (cI, 32, .inl fn))]) (w1 := (fun (u : Int) => [])) (As := [.int (iZ (b_ : Int))]) (rest := [.ref mo]) K hP hD hK hS hA hl.1 (c_Mo_isRegister l D (b_ : Int) H.size (by omega)) [] [0, 1, 2, 3, 4, 5, 6, 7] [] rfl rfl rfl (by decide) (by decide) (by decide) (big_in mw_1172 rfl) (big_in mw_10 rfl) (big_in mw_1170 rfl) (big_in mw_1171 rfl) rfl rfl (by decide +kernel) ⟨by rw [hR]; exact Nat.le_of_ble_eq_true rfl, by rw [hR]; exact Nat.le_of_ble_eq_true rfl⟩ rfl (Nat.le_of_ble_eq_true rfl) d_Mo_multiply_16 ⟨by rw [hR]; exact Nat.le_of_ble_eq_true rfl, by rw [hR]; exact Nat.le_of_ble_eq_true rfl⟩ rfl (fun v u H locs hp3 hP hD hS _ => ?_)
      obtain ⟨r16, rfl⟩ : ∃ z, z = u := ⟨_, rfl⟩
      obtain ⟨rfl, p16⟩ := hp3
      have hP : va_P D cls0 [(mo, .inr (8, [.int qc, .int (iZ (np : Int)), .ref ow, .ref om, .ref ok_, .ref oK, .ref og, .ref on_, .ref oh, .ref ox, .int qn, .int qf, .ref op_, .int ql])), (ow, .inl (cI, 108000, .inl fw)), (om, .inl (cI, 9, .inl fm)), (oh, .inl (cI, 10000, .inl fh)), (ok_, .inl (cI, 166400, .inl fk)), (oK, .inl (cI, 64, .inl fK)), (og, .inl (cI, 32, .inl fs)), (on_, .inl (cI, 32, .inl fn))] H := hP
      have hD : va_D A [(mo, .inr (8, [.int qc, .int (iZ (np : Int)), .ref ow, .ref om, .ref ok_, .ref oK, .ref og, .ref on_, .ref oh, .ref ox, .int qn, .int qf, .ref op_, .int ql])), (ow, .inl (cI, 108000, .inl fw)), (om, .inl (cI, 9, .inl fm)), (oh, .inl (cI, 10000, .inl fh)), (ok_, .inl (cI, 166400, .inl fk)), (oK, .inl (cI, 64, .inl fK)), (og, .inl (cI, 32, .inl fs)), (on_, .inl (cI, 32, .inl fn))] := hD
      show W p l e R s m args below meth c H locs _ _ Q (F0 m 19 ls [.int (iZ r16), .ref mo])
      have b16 : 0 ≤ r16 ∧ r16 ≤ 1 := by omega
      refine zz_if_eq (tgt := 26) hx hb d_Mo_multiply_19 (by decide) (by omega) (fun c19 => ?_) (fun c19 => ?_)
      · refine lv_iconst (v := iZ (1)) hx hb d_Mo_multiply_26 (by decide +kernel) ?_
        exfalso
        omega
      · refine lv_iconst (v := iZ (0)) hx hb d_Mo_multiply_22 (by decide +kernel) ?_
        refine lv_goto (tgt := 27) hx hb d_Mo_multiply_23 (by decide) ?_
        refine cv (n := 1) (wr := [(ow, .inl (cI, 108000, .inl fw)), (om, .inl (cI, 9, .inl fm)), (oh, .inl (cI, 10000, .inl fh)), (ok_, .inl (cI, 166400, .inl fk)), (oK, .inl (cI, 64, .inl fK)), (og, .inl (cI, 32, .inl fs)), (on_, .inl (cI, 32, .inl fn))]) (w1 := (fun (u : Int) => [(mo, .inr (8, [.int (iZ 0), .int (iZ (np : Int)), .ref ow, .ref om, .ref ok_, .ref oK, .ref og, .ref on_, .ref oh, .ref ox, .int qn, .int qf, .ref op_, .int ql]))])) (As := [.int (iZ 0)]) (rest := []) K hP hD hK hS hA hl.1 (c_Mo_refuses l D mo qc np ow om ok_ oK og on_ oh ox qn qf op_ ql 0 H.size (by omega)) [0] [1, 2, 3, 4, 5, 6, 7] [] rfl rfl rfl (by decide) (by decide) (by decide) 0 rfl rfl (big_in mw_1176 rfl) (big_in mw_10 rfl) (big_in mw_1173 rfl) (big_in mw_1175 rfl) (big_in sp_18 rfl) rfl rfl (by decide +kernel) ⟨by rw [hR]; exact Nat.le_of_ble_eq_true rfl, by rw [hR]; exact Nat.le_of_ble_eq_true rfl⟩ rfl (Nat.le_of_ble_eq_true rfl) d_Mo_multiply_27 ⟨by rw [hR]; exact Nat.le_of_ble_eq_true rfl, by rw [hR]; exact Nat.le_of_ble_eq_true rfl⟩ rfl (fun v u H locs hp4 hP hD hS _ => ?_)
        obtain ⟨rf, rfl⟩ : ∃ z, z = u := ⟨_, rfl⟩
        obtain ⟨rfl, prf⟩ := hp4
        have hP : va_P D cls0 [(ow, .inl (cI, 108000, .inl fw)), (om, .inl (cI, 9, .inl fm)), (oh, .inl (cI, 10000, .inl fh)), (ok_, .inl (cI, 166400, .inl fk)), (oK, .inl (cI, 64, .inl fK)), (og, .inl (cI, 32, .inl fs)), (on_, .inl (cI, 32, .inl fn)), (mo, .inr (8, [.int (iZ 0), .int (iZ (np : Int)), .ref ow, .ref om, .ref ok_, .ref oK, .ref og, .ref on_, .ref oh, .ref ox, .int qn, .int qf, .ref op_, .int ql]))] H := hP
        have hD : va_D A [(ow, .inl (cI, 108000, .inl fw)), (om, .inl (cI, 9, .inl fm)), (oh, .inl (cI, 10000, .inl fh)), (ok_, .inl (cI, 166400, .inl fk)), (oK, .inl (cI, 64, .inl fK)), (og, .inl (cI, 32, .inl fs)), (on_, .inl (cI, 32, .inl fn)), (mo, .inr (8, [.int (iZ 0), .int (iZ (np : Int)), .ref ow, .ref om, .ref ok_, .ref oK, .ref og, .ref on_, .ref oh, .ref ox, .int qn, .int qf, .ref op_, .int ql]))] := hD
        show W p l e R s m args below meth c H locs _ _ Q (F0 m 30 ls [.int (iZ rf)])
        refine zz_if_eq (tgt := 37) hx hb d_Mo_multiply_30 (by decide) (by omega) (fun c30 => ?_) (fun c30 => False.elim (by omega))
        refine lv_aload_n hx hb d_Mo_multiply_37 rfl (lv_at hl 0 rfl) ?_
        refine lv_iload_n hx hb d_Mo_multiply_38 rfl (lv_at hl 1 rfl) ?_
        refine lv_iload_n hx hb d_Mo_multiply_39 rfl (lv_at hl 2 rfl) ?_
        refine lv_iload_n hx hb d_Mo_multiply_40 rfl (lv_at hl 3 rfl) ?_
        refine lv_iconst (v := iZ (0)) hx hb d_Mo_multiply_41 (by decide +kernel) ?_
        refine cv (n := 4) (wr := []) (w1 := (fun (u : (Nat → Int32) × (Nat → Int32) × (Nat → Int32) × (Nat → Nat)) => [(mo, .inr (8, [.int (iZ 2), .int (iZ (np : Int)), .ref ow, .ref om, .ref ok_, .ref oK, .ref og, .ref on_, .ref oh, .ref ox, .int qn, .int qf, .ref op_, .int ql])), (ow, .inl (cI, 108000, .inl u.1)), (om, .inl (cI, 9, .inl u.2.1)), (oh, .inl (cI, 10000, .inl u.2.2.1)), (ok_, .inl (cI, 166400, .inl fk)), (oK, .inl (cI, 64, .inl fK)), (og, .inl (cI, 32, .inl fs)), (on_, .inl (cI, 32, .inl fn))])) (As := [.int (iZ (to : Int)), .int (iZ (a : Int)), .int (iZ (b_ : Int)), .int (iZ 0)]) (rest := []) K hP hD hK hS hA hl.1 (f_Mo_products0 l D mo (iZ 0) np ow om ok_ oK og on_ oh ox qn qf op_ ql fw fm cI fh fk fK fs fn val tv bv sg to a b_ H.size hW hMR hnd hnp J hbv t1 t2 t3_ hfit) [7, 0, 1, 2, 3, 4, 5, 6] [] [0] rfl rfl rfl (by decide) (by decide) (by decide) 0 rfl rfl (big_in mw_1286 rfl) (big_in mw_10 rfl) (big_in mw_1283 rfl) (big_in mw_1285 rfl) (big_in sp_39 rfl) rfl rfl (by decide +kernel) ⟨by rw [hR]; exact Nat.le_of_ble_eq_true rfl, by rw [hR]; exact Nat.le_of_ble_eq_true rfl⟩ rfl (Nat.le_of_ble_eq_true rfl) d_Mo_multiply_42 ⟨by rw [hR]; exact Nat.le_of_ble_eq_true rfl, by rw [hR]; exact Nat.le_of_ble_eq_true rfl⟩ rfl (fun v u H locs hp5 hP hD hS _ => ?_)
        obtain ⟨fa, fb, fc, v9⟩ := u
        try dsimp only at hp5
        obtain ⟨rfl, w9⟩ := hp5
        have hP : va_P D cls0 [(mo, .inr (8, [.int (iZ 2), .int (iZ (np : Int)), .ref ow, .ref om, .ref ok_, .ref oK, .ref og, .ref on_, .ref oh, .ref ox, .int qn, .int qf, .ref op_, .int ql])), (ow, .inl (cI, 108000, .inl fa)), (om, .inl (cI, 9, .inl fb)), (oh, .inl (cI, 10000, .inl fc)), (ok_, .inl (cI, 166400, .inl fk)), (oK, .inl (cI, 64, .inl fK)), (og, .inl (cI, 32, .inl fs)), (on_, .inl (cI, 32, .inl fn))] H := hP
        have hD : va_D A [(mo, .inr (8, [.int (iZ 2), .int (iZ (np : Int)), .ref ow, .ref om, .ref ok_, .ref oK, .ref og, .ref on_, .ref oh, .ref ox, .int qn, .int qf, .ref op_, .int ql])), (ow, .inl (cI, 108000, .inl fa)), (om, .inl (cI, 9, .inl fb)), (oh, .inl (cI, 10000, .inl fc)), (ok_, .inl (cI, 166400, .inl fk)), (oK, .inl (cI, 64, .inl fK)), (og, .inl (cI, 32, .inl fs)), (on_, .inl (cI, 32, .inl fn))] := hD
        show W p l e R s m args below meth c H locs _ _ Q (F0 m 45 ls [.int (iZ 0)])
        have hP9 : va_P D cls0 [(mo, .inr (8, [.int (iZ 2), .int (iZ (np : Int)), .ref ow, .ref om, .ref ok_, .ref oK, .ref og, .ref on_, .ref oh, .ref ox, .int qn, .int qf, .ref op_, .int ql])), (ow, .inl (cI, 108000, .inl fa)), (om, .inl (cI, 9, .inl fb)), (oh, .inl (cI, 10000, .inl fc)), (ok_, .inl (cI, 166400, .inl fk)), (oK, .inl (cI, 64, .inl fK)), (og, .inl (cI, 32, .inl fs)), (on_, .inl (cI, 32, .inl fn))] H := hP.sub [0, 1, 2, 3, 4, 5, 6, 7] rfl
        have hD9 : va_D A [(mo, .inr (8, [.int (iZ 2), .int (iZ (np : Int)), .ref ow, .ref om, .ref ok_, .ref oK, .ref og, .ref on_, .ref oh, .ref ox, .int qn, .int qf, .ref op_, .int ql])), (ow, .inl (cI, 108000, .inl fa)), (om, .inl (cI, 9, .inl fb)), (oh, .inl (cI, 10000, .inl fc)), (ok_, .inl (cI, 166400, .inl fk)), (oK, .inl (cI, 64, .inl fK)), (og, .inl (cI, 32, .inl fs)), (on_, .inl (cI, 32, .inl fn))] := hD.sub [0, 1, 2, 3, 4, 5, 6, 7] (by decide) rfl
        rw [hQ, ← hAe]
        refine r_i (v := (iZ 0)) K (fa, fb, fc, v9) hS d_Mo_multiply_45 ?_ (fun t ht hv => ?_)
        · exact ⟨rfl, w9⟩
        · exact ⟨by rw [ht]; exact hP9, va_K.moved hv hK, by rw [← hAe]; exact hD9⟩
set_option maxHeartbeats 4000000 in
set_option maxRecDepth 100000 in
/-- Mo_multiply refused with 1 -/
theorem r1_Mo_multiply (l : Launch) (D : va_G) (mo : Nat) (qc : Int32) (np : Nat) (ow : Nat) (om : Nat) (ok_ : Nat) (oK : Nat) (og : Nat) (on_ : Nat) (oh : Nat) (ox : Nat) (qn : Int32) (qf : Int32) (op_ : Nat) (ql : Int32) (zt : Int) (za : Int) (zb : Int) (sz : Nat) (hbad : (zt < 0 ∨ 32 ≤ zt) ∨ (za < 0 ∨ 32 ≤ za) ∨ (zb < 0 ∨ 32 ≤ zb)) (hrng : -2147483648 ≤ zt ∧ zt < 2147483648 ∧ -2147483648 ≤ za ∧ za < 2147483648 ∧ -2147483648 ≤ zb ∧ zb < 2147483648) : Met l y_Mo_multiply (wsB y_Mo_multiply b_Mo_multiply 4 (some .int)) ({ frames := 1, cells := 0, slots := 0, locals := 21 }) (va_Pc [.ref mo, .int (iZ zt), .int (iZ za), .int (iZ zb)] (wPre D [] [(mo, .inr (8, [.int qc, .int (iZ (np : Int)), .ref ow, .ref om, .ref ok_, .ref oK, .ref og, .ref on_, .ref oh, .ref ox, .int qn, .int qf, .ref op_, .int ql]))] sz)) (va_QV (fun (v_9 : Option Value) (u_9 : Unit) => v_9 = some (.int (iZ 0))) (fun u_9 => wPost D [] [(mo, .inr (8, [.int qc, .int (iZ (np : Int)), .ref ow, .ref om, .ref ok_, .ref oK, .ref og, .ref on_, .ref oh, .ref ox, .int qn, .int qf, .ref op_, .int ql]))] [(mo, .inr (8, [.int (iZ 1), .int (iZ (np : Int)), .ref ow, .ref om, .ref ok_, .ref oK, .ref og, .ref on_, .ref oh, .ref ox, .int qn, .int qf, .ref op_, .int ql]))] sz) (va_A [(mo, .inr (8, [.int qc, .int (iZ (np : Int)), .ref ow, .ref om, .ref ok_, .ref oK, .ref og, .ref on_, .ref oh, .ref ox, .int qn, .int qf, .ref op_, .int ql]))] sz)) 0 0 (va_A [(mo, .inr (8, [.int qc, .int (iZ (np : Int)), .ref ow, .ref om, .ref ok_, .ref oK, .ref og, .ref on_, .ref oh, .ref ox, .int qn, .int qf, .ref op_, .int ql]))] sz) := by
  refine met_enter (by decide +kernel) (Nat.le_of_ble_eq_true rfl) ?_
  intro p e s m args below meth c ls A R Q H locs K hin hAe hA hR hQ hP hK hD hS hl
  obtain ⟨hx, hb, hml, hrt, hlk, hts, hown, hno⟩ := id K
  have hl : lv_has ls 4 [(0, .ref mo), (1, .int (iZ zt)), (2, .int (iZ za)), (3, .int (iZ zb))] := hl
  refine lv_aload_n hx hb d_Mo_multiply_0 rfl (lv_at hl 0 rfl) ?_
  refine lv_iload_n hx hb d_Mo_multiply_1 rfl (lv_at hl 1 rfl) ?_
  refine cs (n := 1) (wr := [(mo, .inr (8, [.int qc, .int (iZ (np : Int)), .ref ow, .ref om, .ref ok_, .ref oK, .ref og, .ref on_, .ref oh, .ref ox, .int qn, .int qf, .ref op_, .int ql]))]) (w1 := (fun (u : Int) => [])) (As := [.int (iZ zt)]) (rest := [.ref mo]) K hP hD hK hS hA hl.1 (c_Mo_isRegister l D zt H.size (by omega)) [] [0] [] rfl rfl rfl (by decide) (by decide) (by decide) (big_in mw_1172 rfl) (big_in mw_10 rfl) (big_in mw_1170 rfl) (big_in mw_1171 rfl) rfl rfl (by decide +kernel) ⟨by rw [hR]; exact Nat.le_of_ble_eq_true rfl, by rw [hR]; exact Nat.le_of_ble_eq_true rfl⟩ rfl (Nat.le_of_ble_eq_true rfl) d_Mo_multiply_2 ⟨by rw [hR]; exact Nat.le_of_ble_eq_true rfl, by rw [hR]; exact Nat.le_of_ble_eq_true rfl⟩ rfl (fun v u H locs hp1 hP hD hS _ => ?_)
  obtain ⟨r2, rfl⟩ : ∃ z, z = u := ⟨_, rfl⟩
  obtain ⟨rfl, p2⟩ := hp1
  have hP : va_P D cls0 [(mo, .inr (8, [.int qc, .int (iZ (np : Int)), .ref ow, .ref om, .ref ok_, .ref oK, .ref og, .ref on_, .ref oh, .ref ox, .int qn, .int qf, .ref op_, .int ql]))] H := hP
  have hD : va_D A [(mo, .inr (8, [.int qc, .int (iZ (np : Int)), .ref ow, .ref om, .ref ok_, .ref oK, .ref og, .ref on_, .ref oh, .ref ox, .int qn, .int qf, .ref op_, .int ql]))] := hD
  show W p l e R s m args below meth c H locs _ _ Q (F0 m 5 ls [.int (iZ r2), .ref mo])
  have b2 : 0 ≤ r2 ∧ r2 ≤ 1 := by omega
  refine zz_if_eq (tgt := 26) hx hb d_Mo_multiply_5 (by decide) (by omega) (fun c5 => ?_) (fun c5 => ?_)
  · refine lv_iconst (v := iZ (1)) hx hb d_Mo_multiply_26 (by decide +kernel) ?_
    refine cv (n := 1) (wr := []) (w1 := (fun (u : Int) => [(mo, .inr (8, [.int (iZ 1), .int (iZ (np : Int)), .ref ow, .ref om, .ref ok_, .ref oK, .ref og, .ref on_, .ref oh, .ref ox, .int qn, .int qf, .ref op_, .int ql]))])) (As := [.int (iZ 1)]) (rest := []) K hP hD hK hS hA hl.1 (c_Mo_refuses l D mo qc np ow om ok_ oK og on_ oh ox qn qf op_ ql 1 H.size (by omega)) [0] [] [] rfl rfl rfl (by decide) (by decide) (by decide) 0 rfl rfl (big_in mw_1176 rfl) (big_in mw_10 rfl) (big_in mw_1173 rfl) (big_in mw_1175 rfl) (big_in sp_18 rfl) rfl rfl (by decide +kernel) ⟨by rw [hR]; exact Nat.le_of_ble_eq_true rfl, by rw [hR]; exact Nat.le_of_ble_eq_true rfl⟩ rfl (Nat.le_of_ble_eq_true rfl) d_Mo_multiply_27 ⟨by rw [hR]; exact Nat.le_of_ble_eq_true rfl, by rw [hR]; exact Nat.le_of_ble_eq_true rfl⟩ rfl (fun v u H locs hp2 hP hD hS _ => ?_)
    obtain ⟨rf, rfl⟩ : ∃ z, z = u := ⟨_, rfl⟩
    obtain ⟨rfl, prf⟩ := hp2
    have hP : va_P D cls0 [(mo, .inr (8, [.int (iZ 1), .int (iZ (np : Int)), .ref ow, .ref om, .ref ok_, .ref oK, .ref og, .ref on_, .ref oh, .ref ox, .int qn, .int qf, .ref op_, .int ql]))] H := hP
    have hD : va_D A [(mo, .inr (8, [.int (iZ 1), .int (iZ (np : Int)), .ref ow, .ref om, .ref ok_, .ref oK, .ref og, .ref on_, .ref oh, .ref ox, .int qn, .int qf, .ref op_, .int ql]))] := hD
    show W p l e R s m args below meth c H locs _ _ Q (F0 m 30 ls [.int (iZ rf)])
    refine zz_if_eq (tgt := 37) hx hb d_Mo_multiply_30 (by decide) (by omega) (fun c30 => False.elim (by omega)) (fun c30 => ?_)
    refine lv_iconst (v := iZ (0)) hx hb d_Mo_multiply_33 (by decide +kernel) ?_
    refine lv_goto (tgt := 45) hx hb d_Mo_multiply_34 (by decide) ?_
    have hP9 : va_P D cls0 [(mo, .inr (8, [.int (iZ 1), .int (iZ (np : Int)), .ref ow, .ref om, .ref ok_, .ref oK, .ref og, .ref on_, .ref oh, .ref ox, .int qn, .int qf, .ref op_, .int ql]))] H := hP.sub [0] rfl
    have hD9 : va_D A [(mo, .inr (8, [.int (iZ 1), .int (iZ (np : Int)), .ref ow, .ref om, .ref ok_, .ref oK, .ref og, .ref on_, .ref oh, .ref ox, .int qn, .int qf, .ref op_, .int ql]))] := hD.sub [0] (by decide) rfl
    rw [hQ, ← hAe]
    refine r_i (v := (iZ 0)) K () hS d_Mo_multiply_45 ?_ (fun t ht hv => ?_)
    · exact rfl
    · exact ⟨by rw [ht]; exact hP9, va_K.moved hv hK, by rw [← hAe]; exact hD9⟩
  · refine lv_iload_n hx hb d_Mo_multiply_8 rfl (lv_at hl 2 rfl) ?_
    refine cs (n := 1) (wr := [(mo, .inr (8, [.int qc, .int (iZ (np : Int)), .ref ow, .ref om, .ref ok_, .ref oK, .ref og, .ref on_, .ref oh, .ref ox, .int qn, .int qf, .ref op_, .int ql]))]) (w1 := (fun (u : Int) => [])) (As := [.int (iZ za)]) (rest := [.ref mo]) K hP hD hK hS hA hl.1 (c_Mo_isRegister l D za H.size (by omega)) [] [0] [] rfl rfl rfl (by decide) (by decide) (by decide) (big_in mw_1172 rfl) (big_in mw_10 rfl) (big_in mw_1170 rfl) (big_in mw_1171 rfl) rfl rfl (by decide +kernel) ⟨by rw [hR]; exact Nat.le_of_ble_eq_true rfl, by rw [hR]; exact Nat.le_of_ble_eq_true rfl⟩ rfl (Nat.le_of_ble_eq_true rfl) d_Mo_multiply_9 ⟨by rw [hR]; exact Nat.le_of_ble_eq_true rfl, by rw [hR]; exact Nat.le_of_ble_eq_true rfl⟩ rfl (fun v u H locs hp3 hP hD hS _ => ?_)
    obtain ⟨r9, rfl⟩ : ∃ z, z = u := ⟨_, rfl⟩
    obtain ⟨rfl, p9⟩ := hp3
    have hP : va_P D cls0 [(mo, .inr (8, [.int qc, .int (iZ (np : Int)), .ref ow, .ref om, .ref ok_, .ref oK, .ref og, .ref on_, .ref oh, .ref ox, .int qn, .int qf, .ref op_, .int ql]))] H := hP
    have hD : va_D A [(mo, .inr (8, [.int qc, .int (iZ (np : Int)), .ref ow, .ref om, .ref ok_, .ref oK, .ref og, .ref on_, .ref oh, .ref ox, .int qn, .int qf, .ref op_, .int ql]))] := hD
    show W p l e R s m args below meth c H locs _ _ Q (F0 m 12 ls [.int (iZ r9), .ref mo])
    have b9 : 0 ≤ r9 ∧ r9 ≤ 1 := by omega
    refine zz_if_eq (tgt := 26) hx hb d_Mo_multiply_12 (by decide) (by omega) (fun c12 => ?_) (fun c12 => ?_)
    · refine lv_iconst (v := iZ (1)) hx hb d_Mo_multiply_26 (by decide +kernel) ?_
      refine cv (n := 1) (wr := []) (w1 := (fun (u : Int) => [(mo, .inr (8, [.int (iZ 1), .int (iZ (np : Int)), .ref ow, .ref om, .ref ok_, .ref oK, .ref og, .ref on_, .ref oh, .ref ox, .int qn, .int qf, .ref op_, .int ql]))])) (As := [.int (iZ 1)]) (rest := []) K hP hD hK hS hA hl.1 (c_Mo_refuses l D mo qc np ow om ok_ oK og on_ oh ox qn qf op_ ql 1 H.size (by omega)) [0] [] [] rfl rfl rfl (by decide) (by decide) (by decide) 0 rfl rfl (big_in mw_1176 rfl) (big_in mw_10 rfl) (big_in mw_1173 rfl) (big_in mw_1175 rfl) (big_in sp_18 rfl) rfl rfl (by decide +kernel) ⟨by rw [hR]; exact Nat.le_of_ble_eq_true rfl, by rw [hR]; exact Nat.le_of_ble_eq_true rfl⟩ rfl (Nat.le_of_ble_eq_true rfl) d_Mo_multiply_27 ⟨by rw [hR]; exact Nat.le_of_ble_eq_true rfl, by rw [hR]; exact Nat.le_of_ble_eq_true rfl⟩ rfl (fun v u H locs hp4 hP hD hS _ => ?_)
      obtain ⟨rf, rfl⟩ : ∃ z, z = u := ⟨_, rfl⟩
      obtain ⟨rfl, prf⟩ := hp4
      have hP : va_P D cls0 [(mo, .inr (8, [.int (iZ 1), .int (iZ (np : Int)), .ref ow, .ref om, .ref ok_, .ref oK, .ref og, .ref on_, .ref oh, .ref ox, .int qn, .int qf, .ref op_, .int ql]))] H := hP
      have hD : va_D A [(mo, .inr (8, [.int (iZ 1), .int (iZ (np : Int)), .ref ow, .ref om, .ref ok_, .ref oK, .ref og, .ref on_, .ref oh, .ref ox, .int qn, .int qf, .ref op_, .int ql]))] := hD
      show W p l e R s m args below meth c H locs _ _ Q (F0 m 30 ls [.int (iZ rf)])
      refine zz_if_eq (tgt := 37) hx hb d_Mo_multiply_30 (by decide) (by omega) (fun c30 => False.elim (by omega)) (fun c30 => ?_)
      refine lv_iconst (v := iZ (0)) hx hb d_Mo_multiply_33 (by decide +kernel) ?_
      refine lv_goto (tgt := 45) hx hb d_Mo_multiply_34 (by decide) ?_
      have hP9 : va_P D cls0 [(mo, .inr (8, [.int (iZ 1), .int (iZ (np : Int)), .ref ow, .ref om, .ref ok_, .ref oK, .ref og, .ref on_, .ref oh, .ref ox, .int qn, .int qf, .ref op_, .int ql]))] H := hP.sub [0] rfl
      have hD9 : va_D A [(mo, .inr (8, [.int (iZ 1), .int (iZ (np : Int)), .ref ow, .ref om, .ref ok_, .ref oK, .ref og, .ref on_, .ref oh, .ref ox, .int qn, .int qf, .ref op_, .int ql]))] := hD.sub [0] (by decide) rfl
      rw [hQ, ← hAe]
      refine r_i (v := (iZ 0)) K () hS d_Mo_multiply_45 ?_ (fun t ht hv => ?_)
      · exact rfl
      · exact ⟨by rw [ht]; exact hP9, va_K.moved hv hK, by rw [← hAe]; exact hD9⟩
    · refine lv_iload_n hx hb d_Mo_multiply_15 rfl (lv_at hl 3 rfl) ?_
      refine cs (n := 1) (wr := [(mo, .inr (8, [.int qc, .int (iZ (np : Int)), .ref ow, .ref om, .ref ok_, .ref oK, .ref og, .ref on_, .ref oh, .ref ox, .int qn, .int qf, .ref op_, .int ql]))]) (w1 := (fun (u : Int) => [])) (As := [.int (iZ zb)]) (rest := [.ref mo]) K hP hD hK hS hA hl.1 (c_Mo_isRegister l D zb H.size (by omega)) [] [0] [] rfl rfl rfl (by decide) (by decide) (by decide) (big_in mw_1172 rfl) (big_in mw_10 rfl) (big_in mw_1170 rfl) (big_in mw_1171 rfl) rfl rfl (by decide +kernel) ⟨by rw [hR]; exact Nat.le_of_ble_eq_true rfl, by rw [hR]; exact Nat.le_of_ble_eq_true rfl⟩ rfl (Nat.le_of_ble_eq_true rfl) d_Mo_multiply_16 ⟨by rw [hR]; exact Nat.le_of_ble_eq_true rfl, by rw [hR]; exact Nat.le_of_ble_eq_true rfl⟩ rfl (fun v u H locs hp5 hP hD hS _ => ?_)
      obtain ⟨r16, rfl⟩ : ∃ z, z = u := ⟨_, rfl⟩
      obtain ⟨rfl, p16⟩ := hp5
      have hP : va_P D cls0 [(mo, .inr (8, [.int qc, .int (iZ (np : Int)), .ref ow, .ref om, .ref ok_, .ref oK, .ref og, .ref on_, .ref oh, .ref ox, .int qn, .int qf, .ref op_, .int ql]))] H := hP
      have hD : va_D A [(mo, .inr (8, [.int qc, .int (iZ (np : Int)), .ref ow, .ref om, .ref ok_, .ref oK, .ref og, .ref on_, .ref oh, .ref ox, .int qn, .int qf, .ref op_, .int ql]))] := hD
      show W p l e R s m args below meth c H locs _ _ Q (F0 m 19 ls [.int (iZ r16), .ref mo])
      have b16 : 0 ≤ r16 ∧ r16 ≤ 1 := by omega
      refine zz_if_eq (tgt := 26) hx hb d_Mo_multiply_19 (by decide) (by omega) (fun c19 => ?_) (fun c19 => ?_)
      · refine lv_iconst (v := iZ (1)) hx hb d_Mo_multiply_26 (by decide +kernel) ?_
        refine cv (n := 1) (wr := []) (w1 := (fun (u : Int) => [(mo, .inr (8, [.int (iZ 1), .int (iZ (np : Int)), .ref ow, .ref om, .ref ok_, .ref oK, .ref og, .ref on_, .ref oh, .ref ox, .int qn, .int qf, .ref op_, .int ql]))])) (As := [.int (iZ 1)]) (rest := []) K hP hD hK hS hA hl.1 (c_Mo_refuses l D mo qc np ow om ok_ oK og on_ oh ox qn qf op_ ql 1 H.size (by omega)) [0] [] [] rfl rfl rfl (by decide) (by decide) (by decide) 0 rfl rfl (big_in mw_1176 rfl) (big_in mw_10 rfl) (big_in mw_1173 rfl) (big_in mw_1175 rfl) (big_in sp_18 rfl) rfl rfl (by decide +kernel) ⟨by rw [hR]; exact Nat.le_of_ble_eq_true rfl, by rw [hR]; exact Nat.le_of_ble_eq_true rfl⟩ rfl (Nat.le_of_ble_eq_true rfl) d_Mo_multiply_27 ⟨by rw [hR]; exact Nat.le_of_ble_eq_true rfl, by rw [hR]; exact Nat.le_of_ble_eq_true rfl⟩ rfl (fun v u H locs hp6 hP hD hS _ => ?_)
        obtain ⟨rf, rfl⟩ : ∃ z, z = u := ⟨_, rfl⟩
        obtain ⟨rfl, prf⟩ := hp6
        have hP : va_P D cls0 [(mo, .inr (8, [.int (iZ 1), .int (iZ (np : Int)), .ref ow, .ref om, .ref ok_, .ref oK, .ref og, .ref on_, .ref oh, .ref ox, .int qn, .int qf, .ref op_, .int ql]))] H := hP
        have hD : va_D A [(mo, .inr (8, [.int (iZ 1), .int (iZ (np : Int)), .ref ow, .ref om, .ref ok_, .ref oK, .ref og, .ref on_, .ref oh, .ref ox, .int qn, .int qf, .ref op_, .int ql]))] := hD
        show W p l e R s m args below meth c H locs _ _ Q (F0 m 30 ls [.int (iZ rf)])
        refine zz_if_eq (tgt := 37) hx hb d_Mo_multiply_30 (by decide) (by omega) (fun c30 => False.elim (by omega)) (fun c30 => ?_)
        refine lv_iconst (v := iZ (0)) hx hb d_Mo_multiply_33 (by decide +kernel) ?_
        refine lv_goto (tgt := 45) hx hb d_Mo_multiply_34 (by decide) ?_
        have hP9 : va_P D cls0 [(mo, .inr (8, [.int (iZ 1), .int (iZ (np : Int)), .ref ow, .ref om, .ref ok_, .ref oK, .ref og, .ref on_, .ref oh, .ref ox, .int qn, .int qf, .ref op_, .int ql]))] H := hP.sub [0] rfl
        have hD9 : va_D A [(mo, .inr (8, [.int (iZ 1), .int (iZ (np : Int)), .ref ow, .ref om, .ref ok_, .ref oK, .ref og, .ref on_, .ref oh, .ref ox, .int qn, .int qf, .ref op_, .int ql]))] := hD.sub [0] (by decide) rfl
        rw [hQ, ← hAe]
        refine r_i (v := (iZ 0)) K () hS d_Mo_multiply_45 ?_ (fun t ht hv => ?_)
        · exact rfl
        · exact ⟨by rw [ht]; exact hP9, va_K.moved hv hK, by rw [← hAe]; exact hD9⟩
      · refine lv_iconst (v := iZ (0)) hx hb d_Mo_multiply_22 (by decide +kernel) ?_
        refine lv_goto (tgt := 27) hx hb d_Mo_multiply_23 (by decide) ?_
        exfalso
        omega
set_option maxHeartbeats 4000000 in
set_option maxRecDepth 100000 in
theorem c_Mo_divide (l : Launch) (D : va_G) (mo : Nat) (qc : Int32) (np : Nat) (ow : Nat) (om : Nat) (ok_ : Nat) (oK : Nat) (og : Nat) (on_ : Nat) (oh : Nat) (ox : Nat) (qn : Int32) (qf : Int32) (op_ : Nat) (ql : Int32) (fw : Nat → Int32) (fm : Nat → Int32) (cI : ClassId) (fh : Nat → Int32) (fk : Nat → Int32) (fK : Nat → Int32) (fs : Nat → Int32) (fn : Nat → Int32) (val : Nat → Nat) (tv : Nat → Nat) (bv : Nat → Nat) (sg : Nat → Int) (to : Nat) (a : Nat) (b_ : Nat) (sz : Nat) (hW : WB fw fm val) (hMR : MoR fk fK fs fn tv bv sg) (hnd : ndS tv bv 32 ≤ np) (hnp : np ≤ 1024) (J : RgC tv bv sg) (hbv : ∀ r, r < 32 → 0 < bv r) (t1 : to < 32) (t2 : a < 32) (t3_ : b_ < 32) (hb0 : 0 < tv b_) (hfit : ndS tv bv 32 + (lm (rdN (tv a * bv b_) (bv a * tv b_)) + lm (rdD (tv a * bv b_) (bv a * tv b_))) ≤ np + (lm (tv to) + lm (bv to))) : Met l y_Mo_divide (wsB y_Mo_divide b_Mo_divide 4 (some .int)) ({ frames := 6, cells := 0, slots := 0, locals := 149 }) (va_Pc [.ref mo, .int (iZ (to : Int)), .int (iZ (a : Int)), .int (iZ (b_ : Int))] (wPre D [(cI, .int)] [(mo, .inr (8, [.int qc, .int (iZ (np : Int)), .ref ow, .ref om, .ref ok_, .ref oK, .ref og, .ref on_, .ref oh, .ref ox, .int qn, .int qf, .ref op_, .int ql])), (ow, .inl (cI, 108000, .inl fw)), (om, .inl (cI, 9, .inl fm)), (oh, .inl (cI, 10000, .inl fh)), (ok_, .inl (cI, 166400, .inl fk)), (oK, .inl (cI, 64, .inl fK)), (og, .inl (cI, 32, .inl fs)), (on_, .inl (cI, 32, .inl fn))] sz)) (va_QV (fun (v_9 : Option Value) (u_9 : (Nat → Int32) × (Nat → Int32) × (Nat → Int32) × (Nat → Int32) × (Nat → Int32) × (Nat → Int32) × (Nat → Int32) × (Nat → Nat)) => v_9 = some (.int (iZ ((lm (rdN (tv a * bv b_) (bv a * tv b_)) : Int) + (lm (rdD (tv a * bv b_) (bv a * tv b_)) : Int)))) ∧ (WB u_9.1 u_9.2.1 u_9.2.2.2.2.2.2.2) ∧ (MoR u_9.2.2.2.1 u_9.2.2.2.2.1 u_9.2.2.2.2.2.1 u_9.2.2.2.2.2.2.1 (up tv to (rdN (tv a * bv b_) (bv a * tv b_))) (up bv to (rdD (tv a * bv b_) (bv a * tv b_))) (up sg to (if rdN (tv a * bv b_) (bv a * tv b_) = 0 then 0 else sg a * sg b_)))) (fun u_9 => wPost D [(cI, .int)] [(mo, .inr (8, [.int qc, .int (iZ (np : Int)), .ref ow, .ref om, .ref ok_, .ref oK, .ref og, .ref on_, .ref oh, .ref ox, .int qn, .int qf, .ref op_, .int ql])), (ow, .inl (cI, 108000, .inl fw)), (om, .inl (cI, 9, .inl fm)), (oh, .inl (cI, 10000, .inl fh)), (ok_, .inl (cI, 166400, .inl fk)), (oK, .inl (cI, 64, .inl fK)), (og, .inl (cI, 32, .inl fs)), (on_, .inl (cI, 32, .inl fn))] [(mo, .inr (8, [.int (iZ 0), .int (iZ (np : Int)), .ref ow, .ref om, .ref ok_, .ref oK, .ref og, .ref on_, .ref oh, .ref ox, .int qn, .int qf, .ref op_, .int ql])), (ow, .inl (cI, 108000, .inl u_9.1)), (om, .inl (cI, 9, .inl u_9.2.1)), (oh, .inl (cI, 10000, .inl u_9.2.2.1)), (ok_, .inl (cI, 166400, .inl u_9.2.2.2.1)), (oK, .inl (cI, 64, .inl u_9.2.2.2.2.1)), (og, .inl (cI, 32, .inl u_9.2.2.2.2.2.1)), (on_, .inl (cI, 32, .inl u_9.2.2.2.2.2.2.1))] sz) (va_A [(mo, .inr (8, [.int qc, .int (iZ (np : Int)), .ref ow, .ref om, .ref ok_, .ref oK, .ref og, .ref on_, .ref oh, .ref ox, .int qn, .int qf, .ref op_, .int ql])), (ow, .inl (cI, 108000, .inl fw)), (om, .inl (cI, 9, .inl fm)), (oh, .inl (cI, 10000, .inl fh)), (ok_, .inl (cI, 166400, .inl fk)), (oK, .inl (cI, 64, .inl fK)), (og, .inl (cI, 32, .inl fs)), (on_, .inl (cI, 32, .inl fn))] sz)) 0 0 (va_A [(mo, .inr (8, [.int qc, .int (iZ (np : Int)), .ref ow, .ref om, .ref ok_, .ref oK, .ref og, .ref on_, .ref oh, .ref ox, .int qn, .int qf, .ref op_, .int ql])), (ow, .inl (cI, 108000, .inl fw)), (om, .inl (cI, 9, .inl fm)), (oh, .inl (cI, 10000, .inl fh)), (ok_, .inl (cI, 166400, .inl fk)), (oK, .inl (cI, 64, .inl fK)), (og, .inl (cI, 32, .inl fs)), (on_, .inl (cI, 32, .inl fn))] sz) := by
  refine met_enter (by decide +kernel) (Nat.le_of_ble_eq_true rfl) ?_
  intro p e s m args below meth c ls A R Q H locs K hin hAe hA hR hQ hP hK hD hS hl
  obtain ⟨hx, hb, hml, hrt, hlk, hts, hown, hno⟩ := id K
  have hl : lv_has ls 4 [(0, .ref mo), (1, .int (iZ (to : Int))), (2, .int (iZ (a : Int))), (3, .int (iZ (b_ : Int)))] := hl
  obtain ⟨jb1, jb2, jb3⟩ := J b_ (by omega)
  refine lv_aload_n hx hb d_Mo_divide_0 rfl (lv_at hl 0 rfl) ?_
  refine lv_iload_n hx hb d_Mo_divide_1 rfl (lv_at hl 1 rfl) ?_
  refine cs (n := 1) (wr := [(mo, .inr (8, [.int qc, .int (iZ (np : Int)), .ref ow, .ref om, .ref ok_, .ref oK, .ref og, .ref on_, .ref oh, .ref ox, .int qn, .int qf, .ref op_, .int ql])), (ow, .inl (cI, 108000, .inl fw)), (om, .inl (cI, 9, .inl fm)), (oh, .inl (cI, 10000, .inl fh)), (ok_, .inl (cI, 166400, .inl fk)), (oK, .inl (cI, 64, .inl fK)), (og, .inl (cI, 32, .inl fs)), (on_, .inl (cI, 32, .inl fn))]) (w1 := (fun (u : Int) => [])) (As := [.int (iZ (to : Int))]) (rest := [.ref mo]) K hP hD hK hS hA hl.1 (c_Mo_isRegister l D (to : Int) H.size (by omega)) [] [0, 1, 2, 3, 4, 5, 6, 7] [] rfl rfl rfl (by decide) (by decide) (by decide) (big_in mw_1172 rfl) (big_in mw_10 rfl) (big_in mw_1170 rfl) (big_in mw_1171 rfl) rfl rfl (by decide +kernel) ⟨by rw [hR]; exact Nat.le_of_ble_eq_true rfl, by rw [hR]; exact Nat.le_of_ble_eq_true rfl⟩ rfl (Nat.le_of_ble_eq_true rfl) d_Mo_divide_2 ⟨by rw [hR]; exact Nat.le_of_ble_eq_true rfl, by rw [hR]; exact Nat.le_of_ble_eq_true rfl⟩ rfl (fun v u H locs hp1 hP hD hS _ => ?_)
  obtain ⟨r2, rfl⟩ : ∃ z, z = u := ⟨_, rfl⟩
  obtain ⟨rfl, p2⟩ := hp1
  have hP : va_P D cls0 [(mo, .inr (8, [.int qc, .int (iZ (np : Int)), .ref ow, .ref om, .ref ok_, .ref oK, .ref og, .ref on_, .ref oh, .ref ox, .int qn, .int qf, .ref op_, .int ql])), (ow, .inl (cI, 108000, .inl fw)), (om, .inl (cI, 9, .inl fm)), (oh, .inl (cI, 10000, .inl fh)), (ok_, .inl (cI, 166400, .inl fk)), (oK, .inl (cI, 64, .inl fK)), (og, .inl (cI, 32, .inl fs)), (on_, .inl (cI, 32, .inl fn))] H := hP
  have hD : va_D A [(mo, .inr (8, [.int qc, .int (iZ (np : Int)), .ref ow, .ref om, .ref ok_, .ref oK, .ref og, .ref on_, .ref oh, .ref ox, .int qn, .int qf, .ref op_, .int ql])), (ow, .inl (cI, 108000, .inl fw)), (om, .inl (cI, 9, .inl fm)), (oh, .inl (cI, 10000, .inl fh)), (ok_, .inl (cI, 166400, .inl fk)), (oK, .inl (cI, 64, .inl fK)), (og, .inl (cI, 32, .inl fs)), (on_, .inl (cI, 32, .inl fn))] := hD
  show W p l e R s m args below meth c H locs _ _ Q (F0 m 5 ls [.int (iZ r2), .ref mo])
  have b2 : 0 ≤ r2 ∧ r2 ≤ 1 := by omega
  refine zz_if_eq (tgt := 22) hx hb d_Mo_divide_5 (by decide) (by omega) (fun c5 => ?_) (fun c5 => ?_)
  · refine lv_iconst (v := iZ (1)) hx hb d_Mo_divide_22 (by decide +kernel) ?_
    refine lv_goto (tgt := 40) hx hb d_Mo_divide_23 (by decide) ?_
    exfalso
    omega
  · refine lv_iload_n hx hb d_Mo_divide_8 rfl (lv_at hl 2 rfl) ?_
    refine cs (n := 1) (wr := [(mo, .inr (8, [.int qc, .int (iZ (np : Int)), .ref ow, .ref om, .ref ok_, .ref oK, .ref og, .ref on_, .ref oh, .ref ox, .int qn, .int qf, .ref op_, .int ql])), (ow, .inl (cI, 108000, .inl fw)), (om, .inl (cI, 9, .inl fm)), (oh, .inl (cI, 10000, .inl fh)), (ok_, .inl (cI, 166400, .inl fk)), (oK, .inl (cI, 64, .inl fK)), (og, .inl (cI, 32, .inl fs)), (on_, .inl (cI, 32, .inl fn))]) (w1 := (fun (u : Int) => [])) (As := [.int (iZ (a : Int))]) (rest := [.ref mo]) K hP hD hK hS hA hl.1 (c_Mo_isRegister l D (a : Int) H.size (by omega)) [] [0, 1, 2, 3, 4, 5, 6, 7] [] rfl rfl rfl (by decide) (by decide) (by decide) (big_in mw_1172 rfl) (big_in mw_10 rfl) (big_in mw_1170 rfl) (big_in mw_1171 rfl) rfl rfl (by decide +kernel) ⟨by rw [hR]; exact Nat.le_of_ble_eq_true rfl, by rw [hR]; exact Nat.le_of_ble_eq_true rfl⟩ rfl (Nat.le_of_ble_eq_true rfl) d_Mo_divide_9 ⟨by rw [hR]; exact Nat.le_of_ble_eq_true rfl, by rw [hR]; exact Nat.le_of_ble_eq_true rfl⟩ rfl (fun v u H locs hp2 hP hD hS _ => ?_)
    obtain ⟨r9, rfl⟩ : ∃ z, z = u := ⟨_, rfl⟩
    obtain ⟨rfl, p9⟩ := hp2
    have hP : va_P D cls0 [(mo, .inr (8, [.int qc, .int (iZ (np : Int)), .ref ow, .ref om, .ref ok_, .ref oK, .ref og, .ref on_, .ref oh, .ref ox, .int qn, .int qf, .ref op_, .int ql])), (ow, .inl (cI, 108000, .inl fw)), (om, .inl (cI, 9, .inl fm)), (oh, .inl (cI, 10000, .inl fh)), (ok_, .inl (cI, 166400, .inl fk)), (oK, .inl (cI, 64, .inl fK)), (og, .inl (cI, 32, .inl fs)), (on_, .inl (cI, 32, .inl fn))] H := hP
    have hD : va_D A [(mo, .inr (8, [.int qc, .int (iZ (np : Int)), .ref ow, .ref om, .ref ok_, .ref oK, .ref og, .ref on_, .ref oh, .ref ox, .int qn, .int qf, .ref op_, .int ql])), (ow, .inl (cI, 108000, .inl fw)), (om, .inl (cI, 9, .inl fm)), (oh, .inl (cI, 10000, .inl fh)), (ok_, .inl (cI, 166400, .inl fk)), (oK, .inl (cI, 64, .inl fK)), (og, .inl (cI, 32, .inl fs)), (on_, .inl (cI, 32, .inl fn))] := hD
    show W p l e R s m args below meth c H locs _ _ Q (F0 m 12 ls [.int (iZ r9), .ref mo])
    have b9 : 0 ≤ r9 ∧ r9 ≤ 1 := by omega
    refine zz_if_eq (tgt := 22) hx hb d_Mo_divide_12 (by decide) (by omega) (fun c12 => ?_) (fun c12 => ?_)
    · refine lv_iconst (v := iZ (1)) hx hb d_Mo_divide_22 (by decide +kernel) ?_
      refine lv_goto (tgt := 40) hx hb d_Mo_divide_23 (by decide) ?_
      exfalso
      omega
    · refine lv_iload_n hx hb d_Mo_divide_15 rfl (lv_at hl 3 rfl) ?_
      refine cs (n := 1) (wr := [(mo, .inr (8, [.int qc, .int (iZ (np : Int)), .ref ow, .ref om, .ref ok_, .ref oK, .ref og, .ref on_, .ref oh, .ref ox, .int qn, .int qf, .ref op_, .int ql])), (ow, .inl (cI, 108000, .inl fw)), (om, .inl (cI, 9, .inl fm)), (oh, .inl (cI, 10000, .inl fh)), (ok_, .inl (cI, 166400, .inl fk)), (oK, .inl (cI, 64, .inl fK)), (og, .inl (cI, 32, .inl fs)), (on_, .inl (cI, 32, .inl fn))]) (w1 := (fun (u : Int) => [])) (As := [.int (iZ (b_ : Int))]) (rest := [.ref mo]) K hP hD hK hS hA hl.1 (c_Mo_isRegister l D (b_ : Int) H.size (by omega)) [] [0, 1, 2, 3, 4, 5, 6, 7] [] rfl rfl rfl (by decide) (by decide) (by decide) (big_in mw_1172 rfl) (big_in mw_10 rfl) (big_in mw_1170 rfl) (big_in mw_1171 rfl) rfl rfl (by decide +kernel) ⟨by rw [hR]; exact Nat.le_of_ble_eq_true rfl, by rw [hR]; exact Nat.le_of_ble_eq_true rfl⟩ rfl (Nat.le_of_ble_eq_true rfl) d_Mo_divide_16 ⟨by rw [hR]; exact Nat.le_of_ble_eq_true rfl, by rw [hR]; exact Nat.le_of_ble_eq_true rfl⟩ rfl (fun v u H locs hp3 hP hD hS _ => ?_)
      obtain ⟨r16, rfl⟩ : ∃ z, z = u := ⟨_, rfl⟩
      obtain ⟨rfl, p16⟩ := hp3
      have hP : va_P D cls0 [(mo, .inr (8, [.int qc, .int (iZ (np : Int)), .ref ow, .ref om, .ref ok_, .ref oK, .ref og, .ref on_, .ref oh, .ref ox, .int qn, .int qf, .ref op_, .int ql])), (ow, .inl (cI, 108000, .inl fw)), (om, .inl (cI, 9, .inl fm)), (oh, .inl (cI, 10000, .inl fh)), (ok_, .inl (cI, 166400, .inl fk)), (oK, .inl (cI, 64, .inl fK)), (og, .inl (cI, 32, .inl fs)), (on_, .inl (cI, 32, .inl fn))] H := hP
      have hD : va_D A [(mo, .inr (8, [.int qc, .int (iZ (np : Int)), .ref ow, .ref om, .ref ok_, .ref oK, .ref og, .ref on_, .ref oh, .ref ox, .int qn, .int qf, .ref op_, .int ql])), (ow, .inl (cI, 108000, .inl fw)), (om, .inl (cI, 9, .inl fm)), (oh, .inl (cI, 10000, .inl fh)), (ok_, .inl (cI, 166400, .inl fk)), (oK, .inl (cI, 64, .inl fK)), (og, .inl (cI, 32, .inl fs)), (on_, .inl (cI, 32, .inl fn))] := hD
      show W p l e R s m args below meth c H locs _ _ Q (F0 m 19 ls [.int (iZ r16), .ref mo])
      have b16 : 0 ≤ r16 ∧ r16 ≤ 1 := by omega
      refine zz_if_ne (tgt := 26) hx hb d_Mo_divide_19 (by decide) (by omega) (fun c19 => ?_) (fun c19 => ?_)
      · refine lv_aload_n hx hb d_Mo_divide_26 rfl (lv_at hl 0 rfl) ?_
        refine va_get (D := D) (ci := 8) (v := .ref og) (C := R_Mo) (T := F_Mo) (N := 14) hx hb hts i_Mo hown hK hP 0 rfl rfl 6 (by decide) (hts _ (big_in mw_1121 rfl)) (fun _ h9 => h9) rfl d_Mo_divide_27 ?_
        refine lv_iload_n hx hb d_Mo_divide_30 rfl (lv_at hl 3 rfl) ?_
        refine zz_iald hx hb hK hP 6 0 rfl rfl (b_) (by omega) (by omega) (by omega) d_Mo_divide_31 ?_
        rw [hMR.2.1 b_ (by omega)]
        refine zz_if_ne (tgt := 39) hx hb d_Mo_divide_32 (by decide) (by omega) (fun c32 => ?_) (fun c32 => ?_)
        · refine lv_iconst (v := iZ (0)) hx hb d_Mo_divide_39 (by decide +kernel) ?_
          refine cv (n := 1) (wr := [(ow, .inl (cI, 108000, .inl fw)), (om, .inl (cI, 9, .inl fm)), (oh, .inl (cI, 10000, .inl fh)), (ok_, .inl (cI, 166400, .inl fk)), (oK, .inl (cI, 64, .inl fK)), (og, .inl (cI, 32, .inl fs)), (on_, .inl (cI, 32, .inl fn))]) (w1 := (fun (u : Int) => [(mo, .inr (8, [.int (iZ 0), .int (iZ (np : Int)), .ref ow, .ref om, .ref ok_, .ref oK, .ref og, .ref on_, .ref oh, .ref ox, .int qn, .int qf, .ref op_, .int ql]))])) (As := [.int (iZ 0)]) (rest := []) K hP hD hK hS hA hl.1 (c_Mo_refuses l D mo qc np ow om ok_ oK og on_ oh ox qn qf op_ ql 0 H.size (by omega)) [0] [1, 2, 3, 4, 5, 6, 7] [] rfl rfl rfl (by decide) (by decide) (by decide) 0 rfl rfl (big_in mw_1176 rfl) (big_in mw_10 rfl) (big_in mw_1173 rfl) (big_in mw_1175 rfl) (big_in sp_18 rfl) rfl rfl (by decide +kernel) ⟨by rw [hR]; exact Nat.le_of_ble_eq_true rfl, by rw [hR]; exact Nat.le_of_ble_eq_true rfl⟩ rfl (Nat.le_of_ble_eq_true rfl) d_Mo_divide_40 ⟨by rw [hR]; exact Nat.le_of_ble_eq_true rfl, by rw [hR]; exact Nat.le_of_ble_eq_true rfl⟩ rfl (fun v u H locs hp4 hP hD hS _ => ?_)
          obtain ⟨rf, rfl⟩ : ∃ z, z = u := ⟨_, rfl⟩
          obtain ⟨rfl, prf⟩ := hp4
          have hP : va_P D cls0 [(ow, .inl (cI, 108000, .inl fw)), (om, .inl (cI, 9, .inl fm)), (oh, .inl (cI, 10000, .inl fh)), (ok_, .inl (cI, 166400, .inl fk)), (oK, .inl (cI, 64, .inl fK)), (og, .inl (cI, 32, .inl fs)), (on_, .inl (cI, 32, .inl fn)), (mo, .inr (8, [.int (iZ 0), .int (iZ (np : Int)), .ref ow, .ref om, .ref ok_, .ref oK, .ref og, .ref on_, .ref oh, .ref ox, .int qn, .int qf, .ref op_, .int ql]))] H := hP
          have hD : va_D A [(ow, .inl (cI, 108000, .inl fw)), (om, .inl (cI, 9, .inl fm)), (oh, .inl (cI, 10000, .inl fh)), (ok_, .inl (cI, 166400, .inl fk)), (oK, .inl (cI, 64, .inl fK)), (og, .inl (cI, 32, .inl fs)), (on_, .inl (cI, 32, .inl fn)), (mo, .inr (8, [.int (iZ 0), .int (iZ (np : Int)), .ref ow, .ref om, .ref ok_, .ref oK, .ref og, .ref on_, .ref oh, .ref ox, .int qn, .int qf, .ref op_, .int ql]))] := hD
          show W p l e R s m args below meth c H locs _ _ Q (F0 m 43 ls [.int (iZ rf)])
          refine zz_if_eq (tgt := 48) hx hb d_Mo_divide_43 (by decide) (by omega) (fun c43 => ?_) (fun c43 => False.elim (by omega))
          refine lv_aload_n hx hb d_Mo_divide_48 rfl (lv_at hl 0 rfl) ?_
          refine lv_iload_n hx hb d_Mo_divide_49 rfl (lv_at hl 1 rfl) ?_
          refine lv_iload_n hx hb d_Mo_divide_50 rfl (lv_at hl 2 rfl) ?_
          refine lv_iload_n hx hb d_Mo_divide_51 rfl (lv_at hl 3 rfl) ?_
          refine lv_iconst (v := iZ (1)) hx hb d_Mo_divide_52 (by decide +kernel) ?_
          refine cv (n := 4) (wr := []) (w1 := (fun (u : (Nat → Int32) × (Nat → Int32) × (Nat → Int32) × (Nat → Int32) × (Nat → Int32) × (Nat → Int32) × (Nat → Int32) × (Nat → Nat)) => [(mo, .inr (8, [.int (iZ 0), .int (iZ (np : Int)), .ref ow, .ref om, .ref ok_, .ref oK, .ref og, .ref on_, .ref oh, .ref ox, .int qn, .int qf, .ref op_, .int ql])), (ow, .inl (cI, 108000, .inl u.1)), (om, .inl (cI, 9, .inl u.2.1)), (oh, .inl (cI, 10000, .inl u.2.2.1)), (ok_, .inl (cI, 166400, .inl u.2.2.2.1)), (oK, .inl (cI, 64, .inl u.2.2.2.2.1)), (og, .inl (cI, 32, .inl u.2.2.2.2.2.1)), (on_, .inl (cI, 32, .inl u.2.2.2.2.2.2.1))])) (As := [.int (iZ (to : Int)), .int (iZ (a : Int)), .int (iZ (b_ : Int)), .int (iZ 1)]) (rest := []) K hP hD hK hS hA hl.1 (c_Mo_products1 l D mo (iZ 0) np ow om ok_ oK og on_ oh ox qn qf op_ ql fw fm cI fh fk fK fs fn val tv bv sg to a b_ H.size hW hMR hnd hnp J hbv t1 t2 t3_ hb0 hfit) [7, 0, 1, 2, 3, 4, 5, 6] [] [0] rfl rfl rfl (by decide) (by decide) (by decide) 0 rfl rfl (big_in mw_1286 rfl) (big_in mw_10 rfl) (big_in mw_1283 rfl) (big_in mw_1285 rfl) (big_in sp_39 rfl) rfl rfl (by decide +kernel) ⟨by rw [hR]; exact Nat.le_of_ble_eq_true rfl, by rw [hR]; exact Nat.le_of_ble_eq_true rfl⟩ rfl (Nat.le_of_ble_eq_true rfl) d_Mo_divide_53 ⟨by rw [hR]; exact Nat.le_of_ble_eq_true rfl, by rw [hR]; exact Nat.le_of_ble_eq_true rfl⟩ rfl (fun v u H locs hp5 hP hD hS _ => ?_)
          obtain ⟨fa, fb, fc, fd, fe, ff, fg, v9⟩ := u
          try dsimp only at hp5
          obtain ⟨rfl, w9, q9⟩ := hp5
          have hP : va_P D cls0 [(mo, .inr (8, [.int (iZ 0), .int (iZ (np : Int)), .ref ow, .ref om, .ref ok_, .ref oK, .ref og, .ref on_, .ref oh, .ref ox, .int qn, .int qf, .ref op_, .int ql])), (ow, .inl (cI, 108000, .inl fa)), (om, .inl (cI, 9, .inl fb)), (oh, .inl (cI, 10000, .inl fc)), (ok_, .inl (cI, 166400, .inl fd)), (oK, .inl (cI, 64, .inl fe)), (og, .inl (cI, 32, .inl ff)), (on_, .inl (cI, 32, .inl fg))] H := hP
          have hD : va_D A [(mo, .inr (8, [.int (iZ 0), .int (iZ (np : Int)), .ref ow, .ref om, .ref ok_, .ref oK, .ref og, .ref on_, .ref oh, .ref ox, .int qn, .int qf, .ref op_, .int ql])), (ow, .inl (cI, 108000, .inl fa)), (om, .inl (cI, 9, .inl fb)), (oh, .inl (cI, 10000, .inl fc)), (ok_, .inl (cI, 166400, .inl fd)), (oK, .inl (cI, 64, .inl fe)), (og, .inl (cI, 32, .inl ff)), (on_, .inl (cI, 32, .inl fg))] := hD
          show W p l e R s m args below meth c H locs _ _ Q (F0 m 56 ls [.int (iZ ((lm (rdN (tv a * bv b_) (bv a * tv b_)) : Int) + (lm (rdD (tv a * bv b_) (bv a * tv b_)) : Int)))])
          have hP9 : va_P D cls0 [(mo, .inr (8, [.int (iZ 0), .int (iZ (np : Int)), .ref ow, .ref om, .ref ok_, .ref oK, .ref og, .ref on_, .ref oh, .ref ox, .int qn, .int qf, .ref op_, .int ql])), (ow, .inl (cI, 108000, .inl fa)), (om, .inl (cI, 9, .inl fb)), (oh, .inl (cI, 10000, .inl fc)), (ok_, .inl (cI, 166400, .inl fd)), (oK, .inl (cI, 64, .inl fe)), (og, .inl (cI, 32, .inl ff)), (on_, .inl (cI, 32, .inl fg))] H := hP.sub [0, 1, 2, 3, 4, 5, 6, 7] rfl
          have hD9 : va_D A [(mo, .inr (8, [.int (iZ 0), .int (iZ (np : Int)), .ref ow, .ref om, .ref ok_, .ref oK, .ref og, .ref on_, .ref oh, .ref ox, .int qn, .int qf, .ref op_, .int ql])), (ow, .inl (cI, 108000, .inl fa)), (om, .inl (cI, 9, .inl fb)), (oh, .inl (cI, 10000, .inl fc)), (ok_, .inl (cI, 166400, .inl fd)), (oK, .inl (cI, 64, .inl fe)), (og, .inl (cI, 32, .inl ff)), (on_, .inl (cI, 32, .inl fg))] := hD.sub [0, 1, 2, 3, 4, 5, 6, 7] (by decide) rfl
          rw [hQ, ← hAe]
          refine r_i (v := (iZ ((lm (rdN (tv a * bv b_) (bv a * tv b_)) : Int) + (lm (rdD (tv a * bv b_) (bv a * tv b_)) : Int)))) K (fa, fb, fc, fd, fe, ff, fg, v9) hS d_Mo_divide_56 ?_ (fun t ht hv => ?_)
          · exact ⟨rfl, w9, q9⟩
          · exact ⟨by rw [ht]; exact hP9, va_K.moved hv hK, by rw [← hAe]; exact hD9⟩
        · refine lv_iconst (v := iZ (2)) hx hb d_Mo_divide_35 (by decide +kernel) ?_
          refine lv_goto (tgt := 40) hx hb d_Mo_divide_36 (by decide) ?_
          exfalso
          omega
      · refine lv_iconst (v := iZ (1)) hx hb d_Mo_divide_22 (by decide +kernel) ?_
        refine lv_goto (tgt := 40) hx hb d_Mo_divide_23 (by decide) ?_
        exfalso
        omega
set_option maxHeartbeats 4000000 in
set_option maxRecDepth 100000 in
theorem f_Mo_divide (l : Launch) (D : va_G) (mo : Nat) (qc : Int32) (np : Nat) (ow : Nat) (om : Nat) (ok_ : Nat) (oK : Nat) (og : Nat) (on_ : Nat) (oh : Nat) (ox : Nat) (qn : Int32) (qf : Int32) (op_ : Nat) (ql : Int32) (fw : Nat → Int32) (fm : Nat → Int32) (cI : ClassId) (fh : Nat → Int32) (fk : Nat → Int32) (fK : Nat → Int32) (fs : Nat → Int32) (fn : Nat → Int32) (val : Nat → Nat) (tv : Nat → Nat) (bv : Nat → Nat) (sg : Nat → Int) (to : Nat) (a : Nat) (b_ : Nat) (sz : Nat) (hW : WB fw fm val) (hMR : MoR fk fK fs fn tv bv sg) (hnd : ndS tv bv 32 ≤ np) (hnp : np ≤ 1024) (J : RgC tv bv sg) (hbv : ∀ r, r < 32 → 0 < bv r) (t1 : to < 32) (t2 : a < 32) (t3_ : b_ < 32) (hb0 : 0 < tv b_) (hfit : np + (lm (tv to) + lm (bv to)) < ndS tv bv 32 + (lm (rdN (tv a * bv b_) (bv a * tv b_)) + lm (rdD (tv a * bv b_) (bv a * tv b_)))) : Met l y_Mo_divide (wsB y_Mo_divide b_Mo_divide 4 (some .int)) ({ frames := 6, cells := 0, slots := 0, locals := 149 }) (va_Pc [.ref mo, .int (iZ (to : Int)), .int (iZ (a : Int)), .int (iZ (b_ : Int))] (wPre D [(cI, .int)] [(mo, .inr (8, [.int qc, .int (iZ (np : Int)), .ref ow, .ref om, .ref ok_, .ref oK, .ref og, .ref on_, .ref oh, .ref ox, .int qn, .int qf, .ref op_, .int ql])), (ow, .inl (cI, 108000, .inl fw)), (om, .inl (cI, 9, .inl fm)), (oh, .inl (cI, 10000, .inl fh)), (ok_, .inl (cI, 166400, .inl fk)), (oK, .inl (cI, 64, .inl fK)), (og, .inl (cI, 32, .inl fs)), (on_, .inl (cI, 32, .inl fn))] sz)) (va_QV (fun (v_9 : Option Value) (u_9 : (Nat → Int32) × (Nat → Int32) × (Nat → Int32) × (Nat → Nat)) => v_9 = some (.int (iZ 0)) ∧ (WB u_9.1 u_9.2.1 u_9.2.2.2)) (fun u_9 => wPost D [(cI, .int)] [(mo, .inr (8, [.int qc, .int (iZ (np : Int)), .ref ow, .ref om, .ref ok_, .ref oK, .ref og, .ref on_, .ref oh, .ref ox, .int qn, .int qf, .ref op_, .int ql])), (ow, .inl (cI, 108000, .inl fw)), (om, .inl (cI, 9, .inl fm)), (oh, .inl (cI, 10000, .inl fh)), (ok_, .inl (cI, 166400, .inl fk)), (oK, .inl (cI, 64, .inl fK)), (og, .inl (cI, 32, .inl fs)), (on_, .inl (cI, 32, .inl fn))] [(mo, .inr (8, [.int (iZ 3), .int (iZ (np : Int)), .ref ow, .ref om, .ref ok_, .ref oK, .ref og, .ref on_, .ref oh, .ref ox, .int qn, .int qf, .ref op_, .int ql])), (ow, .inl (cI, 108000, .inl u_9.1)), (om, .inl (cI, 9, .inl u_9.2.1)), (oh, .inl (cI, 10000, .inl u_9.2.2.1)), (ok_, .inl (cI, 166400, .inl fk)), (oK, .inl (cI, 64, .inl fK)), (og, .inl (cI, 32, .inl fs)), (on_, .inl (cI, 32, .inl fn))] sz) (va_A [(mo, .inr (8, [.int qc, .int (iZ (np : Int)), .ref ow, .ref om, .ref ok_, .ref oK, .ref og, .ref on_, .ref oh, .ref ox, .int qn, .int qf, .ref op_, .int ql])), (ow, .inl (cI, 108000, .inl fw)), (om, .inl (cI, 9, .inl fm)), (oh, .inl (cI, 10000, .inl fh)), (ok_, .inl (cI, 166400, .inl fk)), (oK, .inl (cI, 64, .inl fK)), (og, .inl (cI, 32, .inl fs)), (on_, .inl (cI, 32, .inl fn))] sz)) 0 0 (va_A [(mo, .inr (8, [.int qc, .int (iZ (np : Int)), .ref ow, .ref om, .ref ok_, .ref oK, .ref og, .ref on_, .ref oh, .ref ox, .int qn, .int qf, .ref op_, .int ql])), (ow, .inl (cI, 108000, .inl fw)), (om, .inl (cI, 9, .inl fm)), (oh, .inl (cI, 10000, .inl fh)), (ok_, .inl (cI, 166400, .inl fk)), (oK, .inl (cI, 64, .inl fK)), (og, .inl (cI, 32, .inl fs)), (on_, .inl (cI, 32, .inl fn))] sz) := by
  refine met_enter (by decide +kernel) (Nat.le_of_ble_eq_true rfl) ?_
  intro p e s m args below meth c ls A R Q H locs K hin hAe hA hR hQ hP hK hD hS hl
  obtain ⟨hx, hb, hml, hrt, hlk, hts, hown, hno⟩ := id K
  have hl : lv_has ls 4 [(0, .ref mo), (1, .int (iZ (to : Int))), (2, .int (iZ (a : Int))), (3, .int (iZ (b_ : Int)))] := hl
  obtain ⟨jb1, jb2, jb3⟩ := J b_ (by omega)
  refine lv_aload_n hx hb d_Mo_divide_0 rfl (lv_at hl 0 rfl) ?_
  refine lv_iload_n hx hb d_Mo_divide_1 rfl (lv_at hl 1 rfl) ?_
  refine cs (n := 1) (wr := [(mo, .inr (8, [.int qc, .int (iZ (np : Int)), .ref ow, .ref om, .ref ok_, .ref oK, .ref og, .ref on_, .ref oh, .ref ox, .int qn, .int qf, .ref op_, .int ql])), (ow, .inl (cI, 108000, .inl fw)), (om, .inl (cI, 9, .inl fm)), (oh, .inl (cI, 10000, .inl fh)), (ok_, .inl (cI, 166400, .inl fk)), (oK, .inl (cI, 64, .inl fK)), (og, .inl (cI, 32, .inl fs)), (on_, .inl (cI, 32, .inl fn))]) (w1 := (fun (u : Int) => [])) (As := [.int (iZ (to : Int))]) (rest := [.ref mo]) K hP hD hK hS hA hl.1 (c_Mo_isRegister l D (to : Int) H.size (by omega)) [] [0, 1, 2, 3, 4, 5, 6, 7] [] rfl rfl rfl (by decide) (by decide) (by decide) (big_in mw_1172 rfl) (big_in mw_10 rfl) (big_in mw_1170 rfl) (big_in mw_1171 rfl) rfl rfl (by decide +kernel) ⟨by rw [hR]; exact Nat.le_of_ble_eq_true rfl, by rw [hR]; exact Nat.le_of_ble_eq_true rfl⟩ rfl (Nat.le_of_ble_eq_true rfl) d_Mo_divide_2 ⟨by rw [hR]; exact Nat.le_of_ble_eq_true rfl, by rw [hR]; exact Nat.le_of_ble_eq_true rfl⟩ rfl (fun v u H locs hp1 hP hD hS _ => ?_)
  obtain ⟨r2, rfl⟩ : ∃ z, z = u := ⟨_, rfl⟩
  obtain ⟨rfl, p2⟩ := hp1
  have hP : va_P D cls0 [(mo, .inr (8, [.int qc, .int (iZ (np : Int)), .ref ow, .ref om, .ref ok_, .ref oK, .ref og, .ref on_, .ref oh, .ref ox, .int qn, .int qf, .ref op_, .int ql])), (ow, .inl (cI, 108000, .inl fw)), (om, .inl (cI, 9, .inl fm)), (oh, .inl (cI, 10000, .inl fh)), (ok_, .inl (cI, 166400, .inl fk)), (oK, .inl (cI, 64, .inl fK)), (og, .inl (cI, 32, .inl fs)), (on_, .inl (cI, 32, .inl fn))] H := hP
  have hD : va_D A [(mo, .inr (8, [.int qc, .int (iZ (np : Int)), .ref ow, .ref om, .ref ok_, .ref oK, .ref og, .ref on_, .ref oh, .ref ox, .int qn, .int qf, .ref op_, .int ql])), (ow, .inl (cI, 108000, .inl fw)), (om, .inl (cI, 9, .inl fm)), (oh, .inl (cI, 10000, .inl fh)), (ok_, .inl (cI, 166400, .inl fk)), (oK, .inl (cI, 64, .inl fK)), (og, .inl (cI, 32, .inl fs)), (on_, .inl (cI, 32, .inl fn))] := hD
  show W p l e R s m args below meth c H locs _ _ Q (F0 m 5 ls [.int (iZ r2), .ref mo])
  have b2 : 0 ≤ r2 ∧ r2 ≤ 1 := by omega
  refine zz_if_eq (tgt := 22) hx hb d_Mo_divide_5 (by decide) (by omega) (fun c5 => ?_) (fun c5 => ?_)
  · refine lv_iconst (v := iZ (1)) hx hb d_Mo_divide_22 (by decide +kernel) ?_
    refine lv_goto (tgt := 40) hx hb d_Mo_divide_23 (by decide) ?_
    exfalso
    omega
  · refine lv_iload_n hx hb d_Mo_divide_8 rfl (lv_at hl 2 rfl) ?_
    refine cs (n := 1) (wr := [(mo, .inr (8, [.int qc, .int (iZ (np : Int)), .ref ow, .ref om, .ref ok_, .ref oK, .ref og, .ref on_, .ref oh, .ref ox, .int qn, .int qf, .ref op_, .int ql])), (ow, .inl (cI, 108000, .inl fw)), (om, .inl (cI, 9, .inl fm)), (oh, .inl (cI, 10000, .inl fh)), (ok_, .inl (cI, 166400, .inl fk)), (oK, .inl (cI, 64, .inl fK)), (og, .inl (cI, 32, .inl fs)), (on_, .inl (cI, 32, .inl fn))]) (w1 := (fun (u : Int) => [])) (As := [.int (iZ (a : Int))]) (rest := [.ref mo]) K hP hD hK hS hA hl.1 (c_Mo_isRegister l D (a : Int) H.size (by omega)) [] [0, 1, 2, 3, 4, 5, 6, 7] [] rfl rfl rfl (by decide) (by decide) (by decide) (big_in mw_1172 rfl) (big_in mw_10 rfl) (big_in mw_1170 rfl) (big_in mw_1171 rfl) rfl rfl (by decide +kernel) ⟨by rw [hR]; exact Nat.le_of_ble_eq_true rfl, by rw [hR]; exact Nat.le_of_ble_eq_true rfl⟩ rfl (Nat.le_of_ble_eq_true rfl) d_Mo_divide_9 ⟨by rw [hR]; exact Nat.le_of_ble_eq_true rfl, by rw [hR]; exact Nat.le_of_ble_eq_true rfl⟩ rfl (fun v u H locs hp2 hP hD hS _ => ?_)
    obtain ⟨r9, rfl⟩ : ∃ z, z = u := ⟨_, rfl⟩
    obtain ⟨rfl, p9⟩ := hp2
    have hP : va_P D cls0 [(mo, .inr (8, [.int qc, .int (iZ (np : Int)), .ref ow, .ref om, .ref ok_, .ref oK, .ref og, .ref on_, .ref oh, .ref ox, .int qn, .int qf, .ref op_, .int ql])), (ow, .inl (cI, 108000, .inl fw)), (om, .inl (cI, 9, .inl fm)), (oh, .inl (cI, 10000, .inl fh)), (ok_, .inl (cI, 166400, .inl fk)), (oK, .inl (cI, 64, .inl fK)), (og, .inl (cI, 32, .inl fs)), (on_, .inl (cI, 32, .inl fn))] H := hP
    have hD : va_D A [(mo, .inr (8, [.int qc, .int (iZ (np : Int)), .ref ow, .ref om, .ref ok_, .ref oK, .ref og, .ref on_, .ref oh, .ref ox, .int qn, .int qf, .ref op_, .int ql])), (ow, .inl (cI, 108000, .inl fw)), (om, .inl (cI, 9, .inl fm)), (oh, .inl (cI, 10000, .inl fh)), (ok_, .inl (cI, 166400, .inl fk)), (oK, .inl (cI, 64, .inl fK)), (og, .inl (cI, 32, .inl fs)), (on_, .inl (cI, 32, .inl fn))] := hD
    show W p l e R s m args below meth c H locs _ _ Q (F0 m 12 ls [.int (iZ r9), .ref mo])
    have b9 : 0 ≤ r9 ∧ r9 ≤ 1 := by omega
    refine zz_if_eq (tgt := 22) hx hb d_Mo_divide_12 (by decide) (by omega) (fun c12 => ?_) (fun c12 => ?_)
    · refine lv_iconst (v := iZ (1)) hx hb d_Mo_divide_22 (by decide +kernel) ?_
      refine lv_goto (tgt := 40) hx hb d_Mo_divide_23 (by decide) ?_
      exfalso
      omega
    · refine lv_iload_n hx hb d_Mo_divide_15 rfl (lv_at hl 3 rfl) ?_
      refine cs (n := 1) (wr := [(mo, .inr (8, [.int qc, .int (iZ (np : Int)), .ref ow, .ref om, .ref ok_, .ref oK, .ref og, .ref on_, .ref oh, .ref ox, .int qn, .int qf, .ref op_, .int ql])), (ow, .inl (cI, 108000, .inl fw)), (om, .inl (cI, 9, .inl fm)), (oh, .inl (cI, 10000, .inl fh)), (ok_, .inl (cI, 166400, .inl fk)), (oK, .inl (cI, 64, .inl fK)), (og, .inl (cI, 32, .inl fs)), (on_, .inl (cI, 32, .inl fn))]) (w1 := (fun (u : Int) => [])) (As := [.int (iZ (b_ : Int))]) (rest := [.ref mo]) K hP hD hK hS hA hl.1 (c_Mo_isRegister l D (b_ : Int) H.size (by omega)) [] [0, 1, 2, 3, 4, 5, 6, 7] [] rfl rfl rfl (by decide) (by decide) (by decide) (big_in mw_1172 rfl) (big_in mw_10 rfl) (big_in mw_1170 rfl) (big_in mw_1171 rfl) rfl rfl (by decide +kernel) ⟨by rw [hR]; exact Nat.le_of_ble_eq_true rfl, by rw [hR]; exact Nat.le_of_ble_eq_true rfl⟩ rfl (Nat.le_of_ble_eq_true rfl) d_Mo_divide_16 ⟨by rw [hR]; exact Nat.le_of_ble_eq_true rfl, by rw [hR]; exact Nat.le_of_ble_eq_true rfl⟩ rfl (fun v u H locs hp3 hP hD hS _ => ?_)
      obtain ⟨r16, rfl⟩ : ∃ z, z = u := ⟨_, rfl⟩
      obtain ⟨rfl, p16⟩ := hp3
      have hP : va_P D cls0 [(mo, .inr (8, [.int qc, .int (iZ (np : Int)), .ref ow, .ref om, .ref ok_, .ref oK, .ref og, .ref on_, .ref oh, .ref ox, .int qn, .int qf, .ref op_, .int ql])), (ow, .inl (cI, 108000, .inl fw)), (om, .inl (cI, 9, .inl fm)), (oh, .inl (cI, 10000, .inl fh)), (ok_, .inl (cI, 166400, .inl fk)), (oK, .inl (cI, 64, .inl fK)), (og, .inl (cI, 32, .inl fs)), (on_, .inl (cI, 32, .inl fn))] H := hP
      have hD : va_D A [(mo, .inr (8, [.int qc, .int (iZ (np : Int)), .ref ow, .ref om, .ref ok_, .ref oK, .ref og, .ref on_, .ref oh, .ref ox, .int qn, .int qf, .ref op_, .int ql])), (ow, .inl (cI, 108000, .inl fw)), (om, .inl (cI, 9, .inl fm)), (oh, .inl (cI, 10000, .inl fh)), (ok_, .inl (cI, 166400, .inl fk)), (oK, .inl (cI, 64, .inl fK)), (og, .inl (cI, 32, .inl fs)), (on_, .inl (cI, 32, .inl fn))] := hD
      show W p l e R s m args below meth c H locs _ _ Q (F0 m 19 ls [.int (iZ r16), .ref mo])
      have b16 : 0 ≤ r16 ∧ r16 ≤ 1 := by omega
      refine zz_if_ne (tgt := 26) hx hb d_Mo_divide_19 (by decide) (by omega) (fun c19 => ?_) (fun c19 => ?_)
      · refine lv_aload_n hx hb d_Mo_divide_26 rfl (lv_at hl 0 rfl) ?_
        refine va_get (D := D) (ci := 8) (v := .ref og) (C := R_Mo) (T := F_Mo) (N := 14) hx hb hts i_Mo hown hK hP 0 rfl rfl 6 (by decide) (hts _ (big_in mw_1121 rfl)) (fun _ h9 => h9) rfl d_Mo_divide_27 ?_
        refine lv_iload_n hx hb d_Mo_divide_30 rfl (lv_at hl 3 rfl) ?_
        refine zz_iald hx hb hK hP 6 0 rfl rfl (b_) (by omega) (by omega) (by omega) d_Mo_divide_31 ?_
        rw [hMR.2.1 b_ (by omega)]
        refine zz_if_ne (tgt := 39) hx hb d_Mo_divide_32 (by decide) (by omega) (fun c32 => ?_) (fun c32 => ?_)
        · refine lv_iconst (v := iZ (0)) hx hb d_Mo_divide_39 (by decide +kernel) ?_
          refine cv (n := 1) (wr := [(ow, .inl (cI, 108000, .inl fw)), (om, .inl (cI, 9, .inl fm)), (oh, .inl (cI, 10000, .inl fh)), (ok_, .inl (cI, 166400, .inl fk)), (oK, .inl (cI, 64, .inl fK)), (og, .inl (cI, 32, .inl fs)), (on_, .inl (cI, 32, .inl fn))]) (w1 := (fun (u : Int) => [(mo, .inr (8, [.int (iZ 0), .int (iZ (np : Int)), .ref ow, .ref om, .ref ok_, .ref oK, .ref og, .ref on_, .ref oh, .ref ox, .int qn, .int qf, .ref op_, .int ql]))])) (As := [.int (iZ 0)]) (rest := []) K hP hD hK hS hA hl.1 (c_Mo_refuses l D mo qc np ow om ok_ oK og on_ oh ox qn qf op_ ql 0 H.size (by omega)) [0] [1, 2, 3, 4, 5, 6, 7] [] rfl rfl rfl (by decide) (by decide) (by decide) 0 rfl rfl (big_in mw_1176 rfl) (big_in mw_10 rfl) (big_in mw_1173 rfl) (big_in mw_1175 rfl) (big_in sp_18 rfl) rfl rfl (by decide +kernel) ⟨by rw [hR]; exact Nat.le_of_ble_eq_true rfl, by rw [hR]; exact Nat.le_of_ble_eq_true rfl⟩ rfl (Nat.le_of_ble_eq_true rfl) d_Mo_divide_40 ⟨by rw [hR]; exact Nat.le_of_ble_eq_true rfl, by rw [hR]; exact Nat.le_of_ble_eq_true rfl⟩ rfl (fun v u H locs hp4 hP hD hS _ => ?_)
          obtain ⟨rf, rfl⟩ : ∃ z, z = u := ⟨_, rfl⟩
          obtain ⟨rfl, prf⟩ := hp4
          have hP : va_P D cls0 [(ow, .inl (cI, 108000, .inl fw)), (om, .inl (cI, 9, .inl fm)), (oh, .inl (cI, 10000, .inl fh)), (ok_, .inl (cI, 166400, .inl fk)), (oK, .inl (cI, 64, .inl fK)), (og, .inl (cI, 32, .inl fs)), (on_, .inl (cI, 32, .inl fn)), (mo, .inr (8, [.int (iZ 0), .int (iZ (np : Int)), .ref ow, .ref om, .ref ok_, .ref oK, .ref og, .ref on_, .ref oh, .ref ox, .int qn, .int qf, .ref op_, .int ql]))] H := hP
          have hD : va_D A [(ow, .inl (cI, 108000, .inl fw)), (om, .inl (cI, 9, .inl fm)), (oh, .inl (cI, 10000, .inl fh)), (ok_, .inl (cI, 166400, .inl fk)), (oK, .inl (cI, 64, .inl fK)), (og, .inl (cI, 32, .inl fs)), (on_, .inl (cI, 32, .inl fn)), (mo, .inr (8, [.int (iZ 0), .int (iZ (np : Int)), .ref ow, .ref om, .ref ok_, .ref oK, .ref og, .ref on_, .ref oh, .ref ox, .int qn, .int qf, .ref op_, .int ql]))] := hD
          show W p l e R s m args below meth c H locs _ _ Q (F0 m 43 ls [.int (iZ rf)])
          refine zz_if_eq (tgt := 48) hx hb d_Mo_divide_43 (by decide) (by omega) (fun c43 => ?_) (fun c43 => False.elim (by omega))
          refine lv_aload_n hx hb d_Mo_divide_48 rfl (lv_at hl 0 rfl) ?_
          refine lv_iload_n hx hb d_Mo_divide_49 rfl (lv_at hl 1 rfl) ?_
          refine lv_iload_n hx hb d_Mo_divide_50 rfl (lv_at hl 2 rfl) ?_
          refine lv_iload_n hx hb d_Mo_divide_51 rfl (lv_at hl 3 rfl) ?_
          refine lv_iconst (v := iZ (1)) hx hb d_Mo_divide_52 (by decide +kernel) ?_
          refine cv (n := 4) (wr := []) (w1 := (fun (u : (Nat → Int32) × (Nat → Int32) × (Nat → Int32) × (Nat → Nat)) => [(mo, .inr (8, [.int (iZ 3), .int (iZ (np : Int)), .ref ow, .ref om, .ref ok_, .ref oK, .ref og, .ref on_, .ref oh, .ref ox, .int qn, .int qf, .ref op_, .int ql])), (ow, .inl (cI, 108000, .inl u.1)), (om, .inl (cI, 9, .inl u.2.1)), (oh, .inl (cI, 10000, .inl u.2.2.1)), (ok_, .inl (cI, 166400, .inl fk)), (oK, .inl (cI, 64, .inl fK)), (og, .inl (cI, 32, .inl fs)), (on_, .inl (cI, 32, .inl fn))])) (As := [.int (iZ (to : Int)), .int (iZ (a : Int)), .int (iZ (b_ : Int)), .int (iZ 1)]) (rest := []) K hP hD hK hS hA hl.1 (f_Mo_products1 l D mo (iZ 0) np ow om ok_ oK og on_ oh ox qn qf op_ ql fw fm cI fh fk fK fs fn val tv bv sg to a b_ H.size hW hMR hnd hnp J hbv t1 t2 t3_ hb0 hfit) [7, 0, 1, 2, 3, 4, 5, 6] [] [0] rfl rfl rfl (by decide) (by decide) (by decide) 0 rfl rfl (big_in mw_1286 rfl) (big_in mw_10 rfl) (big_in mw_1283 rfl) (big_in mw_1285 rfl) (big_in sp_39 rfl) rfl rfl (by decide +kernel) ⟨by rw [hR]; exact Nat.le_of_ble_eq_true rfl, by rw [hR]; exact Nat.le_of_ble_eq_true rfl⟩ rfl (Nat.le_of_ble_eq_true rfl) d_Mo_divide_53 ⟨by rw [hR]; exact Nat.le_of_ble_eq_true rfl, by rw [hR]; exact Nat.le_of_ble_eq_true rfl⟩ rfl (fun v u H locs hp5 hP hD hS _ => ?_)
          obtain ⟨fa, fb, fc, v9⟩ := u
          try dsimp only at hp5
          obtain ⟨rfl, w9⟩ := hp5
          have hP : va_P D cls0 [(mo, .inr (8, [.int (iZ 3), .int (iZ (np : Int)), .ref ow, .ref om, .ref ok_, .ref oK, .ref og, .ref on_, .ref oh, .ref ox, .int qn, .int qf, .ref op_, .int ql])), (ow, .inl (cI, 108000, .inl fa)), (om, .inl (cI, 9, .inl fb)), (oh, .inl (cI, 10000, .inl fc)), (ok_, .inl (cI, 166400, .inl fk)), (oK, .inl (cI, 64, .inl fK)), (og, .inl (cI, 32, .inl fs)), (on_, .inl (cI, 32, .inl fn))] H := hP
          have hD : va_D A [(mo, .inr (8, [.int (iZ 3), .int (iZ (np : Int)), .ref ow, .ref om, .ref ok_, .ref oK, .ref og, .ref on_, .ref oh, .ref ox, .int qn, .int qf, .ref op_, .int ql])), (ow, .inl (cI, 108000, .inl fa)), (om, .inl (cI, 9, .inl fb)), (oh, .inl (cI, 10000, .inl fc)), (ok_, .inl (cI, 166400, .inl fk)), (oK, .inl (cI, 64, .inl fK)), (og, .inl (cI, 32, .inl fs)), (on_, .inl (cI, 32, .inl fn))] := hD
          show W p l e R s m args below meth c H locs _ _ Q (F0 m 56 ls [.int (iZ 0)])
          have hP9 : va_P D cls0 [(mo, .inr (8, [.int (iZ 3), .int (iZ (np : Int)), .ref ow, .ref om, .ref ok_, .ref oK, .ref og, .ref on_, .ref oh, .ref ox, .int qn, .int qf, .ref op_, .int ql])), (ow, .inl (cI, 108000, .inl fa)), (om, .inl (cI, 9, .inl fb)), (oh, .inl (cI, 10000, .inl fc)), (ok_, .inl (cI, 166400, .inl fk)), (oK, .inl (cI, 64, .inl fK)), (og, .inl (cI, 32, .inl fs)), (on_, .inl (cI, 32, .inl fn))] H := hP.sub [0, 1, 2, 3, 4, 5, 6, 7] rfl
          have hD9 : va_D A [(mo, .inr (8, [.int (iZ 3), .int (iZ (np : Int)), .ref ow, .ref om, .ref ok_, .ref oK, .ref og, .ref on_, .ref oh, .ref ox, .int qn, .int qf, .ref op_, .int ql])), (ow, .inl (cI, 108000, .inl fa)), (om, .inl (cI, 9, .inl fb)), (oh, .inl (cI, 10000, .inl fc)), (ok_, .inl (cI, 166400, .inl fk)), (oK, .inl (cI, 64, .inl fK)), (og, .inl (cI, 32, .inl fs)), (on_, .inl (cI, 32, .inl fn))] := hD.sub [0, 1, 2, 3, 4, 5, 6, 7] (by decide) rfl
          rw [hQ, ← hAe]
          refine r_i (v := (iZ 0)) K (fa, fb, fc, v9) hS d_Mo_divide_56 ?_ (fun t ht hv => ?_)
          · exact ⟨rfl, w9⟩
          · exact ⟨by rw [ht]; exact hP9, va_K.moved hv hK, by rw [← hAe]; exact hD9⟩
        · refine lv_iconst (v := iZ (2)) hx hb d_Mo_divide_35 (by decide +kernel) ?_
          refine lv_goto (tgt := 40) hx hb d_Mo_divide_36 (by decide) ?_
          exfalso
          omega
      · refine lv_iconst (v := iZ (1)) hx hb d_Mo_divide_22 (by decide +kernel) ?_
        refine lv_goto (tgt := 40) hx hb d_Mo_divide_23 (by decide) ?_
        exfalso
        omega
set_option maxHeartbeats 4000000 in
set_option maxRecDepth 100000 in
/-- Mo_divide refused with 1 -/
theorem r1_Mo_divide (l : Launch) (D : va_G) (mo : Nat) (qc : Int32) (np : Nat) (ow : Nat) (om : Nat) (ok_ : Nat) (oK : Nat) (og : Nat) (on_ : Nat) (oh : Nat) (ox : Nat) (qn : Int32) (qf : Int32) (op_ : Nat) (ql : Int32) (zt : Int) (za : Int) (zb : Int) (sz : Nat) (hbad : (zt < 0 ∨ 32 ≤ zt) ∨ (za < 0 ∨ 32 ≤ za) ∨ (zb < 0 ∨ 32 ≤ zb)) (hrng : -2147483648 ≤ zt ∧ zt < 2147483648 ∧ -2147483648 ≤ za ∧ za < 2147483648 ∧ -2147483648 ≤ zb ∧ zb < 2147483648) : Met l y_Mo_divide (wsB y_Mo_divide b_Mo_divide 4 (some .int)) ({ frames := 1, cells := 0, slots := 0, locals := 21 }) (va_Pc [.ref mo, .int (iZ zt), .int (iZ za), .int (iZ zb)] (wPre D [] [(mo, .inr (8, [.int qc, .int (iZ (np : Int)), .ref ow, .ref om, .ref ok_, .ref oK, .ref og, .ref on_, .ref oh, .ref ox, .int qn, .int qf, .ref op_, .int ql]))] sz)) (va_QV (fun (v_9 : Option Value) (u_9 : Unit) => v_9 = some (.int (iZ 0))) (fun u_9 => wPost D [] [(mo, .inr (8, [.int qc, .int (iZ (np : Int)), .ref ow, .ref om, .ref ok_, .ref oK, .ref og, .ref on_, .ref oh, .ref ox, .int qn, .int qf, .ref op_, .int ql]))] [(mo, .inr (8, [.int (iZ 1), .int (iZ (np : Int)), .ref ow, .ref om, .ref ok_, .ref oK, .ref og, .ref on_, .ref oh, .ref ox, .int qn, .int qf, .ref op_, .int ql]))] sz) (va_A [(mo, .inr (8, [.int qc, .int (iZ (np : Int)), .ref ow, .ref om, .ref ok_, .ref oK, .ref og, .ref on_, .ref oh, .ref ox, .int qn, .int qf, .ref op_, .int ql]))] sz)) 0 0 (va_A [(mo, .inr (8, [.int qc, .int (iZ (np : Int)), .ref ow, .ref om, .ref ok_, .ref oK, .ref og, .ref on_, .ref oh, .ref ox, .int qn, .int qf, .ref op_, .int ql]))] sz) := by
  refine met_enter (by decide +kernel) (Nat.le_of_ble_eq_true rfl) ?_
  intro p e s m args below meth c ls A R Q H locs K hin hAe hA hR hQ hP hK hD hS hl
  obtain ⟨hx, hb, hml, hrt, hlk, hts, hown, hno⟩ := id K
  have hl : lv_has ls 4 [(0, .ref mo), (1, .int (iZ zt)), (2, .int (iZ za)), (3, .int (iZ zb))] := hl
  refine lv_aload_n hx hb d_Mo_divide_0 rfl (lv_at hl 0 rfl) ?_
  refine lv_iload_n hx hb d_Mo_divide_1 rfl (lv_at hl 1 rfl) ?_
  refine cs (n := 1) (wr := [(mo, .inr (8, [.int qc, .int (iZ (np : Int)), .ref ow, .ref om, .ref ok_, .ref oK, .ref og, .ref on_, .ref oh, .ref ox, .int qn, .int qf, .ref op_, .int ql]))]) (w1 := (fun (u : Int) => [])) (As := [.int (iZ zt)]) (rest := [.ref mo]) K hP hD hK hS hA hl.1 (c_Mo_isRegister l D zt H.size (by omega)) [] [0] [] rfl rfl rfl (by decide) (by decide) (by decide) (big_in mw_1172 rfl) (big_in mw_10 rfl) (big_in mw_1170 rfl) (big_in mw_1171 rfl) rfl rfl (by decide +kernel) ⟨by rw [hR]; exact Nat.le_of_ble_eq_true rfl, by rw [hR]; exact Nat.le_of_ble_eq_true rfl⟩ rfl (Nat.le_of_ble_eq_true rfl) d_Mo_divide_2 ⟨by rw [hR]; exact Nat.le_of_ble_eq_true rfl, by rw [hR]; exact Nat.le_of_ble_eq_true rfl⟩ rfl (fun v u H locs hp1 hP hD hS _ => ?_)
  obtain ⟨r2, rfl⟩ : ∃ z, z = u := ⟨_, rfl⟩
  obtain ⟨rfl, p2⟩ := hp1
  have hP : va_P D cls0 [(mo, .inr (8, [.int qc, .int (iZ (np : Int)), .ref ow, .ref om, .ref ok_, .ref oK, .ref og, .ref on_, .ref oh, .ref ox, .int qn, .int qf, .ref op_, .int ql]))] H := hP
  have hD : va_D A [(mo, .inr (8, [.int qc, .int (iZ (np : Int)), .ref ow, .ref om, .ref ok_, .ref oK, .ref og, .ref on_, .ref oh, .ref ox, .int qn, .int qf, .ref op_, .int ql]))] := hD
  show W p l e R s m args below meth c H locs _ _ Q (F0 m 5 ls [.int (iZ r2), .ref mo])
  have b2 : 0 ≤ r2 ∧ r2 ≤ 1 := by omega
  refine zz_if_eq (tgt := 22) hx hb d_Mo_divide_5 (by decide) (by omega) (fun c5 => ?_) (fun c5 => ?_)
  · refine lv_iconst (v := iZ (1)) hx hb d_Mo_divide_22 (by decide +kernel) ?_
    refine lv_goto (tgt := 40) hx hb d_Mo_divide_23 (by decide) ?_
    refine cv (n := 1) (wr := []) (w1 := (fun (u : Int) => [(mo, .inr (8, [.int (iZ 1), .int (iZ (np : Int)), .ref ow, .ref om, .ref ok_, .ref oK, .ref og, .ref on_, .ref oh, .ref ox, .int qn, .int qf, .ref op_, .int ql]))])) (As := [.int (iZ 1)]) (rest := []) K hP hD hK hS hA hl.1 (c_Mo_refuses l D mo qc np ow om ok_ oK og on_ oh ox qn qf op_ ql 1 H.size (by omega)) [0] [] [] rfl rfl rfl (by decide) (by decide) (by decide) 0 rfl rfl (big_in mw_1176 rfl) (big_in mw_10 rfl) (big_in mw_1173 rfl) (big_in mw_1175 rfl) (big_in sp_18 rfl) rfl rfl (by decide +kernel) ⟨by rw [hR]; exact Nat.le_of_ble_eq_true rfl, by rw [hR]; exact Nat.le_of_ble_eq_true rfl⟩ rfl (Nat.le_of_ble_eq_true rfl) d_Mo_divide_40 ⟨by rw [hR]; exact Nat.le_of_ble_eq_true rfl, by rw [hR]; exact Nat.le_of_ble_eq_true rfl⟩ rfl (fun v u H locs hp2 hP hD hS _ => ?_)
    obtain ⟨rf, rfl⟩ : ∃ z, z = u := ⟨_, rfl⟩
    obtain ⟨rfl, prf⟩ := hp2
    have hP : va_P D cls0 [(mo, .inr (8, [.int (iZ 1), .int (iZ (np : Int)), .ref ow, .ref om, .ref ok_, .ref oK, .ref og, .ref on_, .ref oh, .ref ox, .int qn, .int qf, .ref op_, .int ql]))] H := hP
    have hD : va_D A [(mo, .inr (8, [.int (iZ 1), .int (iZ (np : Int)), .ref ow, .ref om, .ref ok_, .ref oK, .ref og, .ref on_, .ref oh, .ref ox, .int qn, .int qf, .ref op_, .int ql]))] := hD
    show W p l e R s m args below meth c H locs _ _ Q (F0 m 43 ls [.int (iZ rf)])
    refine zz_if_eq (tgt := 48) hx hb d_Mo_divide_43 (by decide) (by omega) (fun c43 => False.elim (by omega)) (fun c43 => ?_)
    refine lv_iconst (v := iZ (0)) hx hb d_Mo_divide_46 (by decide +kernel) ?_
    have hP9 : va_P D cls0 [(mo, .inr (8, [.int (iZ 1), .int (iZ (np : Int)), .ref ow, .ref om, .ref ok_, .ref oK, .ref og, .ref on_, .ref oh, .ref ox, .int qn, .int qf, .ref op_, .int ql]))] H := hP.sub [0] rfl
    have hD9 : va_D A [(mo, .inr (8, [.int (iZ 1), .int (iZ (np : Int)), .ref ow, .ref om, .ref ok_, .ref oK, .ref og, .ref on_, .ref oh, .ref ox, .int qn, .int qf, .ref op_, .int ql]))] := hD.sub [0] (by decide) rfl
    rw [hQ, ← hAe]
    refine r_i (v := (iZ 0)) K () hS d_Mo_divide_47 ?_ (fun t ht hv => ?_)
    · exact rfl
    · exact ⟨by rw [ht]; exact hP9, va_K.moved hv hK, by rw [← hAe]; exact hD9⟩
  · refine lv_iload_n hx hb d_Mo_divide_8 rfl (lv_at hl 2 rfl) ?_
    refine cs (n := 1) (wr := [(mo, .inr (8, [.int qc, .int (iZ (np : Int)), .ref ow, .ref om, .ref ok_, .ref oK, .ref og, .ref on_, .ref oh, .ref ox, .int qn, .int qf, .ref op_, .int ql]))]) (w1 := (fun (u : Int) => [])) (As := [.int (iZ za)]) (rest := [.ref mo]) K hP hD hK hS hA hl.1 (c_Mo_isRegister l D za H.size (by omega)) [] [0] [] rfl rfl rfl (by decide) (by decide) (by decide) (big_in mw_1172 rfl) (big_in mw_10 rfl) (big_in mw_1170 rfl) (big_in mw_1171 rfl) rfl rfl (by decide +kernel) ⟨by rw [hR]; exact Nat.le_of_ble_eq_true rfl, by rw [hR]; exact Nat.le_of_ble_eq_true rfl⟩ rfl (Nat.le_of_ble_eq_true rfl) d_Mo_divide_9 ⟨by rw [hR]; exact Nat.le_of_ble_eq_true rfl, by rw [hR]; exact Nat.le_of_ble_eq_true rfl⟩ rfl (fun v u H locs hp3 hP hD hS _ => ?_)
    obtain ⟨r9, rfl⟩ : ∃ z, z = u := ⟨_, rfl⟩
    obtain ⟨rfl, p9⟩ := hp3
    have hP : va_P D cls0 [(mo, .inr (8, [.int qc, .int (iZ (np : Int)), .ref ow, .ref om, .ref ok_, .ref oK, .ref og, .ref on_, .ref oh, .ref ox, .int qn, .int qf, .ref op_, .int ql]))] H := hP
    have hD : va_D A [(mo, .inr (8, [.int qc, .int (iZ (np : Int)), .ref ow, .ref om, .ref ok_, .ref oK, .ref og, .ref on_, .ref oh, .ref ox, .int qn, .int qf, .ref op_, .int ql]))] := hD
    show W p l e R s m args below meth c H locs _ _ Q (F0 m 12 ls [.int (iZ r9), .ref mo])
    have b9 : 0 ≤ r9 ∧ r9 ≤ 1 := by omega
    refine zz_if_eq (tgt := 22) hx hb d_Mo_divide_12 (by decide) (by omega) (fun c12 => ?_) (fun c12 => ?_)
    · refine lv_iconst (v := iZ (1)) hx hb d_Mo_divide_22 (by decide +kernel) ?_
      refine lv_goto (tgt := 40) hx hb d_Mo_divide_23 (by decide) ?_
      refine cv (n := 1) (wr := []) (w1 := (fun (u : Int) => [(mo, .inr (8, [.int (iZ 1), .int (iZ (np : Int)), .ref ow, .ref om, .ref ok_, .ref oK, .ref og, .ref on_, .ref oh, .ref ox, .int qn, .int qf, .ref op_, .int ql]))])) (As := [.int (iZ 1)]) (rest := []) K hP hD hK hS hA hl.1 (c_Mo_refuses l D mo qc np ow om ok_ oK og on_ oh ox qn qf op_ ql 1 H.size (by omega)) [0] [] [] rfl rfl rfl (by decide) (by decide) (by decide) 0 rfl rfl (big_in mw_1176 rfl) (big_in mw_10 rfl) (big_in mw_1173 rfl) (big_in mw_1175 rfl) (big_in sp_18 rfl) rfl rfl (by decide +kernel) ⟨by rw [hR]; exact Nat.le_of_ble_eq_true rfl, by rw [hR]; exact Nat.le_of_ble_eq_true rfl⟩ rfl (Nat.le_of_ble_eq_true rfl) d_Mo_divide_40 ⟨by rw [hR]; exact Nat.le_of_ble_eq_true rfl, by rw [hR]; exact Nat.le_of_ble_eq_true rfl⟩ rfl (fun v u H locs hp4 hP hD hS _ => ?_)
      obtain ⟨rf, rfl⟩ : ∃ z, z = u := ⟨_, rfl⟩
      obtain ⟨rfl, prf⟩ := hp4
      have hP : va_P D cls0 [(mo, .inr (8, [.int (iZ 1), .int (iZ (np : Int)), .ref ow, .ref om, .ref ok_, .ref oK, .ref og, .ref on_, .ref oh, .ref ox, .int qn, .int qf, .ref op_, .int ql]))] H := hP
      have hD : va_D A [(mo, .inr (8, [.int (iZ 1), .int (iZ (np : Int)), .ref ow, .ref om, .ref ok_, .ref oK, .ref og, .ref on_, .ref oh, .ref ox, .int qn, .int qf, .ref op_, .int ql]))] := hD
      show W p l e R s m args below meth c H locs _ _ Q (F0 m 43 ls [.int (iZ rf)])
      refine zz_if_eq (tgt := 48) hx hb d_Mo_divide_43 (by decide) (by omega) (fun c43 => False.elim (by omega)) (fun c43 => ?_)
      refine lv_iconst (v := iZ (0)) hx hb d_Mo_divide_46 (by decide +kernel) ?_
      have hP9 : va_P D cls0 [(mo, .inr (8, [.int (iZ 1), .int (iZ (np : Int)), .ref ow, .ref om, .ref ok_, .ref oK, .ref og, .ref on_, .ref oh, .ref ox, .int qn, .int qf, .ref op_, .int ql]))] H := hP.sub [0] rfl
      have hD9 : va_D A [(mo, .inr (8, [.int (iZ 1), .int (iZ (np : Int)), .ref ow, .ref om, .ref ok_, .ref oK, .ref og, .ref on_, .ref oh, .ref ox, .int qn, .int qf, .ref op_, .int ql]))] := hD.sub [0] (by decide) rfl
      rw [hQ, ← hAe]
      refine r_i (v := (iZ 0)) K () hS d_Mo_divide_47 ?_ (fun t ht hv => ?_)
      · exact rfl
      · exact ⟨by rw [ht]; exact hP9, va_K.moved hv hK, by rw [← hAe]; exact hD9⟩
    · refine lv_iload_n hx hb d_Mo_divide_15 rfl (lv_at hl 3 rfl) ?_
      refine cs (n := 1) (wr := [(mo, .inr (8, [.int qc, .int (iZ (np : Int)), .ref ow, .ref om, .ref ok_, .ref oK, .ref og, .ref on_, .ref oh, .ref ox, .int qn, .int qf, .ref op_, .int ql]))]) (w1 := (fun (u : Int) => [])) (As := [.int (iZ zb)]) (rest := [.ref mo]) K hP hD hK hS hA hl.1 (c_Mo_isRegister l D zb H.size (by omega)) [] [0] [] rfl rfl rfl (by decide) (by decide) (by decide) (big_in mw_1172 rfl) (big_in mw_10 rfl) (big_in mw_1170 rfl) (big_in mw_1171 rfl) rfl rfl (by decide +kernel) ⟨by rw [hR]; exact Nat.le_of_ble_eq_true rfl, by rw [hR]; exact Nat.le_of_ble_eq_true rfl⟩ rfl (Nat.le_of_ble_eq_true rfl) d_Mo_divide_16 ⟨by rw [hR]; exact Nat.le_of_ble_eq_true rfl, by rw [hR]; exact Nat.le_of_ble_eq_true rfl⟩ rfl (fun v u H locs hp5 hP hD hS _ => ?_)
      obtain ⟨r16, rfl⟩ : ∃ z, z = u := ⟨_, rfl⟩
      obtain ⟨rfl, p16⟩ := hp5
      have hP : va_P D cls0 [(mo, .inr (8, [.int qc, .int (iZ (np : Int)), .ref ow, .ref om, .ref ok_, .ref oK, .ref og, .ref on_, .ref oh, .ref ox, .int qn, .int qf, .ref op_, .int ql]))] H := hP
      have hD : va_D A [(mo, .inr (8, [.int qc, .int (iZ (np : Int)), .ref ow, .ref om, .ref ok_, .ref oK, .ref og, .ref on_, .ref oh, .ref ox, .int qn, .int qf, .ref op_, .int ql]))] := hD
      show W p l e R s m args below meth c H locs _ _ Q (F0 m 19 ls [.int (iZ r16), .ref mo])
      have b16 : 0 ≤ r16 ∧ r16 ≤ 1 := by omega
      refine zz_if_ne (tgt := 26) hx hb d_Mo_divide_19 (by decide) (by omega) (fun c19 => ?_) (fun c19 => ?_)
      · exfalso
        omega
      · refine lv_iconst (v := iZ (1)) hx hb d_Mo_divide_22 (by decide +kernel) ?_
        refine lv_goto (tgt := 40) hx hb d_Mo_divide_23 (by decide) ?_
        refine cv (n := 1) (wr := []) (w1 := (fun (u : Int) => [(mo, .inr (8, [.int (iZ 1), .int (iZ (np : Int)), .ref ow, .ref om, .ref ok_, .ref oK, .ref og, .ref on_, .ref oh, .ref ox, .int qn, .int qf, .ref op_, .int ql]))])) (As := [.int (iZ 1)]) (rest := []) K hP hD hK hS hA hl.1 (c_Mo_refuses l D mo qc np ow om ok_ oK og on_ oh ox qn qf op_ ql 1 H.size (by omega)) [0] [] [] rfl rfl rfl (by decide) (by decide) (by decide) 0 rfl rfl (big_in mw_1176 rfl) (big_in mw_10 rfl) (big_in mw_1173 rfl) (big_in mw_1175 rfl) (big_in sp_18 rfl) rfl rfl (by decide +kernel) ⟨by rw [hR]; exact Nat.le_of_ble_eq_true rfl, by rw [hR]; exact Nat.le_of_ble_eq_true rfl⟩ rfl (Nat.le_of_ble_eq_true rfl) d_Mo_divide_40 ⟨by rw [hR]; exact Nat.le_of_ble_eq_true rfl, by rw [hR]; exact Nat.le_of_ble_eq_true rfl⟩ rfl (fun v u H locs hp6 hP hD hS _ => ?_)
        obtain ⟨rf, rfl⟩ : ∃ z, z = u := ⟨_, rfl⟩
        obtain ⟨rfl, prf⟩ := hp6
        have hP : va_P D cls0 [(mo, .inr (8, [.int (iZ 1), .int (iZ (np : Int)), .ref ow, .ref om, .ref ok_, .ref oK, .ref og, .ref on_, .ref oh, .ref ox, .int qn, .int qf, .ref op_, .int ql]))] H := hP
        have hD : va_D A [(mo, .inr (8, [.int (iZ 1), .int (iZ (np : Int)), .ref ow, .ref om, .ref ok_, .ref oK, .ref og, .ref on_, .ref oh, .ref ox, .int qn, .int qf, .ref op_, .int ql]))] := hD
        show W p l e R s m args below meth c H locs _ _ Q (F0 m 43 ls [.int (iZ rf)])
        refine zz_if_eq (tgt := 48) hx hb d_Mo_divide_43 (by decide) (by omega) (fun c43 => False.elim (by omega)) (fun c43 => ?_)
        refine lv_iconst (v := iZ (0)) hx hb d_Mo_divide_46 (by decide +kernel) ?_
        have hP9 : va_P D cls0 [(mo, .inr (8, [.int (iZ 1), .int (iZ (np : Int)), .ref ow, .ref om, .ref ok_, .ref oK, .ref og, .ref on_, .ref oh, .ref ox, .int qn, .int qf, .ref op_, .int ql]))] H := hP.sub [0] rfl
        have hD9 : va_D A [(mo, .inr (8, [.int (iZ 1), .int (iZ (np : Int)), .ref ow, .ref om, .ref ok_, .ref oK, .ref og, .ref on_, .ref oh, .ref ox, .int qn, .int qf, .ref op_, .int ql]))] := hD.sub [0] (by decide) rfl
        rw [hQ, ← hAe]
        refine r_i (v := (iZ 0)) K () hS d_Mo_divide_47 ?_ (fun t ht hv => ?_)
        · exact rfl
        · exact ⟨by rw [ht]; exact hP9, va_K.moved hv hK, by rw [← hAe]; exact hD9⟩
set_option maxHeartbeats 4000000 in
set_option maxRecDepth 100000 in
/-- Mo_divide refused with 2 -/
theorem r2_Mo_divide (l : Launch) (D : va_G) (mo : Nat) (qc : Int32) (np : Nat) (ow : Nat) (om : Nat) (ok_ : Nat) (oK : Nat) (og : Nat) (on_ : Nat) (oh : Nat) (ox : Nat) (qn : Int32) (qf : Int32) (op_ : Nat) (ql : Int32) (fs : Nat → Int32) (cI : ClassId) (sg : Nat → Int) (to : Nat) (a : Nat) (b_ : Nat) (sz : Nat) (hsg : ∀ r, r < 32 → fs r = iZ (sg r)) (hsr : ∀ r, r < 32 → -1 ≤ sg r ∧ sg r ≤ 1) (t1 : to < 32) (t2 : a < 32) (t3_ : b_ < 32) (hb0 : sg b_ = 0) : Met l y_Mo_divide (wsB y_Mo_divide b_Mo_divide 4 (some .int)) ({ frames := 1, cells := 0, slots := 0, locals := 21 }) (va_Pc [.ref mo, .int (iZ (to : Int)), .int (iZ (a : Int)), .int (iZ (b_ : Int))] (wPre D [(cI, .int)] [(mo, .inr (8, [.int qc, .int (iZ (np : Int)), .ref ow, .ref om, .ref ok_, .ref oK, .ref og, .ref on_, .ref oh, .ref ox, .int qn, .int qf, .ref op_, .int ql])), (og, .inl (cI, 32, .inl fs))] sz)) (va_QV (fun (v_9 : Option Value) (u_9 : Unit) => v_9 = some (.int (iZ 0))) (fun u_9 => wPost D [(cI, .int)] [(mo, .inr (8, [.int qc, .int (iZ (np : Int)), .ref ow, .ref om, .ref ok_, .ref oK, .ref og, .ref on_, .ref oh, .ref ox, .int qn, .int qf, .ref op_, .int ql])), (og, .inl (cI, 32, .inl fs))] [(mo, .inr (8, [.int (iZ 2), .int (iZ (np : Int)), .ref ow, .ref om, .ref ok_, .ref oK, .ref og, .ref on_, .ref oh, .ref ox, .int qn, .int qf, .ref op_, .int ql])), (og, .inl (cI, 32, .inl fs))] sz) (va_A [(mo, .inr (8, [.int qc, .int (iZ (np : Int)), .ref ow, .ref om, .ref ok_, .ref oK, .ref og, .ref on_, .ref oh, .ref ox, .int qn, .int qf, .ref op_, .int ql])), (og, .inl (cI, 32, .inl fs))] sz)) 0 0 (va_A [(mo, .inr (8, [.int qc, .int (iZ (np : Int)), .ref ow, .ref om, .ref ok_, .ref oK, .ref og, .ref on_, .ref oh, .ref ox, .int qn, .int qf, .ref op_, .int ql])), (og, .inl (cI, 32, .inl fs))] sz) := by
  refine met_enter (by decide +kernel) (Nat.le_of_ble_eq_true rfl) ?_
  intro p e s m args below meth c ls A R Q H locs K hin hAe hA hR hQ hP hK hD hS hl
  obtain ⟨hx, hb, hml, hrt, hlk, hts, hown, hno⟩ := id K
  have hl : lv_has ls 4 [(0, .ref mo), (1, .int (iZ (to : Int))), (2, .int (iZ (a : Int))), (3, .int (iZ (b_ : Int)))] := hl
  have sb := hsr b_ (by omega)
  refine lv_aload_n hx hb d_Mo_divide_0 rfl (lv_at hl 0 rfl) ?_
  refine lv_iload_n hx hb d_Mo_divide_1 rfl (lv_at hl 1 rfl) ?_
  refine cs (n := 1) (wr := [(mo, .inr (8, [.int qc, .int (iZ (np : Int)), .ref ow, .ref om, .ref ok_, .ref oK, .ref og, .ref on_, .ref oh, .ref ox, .int qn, .int qf, .ref op_, .int ql])), (og, .inl (cI, 32, .inl fs))]) (w1 := (fun (u : Int) => [])) (As := [.int (iZ (to : Int))]) (rest := [.ref mo]) K hP hD hK hS hA hl.1 (c_Mo_isRegister l D (to : Int) H.size (by omega)) [] [0, 1] [] rfl rfl rfl (by decide) (by decide) (by decide) (big_in mw_1172 rfl) (big_in mw_10 rfl) (big_in mw_1170 rfl) (big_in mw_1171 rfl) rfl rfl (by decide +kernel) ⟨by rw [hR]; exact Nat.le_of_ble_eq_true rfl, by rw [hR]; exact Nat.le_of_ble_eq_true rfl⟩ rfl (Nat.le_of_ble_eq_true rfl) d_Mo_divide_2 ⟨by rw [hR]; exact Nat.le_of_ble_eq_true rfl, by rw [hR]; exact Nat.le_of_ble_eq_true rfl⟩ rfl (fun v u H locs hp1 hP hD hS _ => ?_)
  obtain ⟨r2, rfl⟩ : ∃ z, z = u := ⟨_, rfl⟩
  obtain ⟨rfl, p2⟩ := hp1
  have hP : va_P D cls0 [(mo, .inr (8, [.int qc, .int (iZ (np : Int)), .ref ow, .ref om, .ref ok_, .ref oK, .ref og, .ref on_, .ref oh, .ref ox, .int qn, .int qf, .ref op_, .int ql])), (og, .inl (cI, 32, .inl fs))] H := hP
  have hD : va_D A [(mo, .inr (8, [.int qc, .int (iZ (np : Int)), .ref ow, .ref om, .ref ok_, .ref oK, .ref og, .ref on_, .ref oh, .ref ox, .int qn, .int qf, .ref op_, .int ql])), (og, .inl (cI, 32, .inl fs))] := hD
  show W p l e R s m args below meth c H locs _ _ Q (F0 m 5 ls [.int (iZ r2), .ref mo])
  have b2 : 0 ≤ r2 ∧ r2 ≤ 1 := by omega
  refine zz_if_eq (tgt := 22) hx hb d_Mo_divide_5 (by decide) (by omega) (fun c5 => ?_) (fun c5 => ?_)
  · refine lv_iconst (v := iZ (1)) hx hb d_Mo_divide_22 (by decide +kernel) ?_
    refine lv_goto (tgt := 40) hx hb d_Mo_divide_23 (by decide) ?_
    exfalso
    omega
  · refine lv_iload_n hx hb d_Mo_divide_8 rfl (lv_at hl 2 rfl) ?_
    refine cs (n := 1) (wr := [(mo, .inr (8, [.int qc, .int (iZ (np : Int)), .ref ow, .ref om, .ref ok_, .ref oK, .ref og, .ref on_, .ref oh, .ref ox, .int qn, .int qf, .ref op_, .int ql])), (og, .inl (cI, 32, .inl fs))]) (w1 := (fun (u : Int) => [])) (As := [.int (iZ (a : Int))]) (rest := [.ref mo]) K hP hD hK hS hA hl.1 (c_Mo_isRegister l D (a : Int) H.size (by omega)) [] [0, 1] [] rfl rfl rfl (by decide) (by decide) (by decide) (big_in mw_1172 rfl) (big_in mw_10 rfl) (big_in mw_1170 rfl) (big_in mw_1171 rfl) rfl rfl (by decide +kernel) ⟨by rw [hR]; exact Nat.le_of_ble_eq_true rfl, by rw [hR]; exact Nat.le_of_ble_eq_true rfl⟩ rfl (Nat.le_of_ble_eq_true rfl) d_Mo_divide_9 ⟨by rw [hR]; exact Nat.le_of_ble_eq_true rfl, by rw [hR]; exact Nat.le_of_ble_eq_true rfl⟩ rfl (fun v u H locs hp2 hP hD hS _ => ?_)
    obtain ⟨r9, rfl⟩ : ∃ z, z = u := ⟨_, rfl⟩
    obtain ⟨rfl, p9⟩ := hp2
    have hP : va_P D cls0 [(mo, .inr (8, [.int qc, .int (iZ (np : Int)), .ref ow, .ref om, .ref ok_, .ref oK, .ref og, .ref on_, .ref oh, .ref ox, .int qn, .int qf, .ref op_, .int ql])), (og, .inl (cI, 32, .inl fs))] H := hP
    have hD : va_D A [(mo, .inr (8, [.int qc, .int (iZ (np : Int)), .ref ow, .ref om, .ref ok_, .ref oK, .ref og, .ref on_, .ref oh, .ref ox, .int qn, .int qf, .ref op_, .int ql])), (og, .inl (cI, 32, .inl fs))] := hD
    show W p l e R s m args below meth c H locs _ _ Q (F0 m 12 ls [.int (iZ r9), .ref mo])
    have b9 : 0 ≤ r9 ∧ r9 ≤ 1 := by omega
    refine zz_if_eq (tgt := 22) hx hb d_Mo_divide_12 (by decide) (by omega) (fun c12 => ?_) (fun c12 => ?_)
    · refine lv_iconst (v := iZ (1)) hx hb d_Mo_divide_22 (by decide +kernel) ?_
      refine lv_goto (tgt := 40) hx hb d_Mo_divide_23 (by decide) ?_
      exfalso
      omega
    · refine lv_iload_n hx hb d_Mo_divide_15 rfl (lv_at hl 3 rfl) ?_
      refine cs (n := 1) (wr := [(mo, .inr (8, [.int qc, .int (iZ (np : Int)), .ref ow, .ref om, .ref ok_, .ref oK, .ref og, .ref on_, .ref oh, .ref ox, .int qn, .int qf, .ref op_, .int ql])), (og, .inl (cI, 32, .inl fs))]) (w1 := (fun (u : Int) => [])) (As := [.int (iZ (b_ : Int))]) (rest := [.ref mo]) K hP hD hK hS hA hl.1 (c_Mo_isRegister l D (b_ : Int) H.size (by omega)) [] [0, 1] [] rfl rfl rfl (by decide) (by decide) (by decide) (big_in mw_1172 rfl) (big_in mw_10 rfl) (big_in mw_1170 rfl) (big_in mw_1171 rfl) rfl rfl (by decide +kernel) ⟨by rw [hR]; exact Nat.le_of_ble_eq_true rfl, by rw [hR]; exact Nat.le_of_ble_eq_true rfl⟩ rfl (Nat.le_of_ble_eq_true rfl) d_Mo_divide_16 ⟨by rw [hR]; exact Nat.le_of_ble_eq_true rfl, by rw [hR]; exact Nat.le_of_ble_eq_true rfl⟩ rfl (fun v u H locs hp3 hP hD hS _ => ?_)
      obtain ⟨r16, rfl⟩ : ∃ z, z = u := ⟨_, rfl⟩
      obtain ⟨rfl, p16⟩ := hp3
      have hP : va_P D cls0 [(mo, .inr (8, [.int qc, .int (iZ (np : Int)), .ref ow, .ref om, .ref ok_, .ref oK, .ref og, .ref on_, .ref oh, .ref ox, .int qn, .int qf, .ref op_, .int ql])), (og, .inl (cI, 32, .inl fs))] H := hP
      have hD : va_D A [(mo, .inr (8, [.int qc, .int (iZ (np : Int)), .ref ow, .ref om, .ref ok_, .ref oK, .ref og, .ref on_, .ref oh, .ref ox, .int qn, .int qf, .ref op_, .int ql])), (og, .inl (cI, 32, .inl fs))] := hD
      show W p l e R s m args below meth c H locs _ _ Q (F0 m 19 ls [.int (iZ r16), .ref mo])
      have b16 : 0 ≤ r16 ∧ r16 ≤ 1 := by omega
      refine zz_if_ne (tgt := 26) hx hb d_Mo_divide_19 (by decide) (by omega) (fun c19 => ?_) (fun c19 => ?_)
      · refine lv_aload_n hx hb d_Mo_divide_26 rfl (lv_at hl 0 rfl) ?_
        refine va_get (D := D) (ci := 8) (v := .ref og) (C := R_Mo) (T := F_Mo) (N := 14) hx hb hts i_Mo hown hK hP 0 rfl rfl 6 (by decide) (hts _ (big_in mw_1121 rfl)) (fun _ h9 => h9) rfl d_Mo_divide_27 ?_
        refine lv_iload_n hx hb d_Mo_divide_30 rfl (lv_at hl 3 rfl) ?_
        refine zz_iald hx hb hK hP 1 0 rfl rfl (b_) (by omega) (by omega) (by omega) d_Mo_divide_31 ?_
        rw [hsg b_ (by omega)]
        refine zz_if_ne (tgt := 39) hx hb d_Mo_divide_32 (by decide) (by omega) (fun c32 => ?_) (fun c32 => ?_)
        · refine lv_iconst (v := iZ (0)) hx hb d_Mo_divide_39 (by decide +kernel) ?_
          exfalso
          omega
        · refine lv_iconst (v := iZ (2)) hx hb d_Mo_divide_35 (by decide +kernel) ?_
          refine lv_goto (tgt := 40) hx hb d_Mo_divide_36 (by decide) ?_
          refine cv (n := 1) (wr := [(og, .inl (cI, 32, .inl fs))]) (w1 := (fun (u : Int) => [(mo, .inr (8, [.int (iZ 2), .int (iZ (np : Int)), .ref ow, .ref om, .ref ok_, .ref oK, .ref og, .ref on_, .ref oh, .ref ox, .int qn, .int qf, .ref op_, .int ql]))])) (As := [.int (iZ 2)]) (rest := []) K hP hD hK hS hA hl.1 (c_Mo_refuses l D mo qc np ow om ok_ oK og on_ oh ox qn qf op_ ql 2 H.size (by omega)) [0] [1] [] rfl rfl rfl (by decide) (by decide) (by decide) 0 rfl rfl (big_in mw_1176 rfl) (big_in mw_10 rfl) (big_in mw_1173 rfl) (big_in mw_1175 rfl) (big_in sp_18 rfl) rfl rfl (by decide +kernel) ⟨by rw [hR]; exact Nat.le_of_ble_eq_true rfl, by rw [hR]; exact Nat.le_of_ble_eq_true rfl⟩ rfl (Nat.le_of_ble_eq_true rfl) d_Mo_divide_40 ⟨by rw [hR]; exact Nat.le_of_ble_eq_true rfl, by rw [hR]; exact Nat.le_of_ble_eq_true rfl⟩ rfl (fun v u H locs hp4 hP hD hS _ => ?_)
          obtain ⟨rf, rfl⟩ : ∃ z, z = u := ⟨_, rfl⟩
          obtain ⟨rfl, prf⟩ := hp4
          have hP : va_P D cls0 [(og, .inl (cI, 32, .inl fs)), (mo, .inr (8, [.int (iZ 2), .int (iZ (np : Int)), .ref ow, .ref om, .ref ok_, .ref oK, .ref og, .ref on_, .ref oh, .ref ox, .int qn, .int qf, .ref op_, .int ql]))] H := hP
          have hD : va_D A [(og, .inl (cI, 32, .inl fs)), (mo, .inr (8, [.int (iZ 2), .int (iZ (np : Int)), .ref ow, .ref om, .ref ok_, .ref oK, .ref og, .ref on_, .ref oh, .ref ox, .int qn, .int qf, .ref op_, .int ql]))] := hD
          show W p l e R s m args below meth c H locs _ _ Q (F0 m 43 ls [.int (iZ rf)])
          refine zz_if_eq (tgt := 48) hx hb d_Mo_divide_43 (by decide) (by omega) (fun c43 => False.elim (by omega)) (fun c43 => ?_)
          refine lv_iconst (v := iZ (0)) hx hb d_Mo_divide_46 (by decide +kernel) ?_
          have hP9 : va_P D cls0 [(mo, .inr (8, [.int (iZ 2), .int (iZ (np : Int)), .ref ow, .ref om, .ref ok_, .ref oK, .ref og, .ref on_, .ref oh, .ref ox, .int qn, .int qf, .ref op_, .int ql])), (og, .inl (cI, 32, .inl fs))] H := hP.sub [1, 0] rfl
          have hD9 : va_D A [(mo, .inr (8, [.int (iZ 2), .int (iZ (np : Int)), .ref ow, .ref om, .ref ok_, .ref oK, .ref og, .ref on_, .ref oh, .ref ox, .int qn, .int qf, .ref op_, .int ql])), (og, .inl (cI, 32, .inl fs))] := hD.sub [1, 0] (by decide) rfl
          rw [hQ, ← hAe]
          refine r_i (v := (iZ 0)) K () hS d_Mo_divide_47 ?_ (fun t ht hv => ?_)
          · exact rfl
          · exact ⟨by rw [ht]; exact hP9, va_K.moved hv hK, by rw [← hAe]; exact hD9⟩
      · refine lv_iconst (v := iZ (1)) hx hb d_Mo_divide_22 (by decide +kernel) ?_
        refine lv_goto (tgt := 40) hx hb d_Mo_divide_23 (by decide) ?_
        exfalso
        omega
