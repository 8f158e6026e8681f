theorem IsD_nd {v k : Nat} (h : IsD v k) : k ≤ 4 * nd v + 1 := by
  obtain ⟨h1, h2, h3⟩ := h
  rcases h3 with h3 | h3
  · omega
  · have h4 := nd_self v
    rw [tB_ten] at h4
    have := (Nat.pow_lt_pow_iff_right (show 1 < 10 by decide)).mp (Nat.lt_of_le_of_lt h3 h4)
    omega
theorem bv_one {v : Nat} (h0 : 0 < v) (h1 : nd v ≤ 1) (h2 : dz v 0 ≤ 1) : v = 1 := by
  have h3 : v < 10000 := nd_le.mp h1
  unfold dz at h2
  rw [tB_0, Nat.div_one, Nat.mod_eq_of_lt h3] at h2
  omega
theorem bv_two {v : Nat} (h : 1 < nd v ∨ 1 < dz v 0) : v ≠ 1 := by
  intro e
  subst e
  rcases h with h | h
  · have : nd 1 = 1 := by decide
    omega
  · have : dz 1 0 = 1 := by decide
    omega
set_option maxHeartbeats 4000000 in
set_option maxRecDepth 100000 in
/-- print(a) -/
theorem c_Mo_print (l : Launch) (D : va_G) (mo : Nat) (qc : Int32) (np : Nat) (ow : Nat) (om : Nat) (ok_ : Nat) (oK : Nat) (og : Nat) (on_ : Nat) (oh : Nat) (ox : Nat) (qn : Int32) (qf : Int32) (op_ : Nat) (ql : Int32) (fw : Nat → Int32) (fm : Nat → Int32) (cI : ClassId) (fh : Nat → Int32) (fk : Nat → Int32) (fK : Nat → Int32) (fs : Nat → Int32) (fn : Nat → Int32) (val : Nat → Nat) (tv : Nat → Nat) (bv : Nat → Nat) (sg : Nat → Int) (fq : Nat → Int32) (a : Nat) (sz : Nat) (hW : WB fw fm val) (hMR : MoR fk fK fs fn tv bv sg) (hnd : ndS tv bv 32 ≤ np) (hnp : np ≤ 1024) (J : RgC tv bv sg) (hbv : ∀ r, r < 32 → 0 < bv r) (t2 : a < 32) : Met l y_Mo_print (wsB y_Mo_print b_Mo_print 2 (some .int)) ({ frames := 1, cells := 0, slots := 0, locals := 24 }) (va_Pc [.ref mo, .int (iZ (a : Int))] (wPre D [(cI, .int)] [(mo, .inr (8, [.int qc, .int (iZ (np : Int)), .ref ow, .ref om, .ref ok_, .ref oK, .ref og, .ref on_, .ref oh, .ref ox, .int qn, .int qf, .ref op_, .int ql])), (ow, .inl (cI, 108000, .inl fw)), (om, .inl (cI, 9, .inl fm)), (oh, .inl (cI, 10000, .inl fh)), (ok_, .inl (cI, 166400, .inl fk)), (oK, .inl (cI, 64, .inl fK)), (og, .inl (cI, 32, .inl fs)), (on_, .inl (cI, 32, .inl fn)), (op_, .inl (cI, 22000, .inl fq))] sz)) (va_QV (fun (v_9 : Option Value) (u_9 : Int × (Nat → Int32) × (Nat → Int32) × (Nat → Int32) × (Nat → Nat) × Nat × Nat) => v_9 = some (.int (iZ u_9.1)) ∧ (u_9.1 = (((if sg a < 0 then ([45] : List Nat) else []) ++ (dg u_9.2.2.2.2.2.1 (tv a) ++ (if bv a = 1 then [] else 47 :: dg u_9.2.2.2.2.2.2 (bv a)))).length : Int)) ∧ (WB u_9.2.1 u_9.2.2.1 u_9.2.2.2.2.1) ∧ (PX u_9.2.2.2.1 ((if sg a < 0 then ([45] : List Nat) else []) ++ (dg u_9.2.2.2.2.2.1 (tv a) ++ (if bv a = 1 then [] else 47 :: dg u_9.2.2.2.2.2.2 (bv a))))) ∧ (IsD (tv a) u_9.2.2.2.2.2.1) ∧ (bv a ≠ 1 → IsD (bv a) u_9.2.2.2.2.2.2)) (fun u_9 => wPost D [(cI, .int)] [(mo, .inr (8, [.int qc, .int (iZ (np : Int)), .ref ow, .ref om, .ref ok_, .ref oK, .ref og, .ref on_, .ref oh, .ref ox, .int qn, .int qf, .ref op_, .int ql])), (ow, .inl (cI, 108000, .inl fw)), (om, .inl (cI, 9, .inl fm)), (oh, .inl (cI, 10000, .inl fh)), (ok_, .inl (cI, 166400, .inl fk)), (oK, .inl (cI, 64, .inl fK)), (og, .inl (cI, 32, .inl fs)), (on_, .inl (cI, 32, .inl fn)), (op_, .inl (cI, 22000, .inl fq))] [(mo, .inr (8, [.int (iZ 0), .int (iZ (np : Int)), .ref ow, .ref om, .ref ok_, .ref oK, .ref og, .ref on_, .ref oh, .ref ox, .int qn, .int qf, .ref op_, .int (iZ u_9.1)])), (ow, .inl (cI, 108000, .inl u_9.2.1)), (om, .inl (cI, 9, .inl u_9.2.2.1)), (oh, .inl (cI, 10000, .inl fh)), (ok_, .inl (cI, 166400, .inl fk)), (oK, .inl (cI, 64, .inl fK)), (og, .inl (cI, 32, .inl fs)), (on_, .inl (cI, 32, .inl fn)), (op_, .inl (cI, 22000, .inl u_9.2.2.2.1))] sz) (va_A [(mo, .inr (8, [.int qc, .int (iZ (np : Int)), .ref ow, .ref om, .ref ok_, .ref oK, .ref og, .ref on_, .ref oh, .ref ox, .int qn, .int qf, .ref op_, .int ql])), (ow, .inl (cI, 108000, .inl fw)), (om, .inl (cI, 9, .inl fm)), (oh, .inl (cI, 10000, .inl fh)), (ok_, .inl (cI, 166400, .inl fk)), (oK, .inl (cI, 64, .inl fK)), (og, .inl (cI, 32, .inl fs)), (on_, .inl (cI, 32, .inl fn)), (op_, .inl (cI, 22000, .inl fq))] sz)) 0 0 (va_A [(mo, .inr (8, [.int qc, .int (iZ (np : Int)), .ref ow, .ref om, .ref ok_, .ref oK, .ref og, .ref on_, .ref oh, .ref ox, .int qn, .int qf, .ref op_, .int ql])), (ow, .inl (cI, 108000, .inl fw)), (om, .inl (cI, 9, .inl fm)), (oh, .inl (cI, 10000, .inl fh)), (ok_, .inl (cI, 166400, .inl fk)), (oK, .inl (cI, 64, .inl fK)), (og, .inl (cI, 32, .inl fs)), (on_, .inl (cI, 32, .inl fn)), (op_, .inl (cI, 22000, .inl fq))] sz) := by
  refine met_enter (by decide +kernel) (Nat.le_of_ble_eq_true rfl) ?_
  intro p e s m args below meth c ls A R Q H locs K hin hAe hA hR hQ hP hK hD hS hl
  obtain ⟨hx, hb, hml, hrt, hlk, hts, hown, hno⟩ := id K
  have hl : lv_has ls 2 [(0, .ref mo), (1, .int (iZ (a : Int)))] := hl
  have hlr : ∀ q, q < 32 → lm (tv q) + lm (bv q) ≤ 1024 := fun q hq => by have z := ndS_le (tv := tv) (bv := bv) hq; omega
  have hnt : ∀ q, q < 32 → nd (tv q) ≤ 2600 := fun q hq => by have z := nd_lm (v := tv q) (L := 1024) (by have y := hlr q hq; omega); omega
  have hnb : ∀ q, q < 32 → nd (bv q) ≤ 2600 := fun q hq => by have z := nd_lm (v := bv q) (L := 1024) (by have y := hlr q hq; omega); omega
  obtain ⟨ja1, ja2, ja3⟩ := J a (by omega)
  have pa := hbv a (by omega)
  have la := hlr a (by omega)
  have n1 := nd_lm (v := tv a) (L := 1024) (by omega)
  have n2 := nd_lm (v := bv a) (L := 1024) (by omega)
  refine lv_aload_n hx hb d_Mo_print_0 rfl (lv_at hl 0 rfl) ?_
  refine lv_iload_n hx hb d_Mo_print_1 rfl (lv_at hl 1 rfl) ?_
  refine cs (n := 1) (wr := [(mo, .inr (8, [.int qc, .int (iZ (np : Int)), .ref ow, .ref om, .ref ok_, .ref oK, .ref og, .ref on_, .ref oh, .ref ox, .int qn, .int qf, .ref op_, .int ql])), (ow, .inl (cI, 108000, .inl fw)), (om, .inl (cI, 9, .inl fm)), (oh, .inl (cI, 10000, .inl fh)), (ok_, .inl (cI, 166400, .inl fk)), (oK, .inl (cI, 64, .inl fK)), (og, .inl (cI, 32, .inl fs)), (on_, .inl (cI, 32, .inl fn)), (op_, .inl (cI, 22000, .inl fq))]) (w1 := (fun (u : Int) => [])) (As := [.int (iZ (a : Int))]) (rest := [.ref mo]) K hP hD hK hS hA hl.1 (c_Mo_isRegister l D (a : Int) H.size (by omega)) [] [0, 1, 2, 3, 4, 5, 6, 7, 8] [] rfl rfl rfl (by decide) (by decide) (by decide) (big_in mw_1172 rfl) (big_in mw_10 rfl) (big_in mw_1170 rfl) (big_in mw_1171 rfl) rfl rfl (by decide +kernel) ⟨by rw [hR]; exact Nat.le_of_ble_eq_true rfl, by rw [hR]; exact Nat.le_of_ble_eq_true rfl⟩ rfl (Nat.le_of_ble_eq_true rfl) d_Mo_print_2 ⟨by rw [hR]; exact Nat.le_of_ble_eq_true rfl, by rw [hR]; exact Nat.le_of_ble_eq_true rfl⟩ rfl (fun v u H locs hp1 hP hD hS _ => ?_)
  obtain ⟨r2, rfl⟩ : ∃ z, z = u := ⟨_, rfl⟩
  obtain ⟨rfl, p2⟩ := hp1
  have hP : va_P D cls0 [(mo, .inr (8, [.int qc, .int (iZ (np : Int)), .ref ow, .ref om, .ref ok_, .ref oK, .ref og, .ref on_, .ref oh, .ref ox, .int qn, .int qf, .ref op_, .int ql])), (ow, .inl (cI, 108000, .inl fw)), (om, .inl (cI, 9, .inl fm)), (oh, .inl (cI, 10000, .inl fh)), (ok_, .inl (cI, 166400, .inl fk)), (oK, .inl (cI, 64, .inl fK)), (og, .inl (cI, 32, .inl fs)), (on_, .inl (cI, 32, .inl fn)), (op_, .inl (cI, 22000, .inl fq))] H := hP
  have hD : va_D A [(mo, .inr (8, [.int qc, .int (iZ (np : Int)), .ref ow, .ref om, .ref ok_, .ref oK, .ref og, .ref on_, .ref oh, .ref ox, .int qn, .int qf, .ref op_, .int ql])), (ow, .inl (cI, 108000, .inl fw)), (om, .inl (cI, 9, .inl fm)), (oh, .inl (cI, 10000, .inl fh)), (ok_, .inl (cI, 166400, .inl fk)), (oK, .inl (cI, 64, .inl fK)), (og, .inl (cI, 32, .inl fs)), (on_, .inl (cI, 32, .inl fn)), (op_, .inl (cI, 22000, .inl fq))] := hD
  show W p l e R s m args below meth c H locs _ _ Q (F0 m 5 ls [.int (iZ r2), .ref mo])
  have b2 : 0 ≤ r2 ∧ r2 ≤ 1 := by omega
  refine zz_if_eq (tgt := 12) hx hb d_Mo_print_5 (by decide) (by omega) (fun c5 => ?_) (fun c5 => ?_)
  · refine lv_iconst (v := iZ (1)) hx hb d_Mo_print_12 (by decide +kernel) ?_
    exfalso
    omega
  · refine lv_iconst (v := iZ (0)) hx hb d_Mo_print_8 (by decide +kernel) ?_
    refine lv_goto (tgt := 13) hx hb d_Mo_print_9 (by decide) ?_
    refine cv (n := 1) (wr := [(ow, .inl (cI, 108000, .inl fw)), (om, .inl (cI, 9, .inl fm)), (oh, .inl (cI, 10000, .inl fh)), (ok_, .inl (cI, 166400, .inl fk)), (oK, .inl (cI, 64, .inl fK)), (og, .inl (cI, 32, .inl fs)), (on_, .inl (cI, 32, .inl fn)), (op_, .inl (cI, 22000, .inl fq))]) (w1 := (fun (u : Int) => [(mo, .inr (8, [.int (iZ 0), .int (iZ (np : Int)), .ref ow, .ref om, .ref ok_, .ref oK, .ref og, .ref on_, .ref oh, .ref ox, .int qn, .int qf, .ref op_, .int ql]))])) (As := [.int (iZ 0)]) (rest := []) K hP hD hK hS hA hl.1 (c_Mo_refuses l D mo qc np ow om ok_ oK og on_ oh ox qn qf op_ ql 0 H.size (by omega)) [0] [1, 2, 3, 4, 5, 6, 7, 8] [] rfl rfl rfl (by decide) (by decide) (by decide) 0 rfl rfl (big_in mw_1176 rfl) (big_in mw_10 rfl) (big_in mw_1173 rfl) (big_in mw_1175 rfl) (big_in sp_18 rfl) rfl rfl (by decide +kernel) ⟨by rw [hR]; exact Nat.le_of_ble_eq_true rfl, by rw [hR]; exact Nat.le_of_ble_eq_true rfl⟩ rfl (Nat.le_of_ble_eq_true rfl) d_Mo_print_13 ⟨by rw [hR]; exact Nat.le_of_ble_eq_true rfl, by rw [hR]; exact Nat.le_of_ble_eq_true rfl⟩ rfl (fun v u H locs hp2 hP hD hS _ => ?_)
    obtain ⟨rf, rfl⟩ : ∃ z, z = u := ⟨_, rfl⟩
    obtain ⟨rfl, prf⟩ := hp2
    have hP : va_P D cls0 [(ow, .inl (cI, 108000, .inl fw)), (om, .inl (cI, 9, .inl fm)), (oh, .inl (cI, 10000, .inl fh)), (ok_, .inl (cI, 166400, .inl fk)), (oK, .inl (cI, 64, .inl fK)), (og, .inl (cI, 32, .inl fs)), (on_, .inl (cI, 32, .inl fn)), (op_, .inl (cI, 22000, .inl fq)), (mo, .inr (8, [.int (iZ 0), .int (iZ (np : Int)), .ref ow, .ref om, .ref ok_, .ref oK, .ref og, .ref on_, .ref oh, .ref ox, .int qn, .int qf, .ref op_, .int ql]))] H := hP
    have hD : va_D A [(ow, .inl (cI, 108000, .inl fw)), (om, .inl (cI, 9, .inl fm)), (oh, .inl (cI, 10000, .inl fh)), (ok_, .inl (cI, 166400, .inl fk)), (oK, .inl (cI, 64, .inl fK)), (og, .inl (cI, 32, .inl fs)), (on_, .inl (cI, 32, .inl fn)), (op_, .inl (cI, 22000, .inl fq)), (mo, .inr (8, [.int (iZ 0), .int (iZ (np : Int)), .ref ow, .ref om, .ref ok_, .ref oK, .ref og, .ref on_, .ref oh, .ref ox, .int qn, .int qf, .ref op_, .int ql]))] := hD
    show W p l e R s m args below meth c H locs _ _ Q (F0 m 16 ls [.int (iZ rf)])
    refine zz_if_eq (tgt := 21) hx hb d_Mo_print_16 (by decide) (by omega) (fun c16 => ?_) (fun c16 => False.elim (by omega))
    refine lv_aload_n hx hb d_Mo_print_21 rfl (lv_at hl 0 rfl) ?_
    refine lv_iconst (v := iZ (0)) hx hb d_Mo_print_22 (by decide +kernel) ?_
    refine va_put (D := D) (ci := 8) (v := .int (iZ 0)) (ty := .int) (C := R_Mo) (T := F_Mo) (N := 14) hx hb hts i_Mo t_Mo t_Mo_ok n_Mo hown hK hP hD hS 8 rfl rfl 13 (by decide) (hts _ (big_in mw_1128 rfl)) (fun _ h9 => h9) rfl (by decide +kernel) rfl rfl (Nat.le_of_ble_eq_true rfl) d_Mo_print_23 (fun H locs hP hD hS => ?_)
    have hP : va_P D cls0 [(ow, .inl (cI, 108000, .inl fw)), (om, .inl (cI, 9, .inl fm)), (oh, .inl (cI, 10000, .inl fh)), (ok_, .inl (cI, 166400, .inl fk)), (oK, .inl (cI, 64, .inl fK)), (og, .inl (cI, 32, .inl fs)), (on_, .inl (cI, 32, .inl fn)), (op_, .inl (cI, 22000, .inl fq)), (mo, .inr (8, [.int (iZ 0), .int (iZ (np : Int)), .ref ow, .ref om, .ref ok_, .ref oK, .ref og, .ref on_, .ref oh, .ref ox, .int qn, .int qf, .ref op_, .int (iZ 0)]))] H := hP
    have hD : va_D A [(ow, .inl (cI, 108000, .inl fw)), (om, .inl (cI, 9, .inl fm)), (oh, .inl (cI, 10000, .inl fh)), (ok_, .inl (cI, 166400, .inl fk)), (oK, .inl (cI, 64, .inl fK)), (og, .inl (cI, 32, .inl fs)), (on_, .inl (cI, 32, .inl fn)), (op_, .inl (cI, 22000, .inl fq)), (mo, .inr (8, [.int (iZ 0), .int (iZ (np : Int)), .ref ow, .ref om, .ref ok_, .ref oK, .ref og, .ref on_, .ref oh, .ref ox, .int qn, .int qf, .ref op_, .int (iZ 0)]))] := hD
    refine lv_aload_n hx hb d_Mo_print_26 rfl (lv_at hl 0 rfl) ?_
    refine lv_iconst (v := iZ (0)) hx hb d_Mo_print_27 (by decide +kernel) ?_
    refine lv_iconst (v := iZ (2)) hx hb d_Mo_print_28 (by decide +kernel) ?_
    refine lv_iload_n hx hb d_Mo_print_29 rfl (lv_at hl 1 rfl) ?_
    refine zz_imul hx hb d_Mo_print_30 ?_
    rw [show (2 * (a : Int) : Int) = ((2 * a : Nat) : Int) by omega]
    refine cv (n := 2) (wr := [(oh, .inl (cI, 10000, .inl fh)), (og, .inl (cI, 32, .inl fs)), (on_, .inl (cI, 32, .inl fn)), (op_, .inl (cI, 22000, .inl fq))]) (w1 := (fun (u : (Nat → Int32) × (Nat → Int32)) => [(mo, .inr (8, [.int (iZ 0), .int (iZ (np : Int)), .ref ow, .ref om, .ref ok_, .ref oK, .ref og, .ref on_, .ref oh, .ref ox, .int qn, .int qf, .ref op_, .int (iZ 0)])), (ow, .inl (cI, 108000, .inl u.1)), (om, .inl (cI, 9, .inl u.2)), (ok_, .inl (cI, 166400, .inl fk)), (oK, .inl (cI, 64, .inl fK))])) (As := [.int (iZ 0), .int (iZ ((2 * a : Nat) : Int))]) (rest := []) K hP hD hK hS hA hl.1 (c_Mo_load l D mo (iZ 0) np ow om ok_ oK og on_ oh ox qn qf op_ (iZ 0) fw fm cI fk fK val (kvf tv bv) 0 (2 * a) H.size hW hMR.1 (by decide) (by omega)) [8, 0, 1, 3, 4] [2, 5, 6, 7] [0] rfl rfl rfl (by decide) (by decide) (by decide) 0 rfl rfl (big_in mw_1238 rfl) (big_in mw_10 rfl) (big_in mw_1235 rfl) (big_in mw_1237 rfl) (big_in sp_31 rfl) rfl rfl (by decide +kernel) ⟨by rw [hR]; exact Nat.le_of_ble_eq_true rfl, by rw [hR]; exact Nat.le_of_ble_eq_true rfl⟩ rfl (Nat.le_of_ble_eq_true rfl) d_Mo_print_31 ⟨by rw [hR]; exact Nat.le_of_ble_eq_true rfl, by rw [hR]; exact Nat.le_of_ble_eq_true rfl⟩ rfl (fun v u H locs hp3 hP hD hS _ => ?_)
    obtain ⟨fx1, fy1⟩ := u
    try dsimp only at hp3
    obtain ⟨rfl, w1⟩ := hp3
    have hP : va_P D cls0 [(oh, .inl (cI, 10000, .inl fh)), (og, .inl (cI, 32, .inl fs)), (on_, .inl (cI, 32, .inl fn)), (op_, .inl (cI, 22000, .inl fq)), (mo, .inr (8, [.int (iZ 0), .int (iZ (np : Int)), .ref ow, .ref om, .ref ok_, .ref oK, .ref og, .ref on_, .ref oh, .ref ox, .int qn, .int qf, .ref op_, .int (iZ 0)])), (ow, .inl (cI, 108000, .inl fx1)), (om, .inl (cI, 9, .inl fy1)), (ok_, .inl (cI, 166400, .inl fk)), (oK, .inl (cI, 64, .inl fK))] H := hP
    have hD : va_D A [(oh, .inl (cI, 10000, .inl fh)), (og, .inl (cI, 32, .inl fs)), (on_, .inl (cI, 32, .inl fn)), (op_, .inl (cI, 22000, .inl fq)), (mo, .inr (8, [.int (iZ 0), .int (iZ (np : Int)), .ref ow, .ref om, .ref ok_, .ref oK, .ref og, .ref on_, .ref oh, .ref ox, .int qn, .int qf, .ref op_, .int (iZ 0)])), (ow, .inl (cI, 108000, .inl fx1)), (om, .inl (cI, 9, .inl fy1)), (ok_, .inl (cI, 166400, .inl fk)), (oK, .inl (cI, 64, .inl fK))] := hD
    show W p l e R s m args below meth c H locs _ _ Q (F0 m 34 ls [])
    rw [kvf_0] at w1
    obtain ⟨v1, hv1⟩ : ∃ z, z = up val 0 (tv a) := ⟨_, rfl⟩
    rw [← hv1] at w1
    refine lv_aload_n hx hb d_Mo_print_34 rfl (lv_at hl 0 rfl) ?_
    refine lv_iconst (v := iZ (1)) hx hb d_Mo_print_35 (by decide +kernel) ?_
    refine lv_iconst (v := iZ (2)) hx hb d_Mo_print_36 (by decide +kernel) ?_
    refine lv_iload_n hx hb d_Mo_print_37 rfl (lv_at hl 1 rfl) ?_
    refine zz_imul hx hb d_Mo_print_38 ?_
    refine lv_iconst (v := iZ (1)) hx hb d_Mo_print_39 (by decide +kernel) ?_
    refine zz_iadd hx hb d_Mo_print_40 ?_
    rw [show (2 * (a : Int) + 1 : Int) = ((2 * a + 1 : Nat) : Int) by omega]
    refine cv (n := 2) (wr := [(oh, .inl (cI, 10000, .inl fh)), (og, .inl (cI, 32, .inl fs)), (on_, .inl (cI, 32, .inl fn)), (op_, .inl (cI, 22000, .inl fq))]) (w1 := (fun (u : (Nat → Int32) × (Nat → Int32)) => [(mo, .inr (8, [.int (iZ 0), .int (iZ (np : Int)), .ref ow, .ref om, .ref ok_, .ref oK, .ref og, .ref on_, .ref oh, .ref ox, .int qn, .int qf, .ref op_, .int (iZ 0)])), (ow, .inl (cI, 108000, .inl u.1)), (om, .inl (cI, 9, .inl u.2)), (ok_, .inl (cI, 166400, .inl fk)), (oK, .inl (cI, 64, .inl fK))])) (As := [.int (iZ 1), .int (iZ ((2 * a + 1 : Nat) : Int))]) (rest := []) K hP hD hK hS hA hl.1 (c_Mo_load l D mo (iZ 0) np ow om ok_ oK og on_ oh ox qn qf op_ (iZ 0) fx1 fy1 cI fk fK v1 (kvf tv bv) 1 (2 * a + 1) H.size w1 hMR.1 (by decide) (by omega)) [4, 5, 6, 7, 8] [0, 1, 2, 3] [0] rfl rfl rfl (by decide) (by decide) (by decide) 0 rfl rfl (big_in mw_1238 rfl) (big_in mw_10 rfl) (big_in mw_1235 rfl) (big_in mw_1237 rfl) (big_in sp_31 rfl) rfl rfl (by decide +kernel) ⟨by rw [hR]; exact Nat.le_of_ble_eq_true rfl, by rw [hR]; exact Nat.le_of_ble_eq_true rfl⟩ rfl (Nat.le_of_ble_eq_true rfl) d_Mo_print_41 ⟨by rw [hR]; exact Nat.le_of_ble_eq_true rfl, by rw [hR]; exact Nat.le_of_ble_eq_true rfl⟩ rfl (fun v u H locs hp4 hP hD hS _ => ?_)
    obtain ⟨fx2, fy2⟩ := u
    try dsimp only at hp4
    obtain ⟨rfl, w2⟩ := hp4
    have hP : va_P D cls0 [(oh, .inl (cI, 10000, .inl fh)), (og, .inl (cI, 32, .inl fs)), (on_, .inl (cI, 32, .inl fn)), (op_, .inl (cI, 22000, .inl fq)), (mo, .inr (8, [.int (iZ 0), .int (iZ (np : Int)), .ref ow, .ref om, .ref ok_, .ref oK, .ref og, .ref on_, .ref oh, .ref ox, .int qn, .int qf, .ref op_, .int (iZ 0)])), (ow, .inl (cI, 108000, .inl fx2)), (om, .inl (cI, 9, .inl fy2)), (ok_, .inl (cI, 166400, .inl fk)), (oK, .inl (cI, 64, .inl fK))] H := hP
    have hD : va_D A [(oh, .inl (cI, 10000, .inl fh)), (og, .inl (cI, 32, .inl fs)), (on_, .inl (cI, 32, .inl fn)), (op_, .inl (cI, 22000, .inl fq)), (mo, .inr (8, [.int (iZ 0), .int (iZ (np : Int)), .ref ow, .ref om, .ref ok_, .ref oK, .ref og, .ref on_, .ref oh, .ref ox, .int qn, .int qf, .ref op_, .int (iZ 0)])), (ow, .inl (cI, 108000, .inl fx2)), (om, .inl (cI, 9, .inl fy2)), (ok_, .inl (cI, 166400, .inl fk)), (oK, .inl (cI, 64, .inl fK))] := hD
    show W p l e R s m args below meth c H locs _ _ Q (F0 m 44 ls [])
    rw [kvf_1] at w2
    obtain ⟨v2, hv2⟩ : ∃ z, z = up v1 1 (bv a) := ⟨_, rfl⟩
    rw [← hv2] at w2
    have e0 : v2 0 = tv a := by rw [hv2, up_n (by decide), hv1, up_s]
    have e1 : v2 1 = bv a := by rw [hv2, up_s]
    have ba := hlr a (by omega)
    refine lv_aload_n hx hb d_Mo_print_44 rfl (lv_at hl 0 rfl) ?_
    refine va_get (D := D) (ci := 8) (v := .ref og) (C := R_Mo) (T := F_Mo) (N := 14) hx hb hts i_Mo hown hK hP 4 rfl rfl 6 (by decide) (hts _ (big_in mw_1121 rfl)) (fun _ h9 => h9) rfl d_Mo_print_45 ?_
    refine lv_iload_n hx hb d_Mo_print_48 rfl (lv_at hl 1 rfl) ?_
    refine zz_iald hx hb hK hP 1 0 rfl rfl (a) (by omega) (by omega) (by omega) d_Mo_print_49 ?_
    rw [hMR.2.1 a (by omega)]
    refine zz_if_ge (tgt := 66) hx hb d_Mo_print_50 (by decide) (by omega) (fun c50 => ?_) (fun c50 => ?_)
    · refine lv_aload_n hx hb d_Mo_print_66 rfl (lv_at hl 0 rfl) ?_
      refine va_get (D := D) (ci := 8) (v := .ref om) (C := R_Mo) (T := F_Mo) (N := 14) hx hb hts i_Mo hown hK hP 4 rfl rfl 3 (by decide) (hts _ (big_in mw_1118 rfl)) (fun _ h9 => h9) rfl d_Mo_print_67 ?_
      refine lv_iconst (v := iZ (0)) hx hb d_Mo_print_70 (by decide +kernel) ?_
      refine zz_iald hx hb hK hP 6 0 rfl rfl (0) (by omega) (by omega) (by omega) d_Mo_print_71 ?_
      rw [w2.m (by decide), e0]
      refine zz_if_ne (tgt := 88) hx hb d_Mo_print_72 (by decide) (by omega) (fun c72 => ?_) (fun c72 => ?_)
      · refine lv_aload_n hx hb d_Mo_print_88 rfl (lv_at hl 0 rfl) ?_
        refine lv_iconst (v := iZ (0)) hx hb d_Mo_print_89 (by decide +kernel) ?_
        obtain ⟨li0, hli0⟩ : ∃ l : List Nat, l = [] := ⟨_, rfl⟩
        have hl0 : li0.length = 0 := by rw [hli0]; rfl
        have p0 : PX (fq) li0 := by rw [hli0]; exact PX.nil _
        have hP : va_P D cls0 [(oh, .inl (cI, 10000, .inl fh)), (og, .inl (cI, 32, .inl fs)), (on_, .inl (cI, 32, .inl fn)), (op_, .inl (cI, 22000, .inl fq)), (mo, .inr (8, [.int (iZ 0), .int (iZ (np : Int)), .ref ow, .ref om, .ref ok_, .ref oK, .ref og, .ref on_, .ref oh, .ref ox, .int qn, .int qf, .ref op_, .int (iZ (li0.length : Int))])), (ow, .inl (cI, 108000, .inl fx2)), (om, .inl (cI, 9, .inl fy2)), (ok_, .inl (cI, 166400, .inl fk)), (oK, .inl (cI, 64, .inl fK))] H := by rw [show (li0.length : Int) = 0 by omega]; exact hP
        have hD : va_D A [(oh, .inl (cI, 10000, .inl fh)), (og, .inl (cI, 32, .inl fs)), (on_, .inl (cI, 32, .inl fn)), (op_, .inl (cI, 22000, .inl fq)), (mo, .inr (8, [.int (iZ 0), .int (iZ (np : Int)), .ref ow, .ref om, .ref ok_, .ref oK, .ref og, .ref on_, .ref oh, .ref ox, .int qn, .int qf, .ref op_, .int (iZ (li0.length : Int))])), (ow, .inl (cI, 108000, .inl fx2)), (om, .inl (cI, 9, .inl fy2)), (ok_, .inl (cI, 166400, .inl fk)), (oK, .inl (cI, 64, .inl fK))] := by rw [show (li0.length : Int) = 0 by omega]; exact hD
        refine cv (n := 1) (wr := [(oh, .inl (cI, 10000, .inl fh)), (og, .inl (cI, 32, .inl fs)), (on_, .inl (cI, 32, .inl fn)), (ok_, .inl (cI, 166400, .inl fk)), (oK, .inl (cI, 64, .inl fK))]) (w1 := (fun (u : (Nat → Int32) × Nat) => [(mo, .inr (8, [.int (iZ 0), .int (iZ (np : Int)), .ref ow, .ref om, .ref ok_, .ref oK, .ref og, .ref on_, .ref oh, .ref ox, .int qn, .int qf, .ref op_, .int (iZ ((li0 ++ dg u.2 (v2 0)).length : Int))])), (ow, .inl (cI, 108000, .inl fx2)), (om, .inl (cI, 9, .inl fy2)), (op_, .inl (cI, 22000, .inl u.1))])) (As := [.int (iZ 0)]) (rest := []) K hP hD hK hS hA hl.1 (c_Mo_say l D mo (iZ 0) np ow om ok_ oK og on_ oh ox qn qf op_ fx2 fy2 cI fq v2 li0 0 H.size w2 p0 (by omega) (by decide) (by rw [e0]; omega)) [4, 5, 6, 3] [0, 1, 2, 7, 8] [0] rfl rfl rfl (by decide) (by decide) (by decide) 0 rfl rfl (big_in mw_1396 rfl) (big_in mw_10 rfl) (big_in mw_1393 rfl) (big_in mw_1395 rfl) (big_in sp_51 rfl) rfl rfl (by decide +kernel) ⟨by rw [hR]; exact Nat.le_of_ble_eq_true rfl, by rw [hR]; exact Nat.le_of_ble_eq_true rfl⟩ rfl (Nat.le_of_ble_eq_true rfl) d_Mo_print_90 ⟨by rw [hR]; exact Nat.le_of_ble_eq_true rfl, by rw [hR]; exact Nat.le_of_ble_eq_true rfl⟩ rfl (fun v u H locs hp5 hP hD hS _ => ?_)
        obtain ⟨fq1, kd0⟩ := u
        try dsimp only at hp5
        obtain ⟨rfl, p1, p2⟩ := hp5
        have hP : va_P D cls0 [(oh, .inl (cI, 10000, .inl fh)), (og, .inl (cI, 32, .inl fs)), (on_, .inl (cI, 32, .inl fn)), (ok_, .inl (cI, 166400, .inl fk)), (oK, .inl (cI, 64, .inl fK)), (mo, .inr (8, [.int (iZ 0), .int (iZ (np : Int)), .ref ow, .ref om, .ref ok_, .ref oK, .ref og, .ref on_, .ref oh, .ref ox, .int qn, .int qf, .ref op_, .int (iZ ((li0 ++ dg kd0 (v2 0)).length : Int))])), (ow, .inl (cI, 108000, .inl fx2)), (om, .inl (cI, 9, .inl fy2)), (op_, .inl (cI, 22000, .inl fq1))] H := hP
        have hD : va_D A [(oh, .inl (cI, 10000, .inl fh)), (og, .inl (cI, 32, .inl fs)), (on_, .inl (cI, 32, .inl fn)), (ok_, .inl (cI, 166400, .inl fk)), (oK, .inl (cI, 64, .inl fK)), (mo, .inr (8, [.int (iZ 0), .int (iZ (np : Int)), .ref ow, .ref om, .ref ok_, .ref oK, .ref og, .ref on_, .ref oh, .ref ox, .int qn, .int qf, .ref op_, .int (iZ ((li0 ++ dg kd0 (v2 0)).length : Int))])), (ow, .inl (cI, 108000, .inl fx2)), (om, .inl (cI, 9, .inl fy2)), (op_, .inl (cI, 22000, .inl fq1))] := hD
        show W p l e R s m args below meth c H locs _ _ Q (F0 m 93 ls [])
        rw [e0] at p1 p2
        rw [e0] at hP hD
        obtain ⟨li1, hli1⟩ : ∃ l : List Nat, l = li0 ++ dg kd0 (tv a) := ⟨_, rfl⟩
        rw [← hli1] at p1 hP hD
        have hl1 : li1.length = li0.length + kd0 := by rw [hli1, List.length_append, dg_len]
        have bk : kd0 ≤ 4 * nd (tv a) + 1 := by rcases p2 with z | z; omega; exact IsD_nd z.2
        refine lv_aload_n hx hb d_Mo_print_93 rfl (lv_at hl 0 rfl) ?_
        refine va_get (D := D) (ci := 8) (v := .ref om) (C := R_Mo) (T := F_Mo) (N := 14) hx hb hts i_Mo hown hK hP 5 rfl rfl 3 (by decide) (hts _ (big_in mw_1118 rfl)) (fun _ h9 => h9) rfl d_Mo_print_94 ?_
        refine lv_iconst (v := iZ (1)) hx hb d_Mo_print_97 (by decide +kernel) ?_
        refine zz_iald hx hb hK hP 7 0 rfl rfl (1) (by omega) (by omega) (by omega) d_Mo_print_98 ?_
        rw [w2.m (by decide), e1]
        refine lv_iconst (v := iZ (1)) hx hb d_Mo_print_99 (by decide +kernel) ?_
        refine zz_icmp_gt (tgt := 115) hx hb d_Mo_print_100 (by decide) (by omega) (by omega) (fun c100 => ?_) (fun c100 => ?_)
        · refine lv_aload_n hx hb d_Mo_print_115 rfl (lv_at hl 0 rfl) ?_
          refine va_get (D := D) (ci := 8) (v := .ref op_) (C := R_Mo) (T := F_Mo) (N := 14) hx hb hts i_Mo hown hK hP 5 rfl rfl 12 (by decide) (hts _ (big_in mw_1127 rfl)) (fun _ h9 => h9) rfl d_Mo_print_116 ?_
          refine lv_aload_n hx hb d_Mo_print_119 rfl (lv_at hl 0 rfl) ?_
          refine va_get (D := D) (ci := 8) (v := .int (iZ (li1.length : Int))) (C := R_Mo) (T := F_Mo) (N := 14) hx hb hts i_Mo hown hK hP 5 rfl rfl 13 (by decide) (hts _ (big_in mw_1128 rfl)) (fun _ h9 => h9) rfl d_Mo_print_120 ?_
          refine lv_bipush (v := iZ (47)) hx hb d_Mo_print_123 (by decide +kernel) ?_
          refine zz_iast hx hb hK hP hD hS 8 0 rfl rfl (li1.length) (by omega) (by omega) (by omega) d_Mo_print_125 (fun H locs hP hD hS => ?_)
          have hP : va_P D cls0 [(oh, .inl (cI, 10000, .inl fh)), (og, .inl (cI, 32, .inl fs)), (on_, .inl (cI, 32, .inl fn)), (ok_, .inl (cI, 166400, .inl fk)), (oK, .inl (cI, 64, .inl fK)), (mo, .inr (8, [.int (iZ 0), .int (iZ (np : Int)), .ref ow, .ref om, .ref ok_, .ref oK, .ref og, .ref on_, .ref oh, .ref ox, .int qn, .int qf, .ref op_, .int (iZ (li1.length : Int))])), (ow, .inl (cI, 108000, .inl fx2)), (om, .inl (cI, 9, .inl fy2)), (op_, .inl (cI, 22000, .inl (upd fq1 li1.length (iZ 47))))] H := hP
          have hD : va_D A [(oh, .inl (cI, 10000, .inl fh)), (og, .inl (cI, 32, .inl fs)), (on_, .inl (cI, 32, .inl fn)), (ok_, .inl (cI, 166400, .inl fk)), (oK, .inl (cI, 64, .inl fK)), (mo, .inr (8, [.int (iZ 0), .int (iZ (np : Int)), .ref ow, .ref om, .ref ok_, .ref oK, .ref og, .ref on_, .ref oh, .ref ox, .int qn, .int qf, .ref op_, .int (iZ (li1.length : Int))])), (ow, .inl (cI, 108000, .inl fx2)), (om, .inl (cI, 9, .inl fy2)), (op_, .inl (cI, 22000, .inl (upd fq1 li1.length (iZ 47))))] := hD
          refine lv_aload_n hx hb d_Mo_print_126 rfl (lv_at hl 0 rfl) ?_
          refine lv_dup hx hb d_Mo_print_127 rfl ?_
          refine va_get (D := D) (ci := 8) (v := .int (iZ (li1.length : Int))) (C := R_Mo) (T := F_Mo) (N := 14) hx hb hts i_Mo hown hK hP 5 rfl rfl 13 (by decide) (hts _ (big_in mw_1128 rfl)) (fun _ h9 => h9) rfl d_Mo_print_128 ?_
          refine lv_iconst (v := iZ (1)) hx hb d_Mo_print_131 (by decide +kernel) ?_
          refine zz_iadd hx hb d_Mo_print_132 ?_
          refine va_put (D := D) (ci := 8) (v := .int (iZ ((li1.length : Int) + 1))) (ty := .int) (C := R_Mo) (T := F_Mo) (N := 14) hx hb hts i_Mo t_Mo t_Mo_ok n_Mo hown hK hP hD hS 5 rfl rfl 13 (by decide) (hts _ (big_in mw_1128 rfl)) (fun _ h9 => h9) rfl (by decide +kernel) rfl rfl (Nat.le_of_ble_eq_true rfl) d_Mo_print_133 (fun H locs hP hD hS => ?_)
          have hP : va_P D cls0 [(oh, .inl (cI, 10000, .inl fh)), (og, .inl (cI, 32, .inl fs)), (on_, .inl (cI, 32, .inl fn)), (ok_, .inl (cI, 166400, .inl fk)), (oK, .inl (cI, 64, .inl fK)), (mo, .inr (8, [.int (iZ 0), .int (iZ (np : Int)), .ref ow, .ref om, .ref ok_, .ref oK, .ref og, .ref on_, .ref oh, .ref ox, .int qn, .int qf, .ref op_, .int (iZ ((li1.length : Int) + 1))])), (ow, .inl (cI, 108000, .inl fx2)), (om, .inl (cI, 9, .inl fy2)), (op_, .inl (cI, 22000, .inl (upd fq1 li1.length (iZ 47))))] H := hP
          have hD : va_D A [(oh, .inl (cI, 10000, .inl fh)), (og, .inl (cI, 32, .inl fs)), (on_, .inl (cI, 32, .inl fn)), (ok_, .inl (cI, 166400, .inl fk)), (oK, .inl (cI, 64, .inl fK)), (mo, .inr (8, [.int (iZ 0), .int (iZ (np : Int)), .ref ow, .ref om, .ref ok_, .ref oK, .ref og, .ref on_, .ref oh, .ref ox, .int qn, .int qf, .ref op_, .int (iZ ((li1.length : Int) + 1))])), (ow, .inl (cI, 108000, .inl fx2)), (om, .inl (cI, 9, .inl fy2)), (op_, .inl (cI, 22000, .inl (upd fq1 li1.length (iZ 47))))] := hD
          refine lv_aload_n hx hb d_Mo_print_136 rfl (lv_at hl 0 rfl) ?_
          refine lv_iconst (v := iZ (1)) hx hb d_Mo_print_137 (by decide +kernel) ?_
          obtain ⟨li2, hli2⟩ : ∃ l : List Nat, l = li1 ++ [47] := ⟨_, rfl⟩
          have hl2 : li2.length = li1.length + 1 := by rw [hli2, List.length_append]; rfl
          have p3 : PX (upd fq1 li1.length (iZ 47)) li2 := by rw [hli2]; exact p1.put rfl
          rw [show ((li1.length : Int) + 1 : Int) = (li2.length : Int) by omega] at hP hD
          refine cv (n := 1) (wr := [(oh, .inl (cI, 10000, .inl fh)), (og, .inl (cI, 32, .inl fs)), (on_, .inl (cI, 32, .inl fn)), (ok_, .inl (cI, 166400, .inl fk)), (oK, .inl (cI, 64, .inl fK))]) (w1 := (fun (u : (Nat → Int32) × Nat) => [(mo, .inr (8, [.int (iZ 0), .int (iZ (np : Int)), .ref ow, .ref om, .ref ok_, .ref oK, .ref og, .ref on_, .ref oh, .ref ox, .int qn, .int qf, .ref op_, .int (iZ ((li2 ++ dg u.2 (v2 1)).length : Int))])), (ow, .inl (cI, 108000, .inl fx2)), (om, .inl (cI, 9, .inl fy2)), (op_, .inl (cI, 22000, .inl u.1))])) (As := [.int (iZ 1)]) (rest := []) K hP hD hK hS hA hl.1 (c_Mo_say l D mo (iZ 0) np ow om ok_ oK og on_ oh ox qn qf op_ fx2 fy2 cI (upd fq1 li1.length (iZ 47)) v2 li2 1 H.size w2 p3 (by omega) (by decide) (by rw [e1]; omega)) [5, 6, 7, 8] [0, 1, 2, 3, 4] [0] rfl rfl rfl (by decide) (by decide) (by decide) 0 rfl rfl (big_in mw_1396 rfl) (big_in mw_10 rfl) (big_in mw_1393 rfl) (big_in mw_1395 rfl) (big_in sp_51 rfl) rfl rfl (by decide +kernel) ⟨by rw [hR]; exact Nat.le_of_ble_eq_true rfl, by rw [hR]; exact Nat.le_of_ble_eq_true rfl⟩ rfl (Nat.le_of_ble_eq_true rfl) d_Mo_print_138 ⟨by rw [hR]; exact Nat.le_of_ble_eq_true rfl, by rw [hR]; exact Nat.le_of_ble_eq_true rfl⟩ rfl (fun v u H locs hp6 hP hD hS _ => ?_)
          obtain ⟨fq3, kd1⟩ := u
          try dsimp only at hp6
          obtain ⟨rfl, p4, p5⟩ := hp6
          have hP : va_P D cls0 [(oh, .inl (cI, 10000, .inl fh)), (og, .inl (cI, 32, .inl fs)), (on_, .inl (cI, 32, .inl fn)), (ok_, .inl (cI, 166400, .inl fk)), (oK, .inl (cI, 64, .inl fK)), (mo, .inr (8, [.int (iZ 0), .int (iZ (np : Int)), .ref ow, .ref om, .ref ok_, .ref oK, .ref og, .ref on_, .ref oh, .ref ox, .int qn, .int qf, .ref op_, .int (iZ ((li2 ++ dg kd1 (v2 1)).length : Int))])), (ow, .inl (cI, 108000, .inl fx2)), (om, .inl (cI, 9, .inl fy2)), (op_, .inl (cI, 22000, .inl fq3))] H := hP
          have hD : va_D A [(oh, .inl (cI, 10000, .inl fh)), (og, .inl (cI, 32, .inl fs)), (on_, .inl (cI, 32, .inl fn)), (ok_, .inl (cI, 166400, .inl fk)), (oK, .inl (cI, 64, .inl fK)), (mo, .inr (8, [.int (iZ 0), .int (iZ (np : Int)), .ref ow, .ref om, .ref ok_, .ref oK, .ref og, .ref on_, .ref oh, .ref ox, .int qn, .int qf, .ref op_, .int (iZ ((li2 ++ dg kd1 (v2 1)).length : Int))])), (ow, .inl (cI, 108000, .inl fx2)), (om, .inl (cI, 9, .inl fy2)), (op_, .inl (cI, 22000, .inl fq3))] := hD
          show W p l e R s m args below meth c H locs _ _ Q (F0 m 141 ls [])
          rw [e1] at p4 p5
          rw [e1] at hP hD
          obtain ⟨li3, hli3⟩ : ∃ l : List Nat, l = li2 ++ dg kd1 (bv a) := ⟨_, rfl⟩
          rw [← hli3] at p4 hP hD
          refine lv_aload_n hx hb d_Mo_print_141 rfl (lv_at hl 0 rfl) ?_
          refine va_get (D := D) (ci := 8) (v := .int (iZ (li3.length : Int))) (C := R_Mo) (T := F_Mo) (N := 14) hx hb hts i_Mo hown hK hP 5 rfl rfl 13 (by decide) (hts _ (big_in mw_1128 rfl)) (fun _ h9 => h9) rfl d_Mo_print_142 ?_
          have hP9 : va_P D cls0 [(mo, .inr (8, [.int (iZ 0), .int (iZ (np : Int)), .ref ow, .ref om, .ref ok_, .ref oK, .ref og, .ref on_, .ref oh, .ref ox, .int qn, .int qf, .ref op_, .int (iZ (li3.length : Int))])), (ow, .inl (cI, 108000, .inl fx2)), (om, .inl (cI, 9, .inl fy2)), (oh, .inl (cI, 10000, .inl fh)), (ok_, .inl (cI, 166400, .inl fk)), (oK, .inl (cI, 64, .inl fK)), (og, .inl (cI, 32, .inl fs)), (on_, .inl (cI, 32, .inl fn)), (op_, .inl (cI, 22000, .inl fq3))] H := hP.sub [5, 6, 7, 0, 3, 4, 1, 2, 8] rfl
          have hD9 : va_D A [(mo, .inr (8, [.int (iZ 0), .int (iZ (np : Int)), .ref ow, .ref om, .ref ok_, .ref oK, .ref og, .ref on_, .ref oh, .ref ox, .int qn, .int qf, .ref op_, .int (iZ (li3.length : Int))])), (ow, .inl (cI, 108000, .inl fx2)), (om, .inl (cI, 9, .inl fy2)), (oh, .inl (cI, 10000, .inl fh)), (ok_, .inl (cI, 166400, .inl fk)), (oK, .inl (cI, 64, .inl fK)), (og, .inl (cI, 32, .inl fs)), (on_, .inl (cI, 32, .inl fn)), (op_, .inl (cI, 22000, .inl fq3))] := hD.sub [5, 6, 7, 0, 3, 4, 1, 2, 8] (by decide) rfl
          rw [hQ, ← hAe]
          refine r_i (v := (iZ (li3.length : Int))) K ((li3.length : Int), fx2, fy2, fq3, v2, kd0, kd1) hS d_Mo_print_145 ?_ (fun t ht hv => ?_)
          · try dsimp only
            have t0 : 0 < tv a := nd_pos.mp (by omega)
            have kD : IsD (tv a) kd0 := by rcases p2 with z | z; omega; exact z.2
            have b1 : bv a ≠ 1 := bv_two (by omega)
            have eT : ((if sg a < 0 then ([45] : List Nat) else []) ++ (dg kd0 (tv a) ++ (if bv a = 1 then [] else 47 :: dg kd1 (bv a)))) = li3 := by
              rw [if_neg (by omega), if_neg b1]
              rw [hli3, hli2, hli1, hli0]
              simp
            refine ⟨rfl, ?_, w2, ?_, ?_, ?_⟩
            · rw [eT]
            · rw [eT]; exact p4
            · exact kD
            · intro _; rcases p5 with z | z; omega; exact z.2
          · exact ⟨by rw [ht]; exact hP9, va_K.moved hv hK, by rw [← hAe]; exact hD9⟩
        · have dbb := dz_lt (bv a) 0
          have npb := nd_pos.mpr pa
          refine lv_aload_n hx hb d_Mo_print_103 rfl (lv_at hl 0 rfl) ?_
          refine va_get (D := D) (ci := 8) (v := .ref ow) (C := R_Mo) (T := F_Mo) (N := 14) hx hb hts i_Mo hown hK hP 5 rfl rfl 2 (by decide) (hts _ (big_in mw_1117 rfl)) (fun _ h9 => h9) rfl d_Mo_print_104 ?_
          refine lv_sipush (v := iZ (12000)) hx hb d_Mo_print_107 (by decide +kernel) ?_
          refine zz_iald hx hb hK hP 6 0 rfl rfl (12000 * 1 + 0) (by omega) (by omega) (by omega) d_Mo_print_110 ?_
          rw [w2.d (b := 1) (i := 0) (by decide) (by rw [e1]; omega), e1]
          refine lv_iconst (v := iZ (1)) hx hb d_Mo_print_111 (by decide +kernel) ?_
          refine zz_icmp_le (tgt := 141) hx hb d_Mo_print_112 (by decide) (by omega) (by omega) (fun c112 => ?_) (fun c112 => ?_)
          · refine lv_aload_n hx hb d_Mo_print_141 rfl (lv_at hl 0 rfl) ?_
            refine va_get (D := D) (ci := 8) (v := .int (iZ (li1.length : Int))) (C := R_Mo) (T := F_Mo) (N := 14) hx hb hts i_Mo hown hK hP 5 rfl rfl 13 (by decide) (hts _ (big_in mw_1128 rfl)) (fun _ h9 => h9) rfl d_Mo_print_142 ?_
            have hP9 : va_P D cls0 [(mo, .inr (8, [.int (iZ 0), .int (iZ (np : Int)), .ref ow, .ref om, .ref ok_, .ref oK, .ref og, .ref on_, .ref oh, .ref ox, .int qn, .int qf, .ref op_, .int (iZ (li1.length : Int))])), (ow, .inl (cI, 108000, .inl fx2)), (om, .inl (cI, 9, .inl fy2)), (oh, .inl (cI, 10000, .inl fh)), (ok_, .inl (cI, 166400, .inl fk)), (oK, .inl (cI, 64, .inl fK)), (og, .inl (cI, 32, .inl fs)), (on_, .inl (cI, 32, .inl fn)), (op_, .inl (cI, 22000, .inl fq1))] H := hP.sub [5, 6, 7, 0, 3, 4, 1, 2, 8] rfl
            have hD9 : va_D A [(mo, .inr (8, [.int (iZ 0), .int (iZ (np : Int)), .ref ow, .ref om, .ref ok_, .ref oK, .ref og, .ref on_, .ref oh, .ref ox, .int qn, .int qf, .ref op_, .int (iZ (li1.length : Int))])), (ow, .inl (cI, 108000, .inl fx2)), (om, .inl (cI, 9, .inl fy2)), (oh, .inl (cI, 10000, .inl fh)), (ok_, .inl (cI, 166400, .inl fk)), (oK, .inl (cI, 64, .inl fK)), (og, .inl (cI, 32, .inl fs)), (on_, .inl (cI, 32, .inl fn)), (op_, .inl (cI, 22000, .inl fq1))] := hD.sub [5, 6, 7, 0, 3, 4, 1, 2, 8] (by decide) rfl
            rw [hQ, ← hAe]
            refine r_i (v := (iZ (li1.length : Int))) K ((li1.length : Int), fx2, fy2, fq1, v2, kd0, 0) hS d_Mo_print_145 ?_ (fun t ht hv => ?_)
            · try dsimp only
              have t0 : 0 < tv a := nd_pos.mp (by omega)
              have kD : IsD (tv a) kd0 := by rcases p2 with z | z; omega; exact z.2
              have b1 : bv a = 1 := bv_one pa (by omega) (by omega)
              have eT : ((if sg a < 0 then ([45] : List Nat) else []) ++ (dg kd0 (tv a) ++ (if bv a = 1 then [] else 47 :: dg 0 (bv a)))) = li1 := by
                rw [if_neg (by omega), if_pos b1]
                rw [hli1, hli0]
                simp
              refine ⟨rfl, ?_, w2, ?_, ?_, ?_⟩
              · rw [eT]
              · rw [eT]; exact p1
              · exact kD
              · intro z; exact absurd b1 z
            · exact ⟨by rw [ht]; exact hP9, va_K.moved hv hK, by rw [← hAe]; exact hD9⟩
          · refine lv_aload_n hx hb d_Mo_print_115 rfl (lv_at hl 0 rfl) ?_
            refine va_get (D := D) (ci := 8) (v := .ref op_) (C := R_Mo) (T := F_Mo) (N := 14) hx hb hts i_Mo hown hK hP 5 rfl rfl 12 (by decide) (hts _ (big_in mw_1127 rfl)) (fun _ h9 => h9) rfl d_Mo_print_116 ?_
            refine lv_aload_n hx hb d_Mo_print_119 rfl (lv_at hl 0 rfl) ?_
            refine va_get (D := D) (ci := 8) (v := .int (iZ (li1.length : Int))) (C := R_Mo) (T := F_Mo) (N := 14) hx hb hts i_Mo hown hK hP 5 rfl rfl 13 (by decide) (hts _ (big_in mw_1128 rfl)) (fun _ h9 => h9) rfl d_Mo_print_120 ?_
            refine lv_bipush (v := iZ (47)) hx hb d_Mo_print_123 (by decide +kernel) ?_
            refine zz_iast hx hb hK hP hD hS 8 0 rfl rfl (li1.length) (by omega) (by omega) (by omega) d_Mo_print_125 (fun H locs hP hD hS => ?_)
            have hP : va_P D cls0 [(oh, .inl (cI, 10000, .inl fh)), (og, .inl (cI, 32, .inl fs)), (on_, .inl (cI, 32, .inl fn)), (ok_, .inl (cI, 166400, .inl fk)), (oK, .inl (cI, 64, .inl fK)), (mo, .inr (8, [.int (iZ 0), .int (iZ (np : Int)), .ref ow, .ref om, .ref ok_, .ref oK, .ref og, .ref on_, .ref oh, .ref ox, .int qn, .int qf, .ref op_, .int (iZ (li1.length : Int))])), (ow, .inl (cI, 108000, .inl fx2)), (om, .inl (cI, 9, .inl fy2)), (op_, .inl (cI, 22000, .inl (upd fq1 li1.length (iZ 47))))] H := hP
            have hD : va_D A [(oh, .inl (cI, 10000, .inl fh)), (og, .inl (cI, 32, .inl fs)), (on_, .inl (cI, 32, .inl fn)), (ok_, .inl (cI, 166400, .inl fk)), (oK, .inl (cI, 64, .inl fK)), (mo, .inr (8, [.int (iZ 0), .int (iZ (np : Int)), .ref ow, .ref om, .ref ok_, .ref oK, .ref og, .ref on_, .ref oh, .ref ox, .int qn, .int qf, .ref op_, .int (iZ (li1.length : Int))])), (ow, .inl (cI, 108000, .inl fx2)), (om, .inl (cI, 9, .inl fy2)), (op_, .inl (cI, 22000, .inl (upd fq1 li1.length (iZ 47))))] := hD
            refine lv_aload_n hx hb d_Mo_print_126 rfl (lv_at hl 0 rfl) ?_
            refine lv_dup hx hb d_Mo_print_127 rfl ?_
            refine va_get (D := D) (ci := 8) (v := .int (iZ (li1.length : Int))) (C := R_Mo) (T := F_Mo) (N := 14) hx hb hts i_Mo hown hK hP 5 rfl rfl 13 (by decide) (hts _ (big_in mw_1128 rfl)) (fun _ h9 => h9) rfl d_Mo_print_128 ?_
            refine lv_iconst (v := iZ (1)) hx hb d_Mo_print_131 (by decide +kernel) ?_
            refine zz_iadd hx hb d_Mo_print_132 ?_
            refine va_put (D := D) (ci := 8) (v := .int (iZ ((li1.length : Int) + 1))) (ty := .int) (C := R_Mo) (T := F_Mo) (N := 14) hx hb hts i_Mo t_Mo t_Mo_ok n_Mo hown hK hP hD hS 5 rfl rfl 13 (by decide) (hts _ (big_in mw_1128 rfl)) (fun _ h9 => h9) rfl (by decide +kernel) rfl rfl (Nat.le_of_ble_eq_true rfl) d_Mo_print_133 (fun H locs hP hD hS => ?_)
            have hP : va_P D cls0 [(oh, .inl (cI, 10000, .inl fh)), (og, .inl (cI, 32, .inl fs)), (on_, .inl (cI, 32, .inl fn)), (ok_, .inl (cI, 166400, .inl fk)), (oK, .inl (cI, 64, .inl fK)), (mo, .inr (8, [.int (iZ 0), .int (iZ (np : Int)), .ref ow, .ref om, .ref ok_, .ref oK, .ref og, .ref on_, .ref oh, .ref ox, .int qn, .int qf, .ref op_, .int (iZ ((li1.length : Int) + 1))])), (ow, .inl (cI, 108000, .inl fx2)), (om, .inl (cI, 9, .inl fy2)), (op_, .inl (cI, 22000, .inl (upd fq1 li1.length (iZ 47))))] H := hP
            have hD : va_D A [(oh, .inl (cI, 10000, .inl fh)), (og, .inl (cI, 32, .inl fs)), (on_, .inl (cI, 32, .inl fn)), (ok_, .inl (cI, 166400, .inl fk)), (oK, .inl (cI, 64, .inl fK)), (mo, .inr (8, [.int (iZ 0), .int (iZ (np : Int)), .ref ow, .ref om, .ref ok_, .ref oK, .ref og, .ref on_, .ref oh, .ref ox, .int qn, .int qf, .ref op_, .int (iZ ((li1.length : Int) + 1))])), (ow, .inl (cI, 108000, .inl fx2)), (om, .inl (cI, 9, .inl fy2)), (op_, .inl (cI, 22000, .inl (upd fq1 li1.length (iZ 47))))] := hD
            refine lv_aload_n hx hb d_Mo_print_136 rfl (lv_at hl 0 rfl) ?_
            refine lv_iconst (v := iZ (1)) hx hb d_Mo_print_137 (by decide +kernel) ?_
            obtain ⟨li2, hli2⟩ : ∃ l : List Nat, l = li1 ++ [47] := ⟨_, rfl⟩
            have hl2 : li2.length = li1.length + 1 := by rw [hli2, List.length_append]; rfl
            have p3 : PX (upd fq1 li1.length (iZ 47)) li2 := by rw [hli2]; exact p1.put rfl
            rw [show ((li1.length : Int) + 1 : Int) = (li2.length : Int) by omega] at hP hD
            refine cv (n := 1) (wr := [(oh, .inl (cI, 10000, .inl fh)), (og, .inl (cI, 32, .inl fs)), (on_, .inl (cI, 32, .inl fn)), (ok_, .inl (cI, 166400, .inl fk)), (oK, .inl (cI, 64, .inl fK))]) (w1 := (fun (u : (Nat → Int32) × Nat) => [(mo, .inr (8, [.int (iZ 0), .int (iZ (np : Int)), .ref ow, .ref om, .ref ok_, .ref oK, .ref og, .ref on_, .ref oh, .ref ox, .int qn, .int qf, .ref op_, .int (iZ ((li2 ++ dg u.2 (v2 1)).length : Int))])), (ow, .inl (cI, 108000, .inl fx2)), (om, .inl (cI, 9, .inl fy2)), (op_, .inl (cI, 22000, .inl u.1))])) (As := [.int (iZ 1)]) (rest := []) K hP hD hK hS hA hl.1 (c_Mo_say l D mo (iZ 0) np ow om ok_ oK og on_ oh ox qn qf op_ fx2 fy2 cI (upd fq1 li1.length (iZ 47)) v2 li2 1 H.size w2 p3 (by omega) (by decide) (by rw [e1]; omega)) [5, 6, 7, 8] [0, 1, 2, 3, 4] [0] rfl rfl rfl (by decide) (by decide) (by decide) 0 rfl rfl (big_in mw_1396 rfl) (big_in mw_10 rfl) (big_in mw_1393 rfl) (big_in mw_1395 rfl) (big_in sp_51 rfl) rfl rfl (by decide +kernel) ⟨by rw [hR]; exact Nat.le_of_ble_eq_true rfl, by rw [hR]; exact Nat.le_of_ble_eq_true rfl⟩ rfl (Nat.le_of_ble_eq_true rfl) d_Mo_print_138 ⟨by rw [hR]; exact Nat.le_of_ble_eq_true rfl, by rw [hR]; exact Nat.le_of_ble_eq_true rfl⟩ rfl (fun v u H locs hp7 hP hD hS _ => ?_)
            obtain ⟨fq3, kd1⟩ := u
            try dsimp only at hp7
            obtain ⟨rfl, p4, p5⟩ := hp7
            have hP : va_P D cls0 [(oh, .inl (cI, 10000, .inl fh)), (og, .inl (cI, 32, .inl fs)), (on_, .inl (cI, 32, .inl fn)), (ok_, .inl (cI, 166400, .inl fk)), (oK, .inl (cI, 64, .inl fK)), (mo, .inr (8, [.int (iZ 0), .int (iZ (np : Int)), .ref ow, .ref om, .ref ok_, .ref oK, .ref og, .ref on_, .ref oh, .ref ox, .int qn, .int qf, .ref op_, .int (iZ ((li2 ++ dg kd1 (v2 1)).length : Int))])), (ow, .inl (cI, 108000, .inl fx2)), (om, .inl (cI, 9, .inl fy2)), (op_, .inl (cI, 22000, .inl fq3))] H := hP
            have hD : va_D A [(oh, .inl (cI, 10000, .inl fh)), (og, .inl (cI, 32, .inl fs)), (on_, .inl (cI, 32, .inl fn)), (ok_, .inl (cI, 166400, .inl fk)), (oK, .inl (cI, 64, .inl fK)), (mo, .inr (8, [.int (iZ 0), .int (iZ (np : Int)), .ref ow, .ref om, .ref ok_, .ref oK, .ref og, .ref on_, .ref oh, .ref ox, .int qn, .int qf, .ref op_, .int (iZ ((li2 ++ dg kd1 (v2 1)).length : Int))])), (ow, .inl (cI, 108000, .inl fx2)), (om, .inl (cI, 9, .inl fy2)), (op_, .inl (cI, 22000, .inl fq3))] := hD
            show W p l e R s m args below meth c H locs _ _ Q (F0 m 141 ls [])
            rw [e1] at p4 p5
            rw [e1] at hP hD
            obtain ⟨li3, hli3⟩ : ∃ l : List Nat, l = li2 ++ dg kd1 (bv a) := ⟨_, rfl⟩
            rw [← hli3] at p4 hP hD
            refine lv_aload_n hx hb d_Mo_print_141 rfl (lv_at hl 0 rfl) ?_
            refine va_get (D := D) (ci := 8) (v := .int (iZ (li3.length : Int))) (C := R_Mo) (T := F_Mo) (N := 14) hx hb hts i_Mo hown hK hP 5 rfl rfl 13 (by decide) (hts _ (big_in mw_1128 rfl)) (fun _ h9 => h9) rfl d_Mo_print_142 ?_
            have hP9 : va_P D cls0 [(mo, .inr (8, [.int (iZ 0), .int (iZ (np : Int)), .ref ow, .ref om, .ref ok_, .ref oK, .ref og, .ref on_, .ref oh, .ref ox, .int qn, .int qf, .ref op_, .int (iZ (li3.length : Int))])), (ow, .inl (cI, 108000, .inl fx2)), (om, .inl (cI, 9, .inl fy2)), (oh, .inl (cI, 10000, .inl fh)), (ok_, .inl (cI, 166400, .inl fk)), (oK, .inl (cI, 64, .inl fK)), (og, .inl (cI, 32, .inl fs)), (on_, .inl (cI, 32, .inl fn)), (op_, .inl (cI, 22000, .inl fq3))] H := hP.sub [5, 6, 7, 0, 3, 4, 1, 2, 8] rfl
            have hD9 : va_D A [(mo, .inr (8, [.int (iZ 0), .int (iZ (np : Int)), .ref ow, .ref om, .ref ok_, .ref oK, .ref og, .ref on_, .ref oh, .ref ox, .int qn, .int qf, .ref op_, .int (iZ (li3.length : Int))])), (ow, .inl (cI, 108000, .inl fx2)), (om, .inl (cI, 9, .inl fy2)), (oh, .inl (cI, 10000, .inl fh)), (ok_, .inl (cI, 166400, .inl fk)), (oK, .inl (cI, 64, .inl fK)), (og, .inl (cI, 32, .inl fs)), (on_, .inl (cI, 32, .inl fn)), (op_, .inl (cI, 22000, .inl fq3))] := hD.sub [5, 6, 7, 0, 3, 4, 1, 2, 8] (by decide) rfl
            rw [hQ, ← hAe]
            refine r_i (v := (iZ (li3.length : Int))) K ((li3.length : Int), fx2, fy2, fq3, v2, kd0, kd1) hS d_Mo_print_145 ?_ (fun t ht hv => ?_)
            · try dsimp only
              have t0 : 0 < tv a := nd_pos.mp (by omega)
              have kD : IsD (tv a) kd0 := by rcases p2 with z | z; omega; exact z.2
              have b1 : bv a ≠ 1 := bv_two (by omega)
              have eT : ((if sg a < 0 then ([45] : List Nat) else []) ++ (dg kd0 (tv a) ++ (if bv a = 1 then [] else 47 :: dg kd1 (bv a)))) = li3 := by
                rw [if_neg (by omega), if_neg b1]
                rw [hli3, hli2, hli1, hli0]
                simp
              refine ⟨rfl, ?_, w2, ?_, ?_, ?_⟩
              · rw [eT]
              · rw [eT]; exact p4
              · exact kD
              · intro _; rcases p5 with z | z; omega; exact z.2
            · exact ⟨by rw [ht]; exact hP9, va_K.moved hv hK, by rw [← hAe]; exact hD9⟩
      · refine lv_aload_n hx hb d_Mo_print_75 rfl (lv_at hl 0 rfl) ?_
        refine va_get (D := D) (ci := 8) (v := .ref op_) (C := R_Mo) (T := F_Mo) (N := 14) hx hb hts i_Mo hown hK hP 4 rfl rfl 12 (by decide) (hts _ (big_in mw_1127 rfl)) (fun _ h9 => h9) rfl d_Mo_print_76 ?_
        refine lv_iconst (v := iZ (0)) hx hb d_Mo_print_79 (by decide +kernel) ?_
        refine lv_bipush (v := iZ (48)) hx hb d_Mo_print_80 (by decide +kernel) ?_
        refine zz_iast hx hb hK hP hD hS 3 0 rfl rfl (0) (by omega) (by omega) (by omega) d_Mo_print_82 (fun H locs hP hD hS => ?_)
        have hP : va_P D cls0 [(oh, .inl (cI, 10000, .inl fh)), (og, .inl (cI, 32, .inl fs)), (on_, .inl (cI, 32, .inl fn)), (op_, .inl (cI, 22000, .inl (upd fq 0 (iZ 48)))), (mo, .inr (8, [.int (iZ 0), .int (iZ (np : Int)), .ref ow, .ref om, .ref ok_, .ref oK, .ref og, .ref on_, .ref oh, .ref ox, .int qn, .int qf, .ref op_, .int (iZ 0)])), (ow, .inl (cI, 108000, .inl fx2)), (om, .inl (cI, 9, .inl fy2)), (ok_, .inl (cI, 166400, .inl fk)), (oK, .inl (cI, 64, .inl fK))] H := hP
        have hD : va_D A [(oh, .inl (cI, 10000, .inl fh)), (og, .inl (cI, 32, .inl fs)), (on_, .inl (cI, 32, .inl fn)), (op_, .inl (cI, 22000, .inl (upd fq 0 (iZ 48)))), (mo, .inr (8, [.int (iZ 0), .int (iZ (np : Int)), .ref ow, .ref om, .ref ok_, .ref oK, .ref og, .ref on_, .ref oh, .ref ox, .int qn, .int qf, .ref op_, .int (iZ 0)])), (ow, .inl (cI, 108000, .inl fx2)), (om, .inl (cI, 9, .inl fy2)), (ok_, .inl (cI, 166400, .inl fk)), (oK, .inl (cI, 64, .inl fK))] := hD
        refine lv_aload_n hx hb d_Mo_print_83 rfl (lv_at hl 0 rfl) ?_
        refine lv_iconst (v := iZ (1)) hx hb d_Mo_print_84 (by decide +kernel) ?_
        refine va_put (D := D) (ci := 8) (v := .int (iZ 1)) (ty := .int) (C := R_Mo) (T := F_Mo) (N := 14) hx hb hts i_Mo t_Mo t_Mo_ok n_Mo hown hK hP hD hS 4 rfl rfl 13 (by decide) (hts _ (big_in mw_1128 rfl)) (fun _ h9 => h9) rfl (by decide +kernel) rfl rfl (Nat.le_of_ble_eq_true rfl) d_Mo_print_85 (fun H locs hP hD hS => ?_)
        have hP : va_P D cls0 [(oh, .inl (cI, 10000, .inl fh)), (og, .inl (cI, 32, .inl fs)), (on_, .inl (cI, 32, .inl fn)), (op_, .inl (cI, 22000, .inl (upd fq 0 (iZ 48)))), (mo, .inr (8, [.int (iZ 0), .int (iZ (np : Int)), .ref ow, .ref om, .ref ok_, .ref oK, .ref og, .ref on_, .ref oh, .ref ox, .int qn, .int qf, .ref op_, .int (iZ 1)])), (ow, .inl (cI, 108000, .inl fx2)), (om, .inl (cI, 9, .inl fy2)), (ok_, .inl (cI, 166400, .inl fk)), (oK, .inl (cI, 64, .inl fK))] H := hP
        have hD : va_D A [(oh, .inl (cI, 10000, .inl fh)), (og, .inl (cI, 32, .inl fs)), (on_, .inl (cI, 32, .inl fn)), (op_, .inl (cI, 22000, .inl (upd fq 0 (iZ 48)))), (mo, .inr (8, [.int (iZ 0), .int (iZ (np : Int)), .ref ow, .ref om, .ref ok_, .ref oK, .ref og, .ref on_, .ref oh, .ref ox, .int qn, .int qf, .ref op_, .int (iZ 1)])), (ow, .inl (cI, 108000, .inl fx2)), (om, .inl (cI, 9, .inl fy2)), (ok_, .inl (cI, 166400, .inl fk)), (oK, .inl (cI, 64, .inl fK))] := hD
        refine lv_aload_n hx hb d_Mo_print_88 rfl (lv_at hl 0 rfl) ?_
        refine lv_iconst (v := iZ (0)) hx hb d_Mo_print_89 (by decide +kernel) ?_
        obtain ⟨li0, hli0⟩ : ∃ l : List Nat, l = [48] := ⟨_, rfl⟩
        have hl0 : li0.length = 1 := by rw [hli0]; rfl
        have p0 : PX (upd fq 0 (iZ 48)) li0 := by rw [hli0]; exact (PX.nil _).put (ch := 48) rfl
        have hP : va_P D cls0 [(oh, .inl (cI, 10000, .inl fh)), (og, .inl (cI, 32, .inl fs)), (on_, .inl (cI, 32, .inl fn)), (op_, .inl (cI, 22000, .inl (upd fq 0 (iZ 48)))), (mo, .inr (8, [.int (iZ 0), .int (iZ (np : Int)), .ref ow, .ref om, .ref ok_, .ref oK, .ref og, .ref on_, .ref oh, .ref ox, .int qn, .int qf, .ref op_, .int (iZ (li0.length : Int))])), (ow, .inl (cI, 108000, .inl fx2)), (om, .inl (cI, 9, .inl fy2)), (ok_, .inl (cI, 166400, .inl fk)), (oK, .inl (cI, 64, .inl fK))] H := by rw [show (li0.length : Int) = 1 by omega]; exact hP
        have hD : va_D A [(oh, .inl (cI, 10000, .inl fh)), (og, .inl (cI, 32, .inl fs)), (on_, .inl (cI, 32, .inl fn)), (op_, .inl (cI, 22000, .inl (upd fq 0 (iZ 48)))), (mo, .inr (8, [.int (iZ 0), .int (iZ (np : Int)), .ref ow, .ref om, .ref ok_, .ref oK, .ref og, .ref on_, .ref oh, .ref ox, .int qn, .int qf, .ref op_, .int (iZ (li0.length : Int))])), (ow, .inl (cI, 108000, .inl fx2)), (om, .inl (cI, 9, .inl fy2)), (ok_, .inl (cI, 166400, .inl fk)), (oK, .inl (cI, 64, .inl fK))] := by rw [show (li0.length : Int) = 1 by omega]; exact hD
        refine cv (n := 1) (wr := [(oh, .inl (cI, 10000, .inl fh)), (og, .inl (cI, 32, .inl fs)), (on_, .inl (cI, 32, .inl fn)), (ok_, .inl (cI, 166400, .inl fk)), (oK, .inl (cI, 64, .inl fK))]) (w1 := (fun (u : (Nat → Int32) × Nat) => [(mo, .inr (8, [.int (iZ 0), .int (iZ (np : Int)), .ref ow, .ref om, .ref ok_, .ref oK, .ref og, .ref on_, .ref oh, .ref ox, .int qn, .int qf, .ref op_, .int (iZ ((li0 ++ dg u.2 (v2 0)).length : Int))])), (ow, .inl (cI, 108000, .inl fx2)), (om, .inl (cI, 9, .inl fy2)), (op_, .inl (cI, 22000, .inl u.1))])) (As := [.int (iZ 0)]) (rest := []) K hP hD hK hS hA hl.1 (c_Mo_say l D mo (iZ 0) np ow om ok_ oK og on_ oh ox qn qf op_ fx2 fy2 cI (upd fq 0 (iZ 48)) v2 li0 0 H.size w2 p0 (by omega) (by decide) (by rw [e0]; omega)) [4, 5, 6, 3] [0, 1, 2, 7, 8] [0] rfl rfl rfl (by decide) (by decide) (by decide) 0 rfl rfl (big_in mw_1396 rfl) (big_in mw_10 rfl) (big_in mw_1393 rfl) (big_in mw_1395 rfl) (big_in sp_51 rfl) rfl rfl (by decide +kernel) ⟨by rw [hR]; exact Nat.le_of_ble_eq_true rfl, by rw [hR]; exact Nat.le_of_ble_eq_true rfl⟩ rfl (Nat.le_of_ble_eq_true rfl) d_Mo_print_90 ⟨by rw [hR]; exact Nat.le_of_ble_eq_true rfl, by rw [hR]; exact Nat.le_of_ble_eq_true rfl⟩ rfl (fun v u H locs hp8 hP hD hS _ => ?_)
        obtain ⟨fq1, kd0⟩ := u
        try dsimp only at hp8
        obtain ⟨rfl, p1, p2⟩ := hp8
        have hP : va_P D cls0 [(oh, .inl (cI, 10000, .inl fh)), (og, .inl (cI, 32, .inl fs)), (on_, .inl (cI, 32, .inl fn)), (ok_, .inl (cI, 166400, .inl fk)), (oK, .inl (cI, 64, .inl fK)), (mo, .inr (8, [.int (iZ 0), .int (iZ (np : Int)), .ref ow, .ref om, .ref ok_, .ref oK, .ref og, .ref on_, .ref oh, .ref ox, .int qn, .int qf, .ref op_, .int (iZ ((li0 ++ dg kd0 (v2 0)).length : Int))])), (ow, .inl (cI, 108000, .inl fx2)), (om, .inl (cI, 9, .inl fy2)), (op_, .inl (cI, 22000, .inl fq1))] H := hP
        have hD : va_D A [(oh, .inl (cI, 10000, .inl fh)), (og, .inl (cI, 32, .inl fs)), (on_, .inl (cI, 32, .inl fn)), (ok_, .inl (cI, 166400, .inl fk)), (oK, .inl (cI, 64, .inl fK)), (mo, .inr (8, [.int (iZ 0), .int (iZ (np : Int)), .ref ow, .ref om, .ref ok_, .ref oK, .ref og, .ref on_, .ref oh, .ref ox, .int qn, .int qf, .ref op_, .int (iZ ((li0 ++ dg kd0 (v2 0)).length : Int))])), (ow, .inl (cI, 108000, .inl fx2)), (om, .inl (cI, 9, .inl fy2)), (op_, .inl (cI, 22000, .inl fq1))] := hD
        show W p l e R s m args below meth c H locs _ _ Q (F0 m 93 ls [])
        rw [e0] at p1 p2
        rw [e0] at hP hD
        obtain ⟨li1, hli1⟩ : ∃ l : List Nat, l = li0 ++ dg kd0 (tv a) := ⟨_, rfl⟩
        rw [← hli1] at p1 hP hD
        have hl1 : li1.length = li0.length + kd0 := by rw [hli1, List.length_append, dg_len]
        have bk : kd0 ≤ 4 * nd (tv a) + 1 := by rcases p2 with z | z; omega; exact IsD_nd z.2
        refine lv_aload_n hx hb d_Mo_print_93 rfl (lv_at hl 0 rfl) ?_
        refine va_get (D := D) (ci := 8) (v := .ref om) (C := R_Mo) (T := F_Mo) (N := 14) hx hb hts i_Mo hown hK hP 5 rfl rfl 3 (by decide) (hts _ (big_in mw_1118 rfl)) (fun _ h9 => h9) rfl d_Mo_print_94 ?_
        refine lv_iconst (v := iZ (1)) hx hb d_Mo_print_97 (by decide +kernel) ?_
        refine zz_iald hx hb hK hP 7 0 rfl rfl (1) (by omega) (by omega) (by omega) d_Mo_print_98 ?_
        rw [w2.m (by decide), e1]
        refine lv_iconst (v := iZ (1)) hx hb d_Mo_print_99 (by decide +kernel) ?_
        refine zz_icmp_gt (tgt := 115) hx hb d_Mo_print_100 (by decide) (by omega) (by omega) (fun c100 => ?_) (fun c100 => ?_)
        · refine lv_aload_n hx hb d_Mo_print_115 rfl (lv_at hl 0 rfl) ?_
          refine va_get (D := D) (ci := 8) (v := .ref op_) (C := R_Mo) (T := F_Mo) (N := 14) hx hb hts i_Mo hown hK hP 5 rfl rfl 12 (by decide) (hts _ (big_in mw_1127 rfl)) (fun _ h9 => h9) rfl d_Mo_print_116 ?_
          refine lv_aload_n hx hb d_Mo_print_119 rfl (lv_at hl 0 rfl) ?_
          refine va_get (D := D) (ci := 8) (v := .int (iZ (li1.length : Int))) (C := R_Mo) (T := F_Mo) (N := 14) hx hb hts i_Mo hown hK hP 5 rfl rfl 13 (by decide) (hts _ (big_in mw_1128 rfl)) (fun _ h9 => h9) rfl d_Mo_print_120 ?_
          refine lv_bipush (v := iZ (47)) hx hb d_Mo_print_123 (by decide +kernel) ?_
          refine zz_iast hx hb hK hP hD hS 8 0 rfl rfl (li1.length) (by omega) (by omega) (by omega) d_Mo_print_125 (fun H locs hP hD hS => ?_)
          have hP : va_P D cls0 [(oh, .inl (cI, 10000, .inl fh)), (og, .inl (cI, 32, .inl fs)), (on_, .inl (cI, 32, .inl fn)), (ok_, .inl (cI, 166400, .inl fk)), (oK, .inl (cI, 64, .inl fK)), (mo, .inr (8, [.int (iZ 0), .int (iZ (np : Int)), .ref ow, .ref om, .ref ok_, .ref oK, .ref og, .ref on_, .ref oh, .ref ox, .int qn, .int qf, .ref op_, .int (iZ (li1.length : Int))])), (ow, .inl (cI, 108000, .inl fx2)), (om, .inl (cI, 9, .inl fy2)), (op_, .inl (cI, 22000, .inl (upd fq1 li1.length (iZ 47))))] H := hP
          have hD : va_D A [(oh, .inl (cI, 10000, .inl fh)), (og, .inl (cI, 32, .inl fs)), (on_, .inl (cI, 32, .inl fn)), (ok_, .inl (cI, 166400, .inl fk)), (oK, .inl (cI, 64, .inl fK)), (mo, .inr (8, [.int (iZ 0), .int (iZ (np : Int)), .ref ow, .ref om, .ref ok_, .ref oK, .ref og, .ref on_, .ref oh, .ref ox, .int qn, .int qf, .ref op_, .int (iZ (li1.length : Int))])), (ow, .inl (cI, 108000, .inl fx2)), (om, .inl (cI, 9, .inl fy2)), (op_, .inl (cI, 22000, .inl (upd fq1 li1.length (iZ 47))))] := hD
          refine lv_aload_n hx hb d_Mo_print_126 rfl (lv_at hl 0 rfl) ?_
          refine lv_dup hx hb d_Mo_print_127 rfl ?_
          refine va_get (D := D) (ci := 8) (v := .int (iZ (li1.length : Int))) (C := R_Mo) (T := F_Mo) (N := 14) hx hb hts i_Mo hown hK hP 5 rfl rfl 13 (by decide) (hts _ (big_in mw_1128 rfl)) (fun _ h9 => h9) rfl d_Mo_print_128 ?_
          refine lv_iconst (v := iZ (1)) hx hb d_Mo_print_131 (by decide +kernel) ?_
          refine zz_iadd hx hb d_Mo_print_132 ?_
          refine va_put (D := D) (ci := 8) (v := .int (iZ ((li1.length : Int) + 1))) (ty := .int) (C := R_Mo) (T := F_Mo) (N := 14) hx hb hts i_Mo t_Mo t_Mo_ok n_Mo hown hK hP hD hS 5 rfl rfl 13 (by decide) (hts _ (big_in mw_1128 rfl)) (fun _ h9 => h9) rfl (by decide +kernel) rfl rfl (Nat.le_of_ble_eq_true rfl) d_Mo_print_133 (fun H locs hP hD hS => ?_)
          have hP : va_P D cls0 [(oh, .inl (cI, 10000, .inl fh)), (og, .inl (cI, 32, .inl fs)), (on_, .inl (cI, 32, .inl fn)), (ok_, .inl (cI, 166400, .inl fk)), (oK, .inl (cI, 64, .inl fK)), (mo, .inr (8, [.int (iZ 0), .int (iZ (np : Int)), .ref ow, .ref om, .ref ok_, .ref oK, .ref og, .ref on_, .ref oh, .ref ox, .int qn, .int qf, .ref op_, .int (iZ ((li1.length : Int) + 1))])), (ow, .inl (cI, 108000, .inl fx2)), (om, .inl (cI, 9, .inl fy2)), (op_, .inl (cI, 22000, .inl (upd fq1 li1.length (iZ 47))))] H := hP
          have hD : va_D A [(oh, .inl (cI, 10000, .inl fh)), (og, .inl (cI, 32, .inl fs)), (on_, .inl (cI, 32, .inl fn)), (ok_, .inl (cI, 166400, .inl fk)), (oK, .inl (cI, 64, .inl fK)), (mo, .inr (8, [.int (iZ 0), .int (iZ (np : Int)), .ref ow, .ref om, .ref ok_, .ref oK, .ref og, .ref on_, .ref oh, .ref ox, .int qn, .int qf, .ref op_, .int (iZ ((li1.length : Int) + 1))])), (ow, .inl (cI, 108000, .inl fx2)), (om, .inl (cI, 9, .inl fy2)), (op_, .inl (cI, 22000, .inl (upd fq1 li1.length (iZ 47))))] := hD
          refine lv_aload_n hx hb d_Mo_print_136 rfl (lv_at hl 0 rfl) ?_
          refine lv_iconst (v := iZ (1)) hx hb d_Mo_print_137 (by decide +kernel) ?_
          obtain ⟨li2, hli2⟩ : ∃ l : List Nat, l = li1 ++ [47] := ⟨_, rfl⟩
          have hl2 : li2.length = li1.length + 1 := by rw [hli2, List.length_append]; rfl
          have p3 : PX (upd fq1 li1.length (iZ 47)) li2 := by rw [hli2]; exact p1.put rfl
          rw [show ((li1.length : Int) + 1 : Int) = (li2.length : Int) by omega] at hP hD
          refine cv (n := 1) (wr := [(oh, .inl (cI, 10000, .inl fh)), (og, .inl (cI, 32, .inl fs)), (on_, .inl (cI, 32, .inl fn)), (ok_, .inl (cI, 166400, .inl fk)), (oK, .inl (cI, 64, .inl fK))]) (w1 := (fun (u : (Nat → Int32) × Nat) => [(mo, .inr (8, [.int (iZ 0), .int (iZ (np : Int)), .ref ow, .ref om, .ref ok_, .ref oK, .ref og, .ref on_, .ref oh, .ref ox, .int qn, .int qf, .ref op_, .int (iZ ((li2 ++ dg u.2 (v2 1)).length : Int))])), (ow, .inl (cI, 108000, .inl fx2)), (om, .inl (cI, 9, .inl fy2)), (op_, .inl (cI, 22000, .inl u.1))])) (As := [.int (iZ 1)]) (rest := []) K hP hD hK hS hA hl.1 (c_Mo_say l D mo (iZ 0) np ow om ok_ oK og on_ oh ox qn qf op_ fx2 fy2 cI (upd fq1 li1.length (iZ 47)) v2 li2 1 H.size w2 p3 (by omega) (by decide) (by rw [e1]; omega)) [5, 6, 7, 8] [0, 1, 2, 3, 4] [0] rfl rfl rfl (by decide) (by decide) (by decide) 0 rfl rfl (big_in mw_1396 rfl) (big_in mw_10 rfl) (big_in mw_1393 rfl) (big_in mw_1395 rfl) (big_in sp_51 rfl) rfl rfl (by decide +kernel) ⟨by rw [hR]; exact Nat.le_of_ble_eq_true rfl, by rw [hR]; exact Nat.le_of_ble_eq_true rfl⟩ rfl (Nat.le_of_ble_eq_true rfl) d_Mo_print_138 ⟨by rw [hR]; exact Nat.le_of_ble_eq_true rfl, by rw [hR]; exact Nat.le_of_ble_eq_true rfl⟩ rfl (fun v u H locs hp9 hP hD hS _ => ?_)
          obtain ⟨fq3, kd1⟩ := u
          try dsimp only at hp9
          obtain ⟨rfl, p4, p5⟩ := hp9
          have hP : va_P D cls0 [(oh, .inl (cI, 10000, .inl fh)), (og, .inl (cI, 32, .inl fs)), (on_, .inl (cI, 32, .inl fn)), (ok_, .inl (cI, 166400, .inl fk)), (oK, .inl (cI, 64, .inl fK)), (mo, .inr (8, [.int (iZ 0), .int (iZ (np : Int)), .ref ow, .ref om, .ref ok_, .ref oK, .ref og, .ref on_, .ref oh, .ref ox, .int qn, .int qf, .ref op_, .int (iZ ((li2 ++ dg kd1 (v2 1)).length : Int))])), (ow, .inl (cI, 108000, .inl fx2)), (om, .inl (cI, 9, .inl fy2)), (op_, .inl (cI, 22000, .inl fq3))] H := hP
          have hD : va_D A [(oh, .inl (cI, 10000, .inl fh)), (og, .inl (cI, 32, .inl fs)), (on_, .inl (cI, 32, .inl fn)), (ok_, .inl (cI, 166400, .inl fk)), (oK, .inl (cI, 64, .inl fK)), (mo, .inr (8, [.int (iZ 0), .int (iZ (np : Int)), .ref ow, .ref om, .ref ok_, .ref oK, .ref og, .ref on_, .ref oh, .ref ox, .int qn, .int qf, .ref op_, .int (iZ ((li2 ++ dg kd1 (v2 1)).length : Int))])), (ow, .inl (cI, 108000, .inl fx2)), (om, .inl (cI, 9, .inl fy2)), (op_, .inl (cI, 22000, .inl fq3))] := hD
          show W p l e R s m args below meth c H locs _ _ Q (F0 m 141 ls [])
          rw [e1] at p4 p5
          rw [e1] at hP hD
          obtain ⟨li3, hli3⟩ : ∃ l : List Nat, l = li2 ++ dg kd1 (bv a) := ⟨_, rfl⟩
          rw [← hli3] at p4 hP hD
          refine lv_aload_n hx hb d_Mo_print_141 rfl (lv_at hl 0 rfl) ?_
          refine va_get (D := D) (ci := 8) (v := .int (iZ (li3.length : Int))) (C := R_Mo) (T := F_Mo) (N := 14) hx hb hts i_Mo hown hK hP 5 rfl rfl 13 (by decide) (hts _ (big_in mw_1128 rfl)) (fun _ h9 => h9) rfl d_Mo_print_142 ?_
          have hP9 : va_P D cls0 [(mo, .inr (8, [.int (iZ 0), .int (iZ (np : Int)), .ref ow, .ref om, .ref ok_, .ref oK, .ref og, .ref on_, .ref oh, .ref ox, .int qn, .int qf, .ref op_, .int (iZ (li3.length : Int))])), (ow, .inl (cI, 108000, .inl fx2)), (om, .inl (cI, 9, .inl fy2)), (oh, .inl (cI, 10000, .inl fh)), (ok_, .inl (cI, 166400, .inl fk)), (oK, .inl (cI, 64, .inl fK)), (og, .inl (cI, 32, .inl fs)), (on_, .inl (cI, 32, .inl fn)), (op_, .inl (cI, 22000, .inl fq3))] H := hP.sub [5, 6, 7, 0, 3, 4, 1, 2, 8] rfl
          have hD9 : va_D A [(mo, .inr (8, [.int (iZ 0), .int (iZ (np : Int)), .ref ow, .ref om, .ref ok_, .ref oK, .ref og, .ref on_, .ref oh, .ref ox, .int qn, .int qf, .ref op_, .int (iZ (li3.length : Int))])), (ow, .inl (cI, 108000, .inl fx2)), (om, .inl (cI, 9, .inl fy2)), (oh, .inl (cI, 10000, .inl fh)), (ok_, .inl (cI, 166400, .inl fk)), (oK, .inl (cI, 64, .inl fK)), (og, .inl (cI, 32, .inl fs)), (on_, .inl (cI, 32, .inl fn)), (op_, .inl (cI, 22000, .inl fq3))] := hD.sub [5, 6, 7, 0, 3, 4, 1, 2, 8] (by decide) rfl
          rw [hQ, ← hAe]
          refine r_i (v := (iZ (li3.length : Int))) K ((li3.length : Int), fx2, fy2, fq3, v2, 1, kd1) hS d_Mo_print_145 ?_ (fun t ht hv => ?_)
          · try dsimp only
            have t0 : tv a = 0 := Nat.eq_zero_of_not_pos (fun z => by have y := nd_pos.mpr z; omega)
            have kd00 : kd0 = 0 := by rcases p2 with z | z; exact z.2; omega
            have s0 : sg a = 0 := ja2.mpr t0
            have b1 : bv a ≠ 1 := bv_two (by omega)
            have eT : ((if sg a < 0 then ([45] : List Nat) else []) ++ (dg 1 (tv a) ++ (if bv a = 1 then [] else 47 :: dg kd1 (bv a)))) = li3 := by
              rw [if_neg (by omega), if_neg b1]
              rw [hli3, hli2, hli1, hli0, t0, kd00]
              simp [dg]
            refine ⟨rfl, ?_, w2, ?_, ?_, ?_⟩
            · rw [eT]
            · rw [eT]; exact p4
            · rw [t0]; exact ⟨by decide, by decide, Or.inl rfl⟩
            · intro _; rcases p5 with z | z; omega; exact z.2
          · exact ⟨by rw [ht]; exact hP9, va_K.moved hv hK, by rw [← hAe]; exact hD9⟩
        · have dbb := dz_lt (bv a) 0
          have npb := nd_pos.mpr pa
          refine lv_aload_n hx hb d_Mo_print_103 rfl (lv_at hl 0 rfl) ?_
          refine va_get (D := D) (ci := 8) (v := .ref ow) (C := R_Mo) (T := F_Mo) (N := 14) hx hb hts i_Mo hown hK hP 5 rfl rfl 2 (by decide) (hts _ (big_in mw_1117 rfl)) (fun _ h9 => h9) rfl d_Mo_print_104 ?_
          refine lv_sipush (v := iZ (12000)) hx hb d_Mo_print_107 (by decide +kernel) ?_
          refine zz_iald hx hb hK hP 6 0 rfl rfl (12000 * 1 + 0) (by omega) (by omega) (by omega) d_Mo_print_110 ?_
          rw [w2.d (b := 1) (i := 0) (by decide) (by rw [e1]; omega), e1]
          refine lv_iconst (v := iZ (1)) hx hb d_Mo_print_111 (by decide +kernel) ?_
          refine zz_icmp_le (tgt := 141) hx hb d_Mo_print_112 (by decide) (by omega) (by omega) (fun c112 => ?_) (fun c112 => ?_)
          · refine lv_aload_n hx hb d_Mo_print_141 rfl (lv_at hl 0 rfl) ?_
            refine va_get (D := D) (ci := 8) (v := .int (iZ (li1.length : Int))) (C := R_Mo) (T := F_Mo) (N := 14) hx hb hts i_Mo hown hK hP 5 rfl rfl 13 (by decide) (hts _ (big_in mw_1128 rfl)) (fun _ h9 => h9) rfl d_Mo_print_142 ?_
            have hP9 : va_P D cls0 [(mo, .inr (8, [.int (iZ 0), .int (iZ (np : Int)), .ref ow, .ref om, .ref ok_, .ref oK, .ref og, .ref on_, .ref oh, .ref ox, .int qn, .int qf, .ref op_, .int (iZ (li1.length : Int))])), (ow, .inl (cI, 108000, .inl fx2)), (om, .inl (cI, 9, .inl fy2)), (oh, .inl (cI, 10000, .inl fh)), (ok_, .inl (cI, 166400, .inl fk)), (oK, .inl (cI, 64, .inl fK)), (og, .inl (cI, 32, .inl fs)), (on_, .inl (cI, 32, .inl fn)), (op_, .inl (cI, 22000, .inl fq1))] H := hP.sub [5, 6, 7, 0, 3, 4, 1, 2, 8] rfl
            have hD9 : va_D A [(mo, .inr (8, [.int (iZ 0), .int (iZ (np : Int)), .ref ow, .ref om, .ref ok_, .ref oK, .ref og, .ref on_, .ref oh, .ref ox, .int qn, .int qf, .ref op_, .int (iZ (li1.length : Int))])), (ow, .inl (cI, 108000, .inl fx2)), (om, .inl (cI, 9, .inl fy2)), (oh, .inl (cI, 10000, .inl fh)), (ok_, .inl (cI, 166400, .inl fk)), (oK, .inl (cI, 64, .inl fK)), (og, .inl (cI, 32, .inl fs)), (on_, .inl (cI, 32, .inl fn)), (op_, .inl (cI, 22000, .inl fq1))] := hD.sub [5, 6, 7, 0, 3, 4, 1, 2, 8] (by decide) rfl
            rw [hQ, ← hAe]
            refine r_i (v := (iZ (li1.length : Int))) K ((li1.length : Int), fx2, fy2, fq1, v2, 1, 0) hS d_Mo_print_145 ?_ (fun t ht hv => ?_)
            · try dsimp only
              have t0 : tv a = 0 := Nat.eq_zero_of_not_pos (fun z => by have y := nd_pos.mpr z; omega)
              have kd00 : kd0 = 0 := by rcases p2 with z | z; exact z.2; omega
              have s0 : sg a = 0 := ja2.mpr t0
              have b1 : bv a = 1 := bv_one pa (by omega) (by omega)
              have eT : ((if sg a < 0 then ([45] : List Nat) else []) ++ (dg 1 (tv a) ++ (if bv a = 1 then [] else 47 :: dg 0 (bv a)))) = li1 := by
                rw [if_neg (by omega), if_pos b1]
                rw [hli1, hli0, t0, kd00]
                simp [dg]
              refine ⟨rfl, ?_, w2, ?_, ?_, ?_⟩
              · rw [eT]
              · rw [eT]; exact p1
              · rw [t0]; exact ⟨by decide, by decide, Or.inl rfl⟩
              · intro z; exact absurd b1 z
            · exact ⟨by rw [ht]; exact hP9, va_K.moved hv hK, by rw [← hAe]; exact hD9⟩
          · refine lv_aload_n hx hb d_Mo_print_115 rfl (lv_at hl 0 rfl) ?_
            refine va_get (D := D) (ci := 8) (v := .ref op_) (C := R_Mo) (T := F_Mo) (N := 14) hx hb hts i_Mo hown hK hP 5 rfl rfl 12 (by decide) (hts _ (big_in mw_1127 rfl)) (fun _ h9 => h9) rfl d_Mo_print_116 ?_
            refine lv_aload_n hx hb d_Mo_print_119 rfl (lv_at hl 0 rfl) ?_
            refine va_get (D := D) (ci := 8) (v := .int (iZ (li1.length : Int))) (C := R_Mo) (T := F_Mo) (N := 14) hx hb hts i_Mo hown hK hP 5 rfl rfl 13 (by decide) (hts _ (big_in mw_1128 rfl)) (fun _ h9 => h9) rfl d_Mo_print_120 ?_
            refine lv_bipush (v := iZ (47)) hx hb d_Mo_print_123 (by decide +kernel) ?_
            refine zz_iast hx hb hK hP hD hS 8 0 rfl rfl (li1.length) (by omega) (by omega) (by omega) d_Mo_print_125 (fun H locs hP hD hS => ?_)
            have hP : va_P D cls0 [(oh, .inl (cI, 10000, .inl fh)), (og, .inl (cI, 32, .inl fs)), (on_, .inl (cI, 32, .inl fn)), (ok_, .inl (cI, 166400, .inl fk)), (oK, .inl (cI, 64, .inl fK)), (mo, .inr (8, [.int (iZ 0), .int (iZ (np : Int)), .ref ow, .ref om, .ref ok_, .ref oK, .ref og, .ref on_, .ref oh, .ref ox, .int qn, .int qf, .ref op_, .int (iZ (li1.length : Int))])), (ow, .inl (cI, 108000, .inl fx2)), (om, .inl (cI, 9, .inl fy2)), (op_, .inl (cI, 22000, .inl (upd fq1 li1.length (iZ 47))))] H := hP
            have hD : va_D A [(oh, .inl (cI, 10000, .inl fh)), (og, .inl (cI, 32, .inl fs)), (on_, .inl (cI, 32, .inl fn)), (ok_, .inl (cI, 166400, .inl fk)), (oK, .inl (cI, 64, .inl fK)), (mo, .inr (8, [.int (iZ 0), .int (iZ (np : Int)), .ref ow, .ref om, .ref ok_, .ref oK, .ref og, .ref on_, .ref oh, .ref ox, .int qn, .int qf, .ref op_, .int (iZ (li1.length : Int))])), (ow, .inl (cI, 108000, .inl fx2)), (om, .inl (cI, 9, .inl fy2)), (op_, .inl (cI, 22000, .inl (upd fq1 li1.length (iZ 47))))] := hD
            refine lv_aload_n hx hb d_Mo_print_126 rfl (lv_at hl 0 rfl) ?_
            refine lv_dup hx hb d_Mo_print_127 rfl ?_
            refine va_get (D := D) (ci := 8) (v := .int (iZ (li1.length : Int))) (C := R_Mo) (T := F_Mo) (N := 14) hx hb hts i_Mo hown hK hP 5 rfl rfl 13 (by decide) (hts _ (big_in mw_1128 rfl)) (fun _ h9 => h9) rfl d_Mo_print_128 ?_
            refine lv_iconst (v := iZ (1)) hx hb d_Mo_print_131 (by decide +kernel) ?_
            refine zz_iadd hx hb d_Mo_print_132 ?_
            refine va_put (D := D) (ci := 8) (v := .int (iZ ((li1.length : Int) + 1))) (ty := .int) (C := R_Mo) (T := F_Mo) (N := 14) hx hb hts i_Mo t_Mo t_Mo_ok n_Mo hown hK hP hD hS 5 rfl rfl 13 (by decide) (hts _ (big_in mw_1128 rfl)) (fun _ h9 => h9) rfl (by decide +kernel) rfl rfl (Nat.le_of_ble_eq_true rfl) d_Mo_print_133 (fun H locs hP hD hS => ?_)
            have hP : va_P D cls0 [(oh, .inl (cI, 10000, .inl fh)), (og, .inl (cI, 32, .inl fs)), (on_, .inl (cI, 32, .inl fn)), (ok_, .inl (cI, 166400, .inl fk)), (oK, .inl (cI, 64, .inl fK)), (mo, .inr (8, [.int (iZ 0), .int (iZ (np : Int)), .ref ow, .ref om, .ref ok_, .ref oK, .ref og, .ref on_, .ref oh, .ref ox, .int qn, .int qf, .ref op_, .int (iZ ((li1.length : Int) + 1))])), (ow, .inl (cI, 108000, .inl fx2)), (om, .inl (cI, 9, .inl fy2)), (op_, .inl (cI, 22000, .inl (upd fq1 li1.length (iZ 47))))] H := hP
            have hD : va_D A [(oh, .inl (cI, 10000, .inl fh)), (og, .inl (cI, 32, .inl fs)), (on_, .inl (cI, 32, .inl fn)), (ok_, .inl (cI, 166400, .inl fk)), (oK, .inl (cI, 64, .inl fK)), (mo, .inr (8, [.int (iZ 0), .int (iZ (np : Int)), .ref ow, .ref om, .ref ok_, .ref oK, .ref og, .ref on_, .ref oh, .ref ox, .int qn, .int qf, .ref op_, .int (iZ ((li1.length : Int) + 1))])), (ow, .inl (cI, 108000, .inl fx2)), (om, .inl (cI, 9, .inl fy2)), (op_, .inl (cI, 22000, .inl (upd fq1 li1.length (iZ 47))))] := hD
            refine lv_aload_n hx hb d_Mo_print_136 rfl (lv_at hl 0 rfl) ?_
            refine lv_iconst (v := iZ (1)) hx hb d_Mo_print_137 (by decide +kernel) ?_
            obtain ⟨li2, hli2⟩ : ∃ l : List Nat, l = li1 ++ [47] := ⟨_, rfl⟩
            have hl2 : li2.length = li1.length + 1 := by rw [hli2, List.length_append]; rfl
            have p3 : PX (upd fq1 li1.length (iZ 47)) li2 := by rw [hli2]; exact p1.put rfl
            rw [show ((li1.length : Int) + 1 : Int) = (li2.length : Int) by omega] at hP hD
            refine cv (n := 1) (wr := [(oh, .inl (cI, 10000, .inl fh)), (og, .inl (cI, 32, .inl fs)), (on_, .inl (cI, 32, .inl fn)), (ok_, .inl (cI, 166400, .inl fk)), (oK, .inl (cI, 64, .inl fK))]) (w1 := (fun (u : (Nat → Int32) × Nat) => [(mo, .inr (8, [.int (iZ 0), .int (iZ (np : Int)), .ref ow, .ref om, .ref ok_, .ref oK, .ref og, .ref on_, .ref oh, .ref ox, .int qn, .int qf, .ref op_, .int (iZ ((li2 ++ dg u.2 (v2 1)).length : Int))])), (ow, .inl (cI, 108000, .inl fx2)), (om, .inl (cI, 9, .inl fy2)), (op_, .inl (cI, 22000, .inl u.1))])) (As := [.int (iZ 1)]) (rest := []) K hP hD hK hS hA hl.1 (c_Mo_say l D mo (iZ 0) np ow om ok_ oK og on_ oh ox qn qf op_ fx2 fy2 cI (upd fq1 li1.length (iZ 47)) v2 li2 1 H.size w2 p3 (by omega) (by decide) (by rw [e1]; omega)) [5, 6, 7, 8] [0, 1, 2, 3, 4] [0] rfl rfl rfl (by decide) (by decide) (by decide) 0 rfl rfl (big_in mw_1396 rfl) (big_in mw_10 rfl) (big_in mw_1393 rfl) (big_in mw_1395 rfl) (big_in sp_51 rfl) rfl rfl (by decide +kernel) ⟨by rw [hR]; exact Nat.le_of_ble_eq_true rfl, by rw [hR]; exact Nat.le_of_ble_eq_true rfl⟩ rfl (Nat.le_of_ble_eq_true rfl) d_Mo_print_138 ⟨by rw [hR]; exact Nat.le_of_ble_eq_true rfl, by rw [hR]; exact Nat.le_of_ble_eq_true rfl⟩ rfl (fun v u H locs hp10 hP hD hS _ => ?_)
            obtain ⟨fq3, kd1⟩ := u
            try dsimp only at hp10
            obtain ⟨rfl, p4, p5⟩ := hp10
            have hP : va_P D cls0 [(oh, .inl (cI, 10000, .inl fh)), (og, .inl (cI, 32, .inl fs)), (on_, .inl (cI, 32, .inl fn)), (ok_, .inl (cI, 166400, .inl fk)), (oK, .inl (cI, 64, .inl fK)), (mo, .inr (8, [.int (iZ 0), .int (iZ (np : Int)), .ref ow, .ref om, .ref ok_, .ref oK, .ref og, .ref on_, .ref oh, .ref ox, .int qn, .int qf, .ref op_, .int (iZ ((li2 ++ dg kd1 (v2 1)).length : Int))])), (ow, .inl (cI, 108000, .inl fx2)), (om, .inl (cI, 9, .inl fy2)), (op_, .inl (cI, 22000, .inl fq3))] H := hP
            have hD : va_D A [(oh, .inl (cI, 10000, .inl fh)), (og, .inl (cI, 32, .inl fs)), (on_, .inl (cI, 32, .inl fn)), (ok_, .inl (cI, 166400, .inl fk)), (oK, .inl (cI, 64, .inl fK)), (mo, .inr (8, [.int (iZ 0), .int (iZ (np : Int)), .ref ow, .ref om, .ref ok_, .ref oK, .ref og, .ref on_, .ref oh, .ref ox, .int qn, .int qf, .ref op_, .int (iZ ((li2 ++ dg kd1 (v2 1)).length : Int))])), (ow, .inl (cI, 108000, .inl fx2)), (om, .inl (cI, 9, .inl fy2)), (op_, .inl (cI, 22000, .inl fq3))] := hD
            show W p l e R s m args below meth c H locs _ _ Q (F0 m 141 ls [])
            rw [e1] at p4 p5
            rw [e1] at hP hD
            obtain ⟨li3, hli3⟩ : ∃ l : List Nat, l = li2 ++ dg kd1 (bv a) := ⟨_, rfl⟩
            rw [← hli3] at p4 hP hD
            refine lv_aload_n hx hb d_Mo_print_141 rfl (lv_at hl 0 rfl) ?_
            refine va_get (D := D) (ci := 8) (v := .int (iZ (li3.length : Int))) (C := R_Mo) (T := F_Mo) (N := 14) hx hb hts i_Mo hown hK hP 5 rfl rfl 13 (by decide) (hts _ (big_in mw_1128 rfl)) (fun _ h9 => h9) rfl d_Mo_print_142 ?_
            have hP9 : va_P D cls0 [(mo, .inr (8, [.int (iZ 0), .int (iZ (np : Int)), .ref ow, .ref om, .ref ok_, .ref oK, .ref og, .ref on_, .ref oh, .ref ox, .int qn, .int qf, .ref op_, .int (iZ (li3.length : Int))])), (ow, .inl (cI, 108000, .inl fx2)), (om, .inl (cI, 9, .inl fy2)), (oh, .inl (cI, 10000, .inl fh)), (ok_, .inl (cI, 166400, .inl fk)), (oK, .inl (cI, 64, .inl fK)), (og, .inl (cI, 32, .inl fs)), (on_, .inl (cI, 32, .inl fn)), (op_, .inl (cI, 22000, .inl fq3))] H := hP.sub [5, 6, 7, 0, 3, 4, 1, 2, 8] rfl
            have hD9 : va_D A [(mo, .inr (8, [.int (iZ 0), .int (iZ (np : Int)), .ref ow, .ref om, .ref ok_, .ref oK, .ref og, .ref on_, .ref oh, .ref ox, .int qn, .int qf, .ref op_, .int (iZ (li3.length : Int))])), (ow, .inl (cI, 108000, .inl fx2)), (om, .inl (cI, 9, .inl fy2)), (oh, .inl (cI, 10000, .inl fh)), (ok_, .inl (cI, 166400, .inl fk)), (oK, .inl (cI, 64, .inl fK)), (og, .inl (cI, 32, .inl fs)), (on_, .inl (cI, 32, .inl fn)), (op_, .inl (cI, 22000, .inl fq3))] := hD.sub [5, 6, 7, 0, 3, 4, 1, 2, 8] (by decide) rfl
            rw [hQ, ← hAe]
            refine r_i (v := (iZ (li3.length : Int))) K ((li3.length : Int), fx2, fy2, fq3, v2, 1, kd1) hS d_Mo_print_145 ?_ (fun t ht hv => ?_)
            · try dsimp only
              have t0 : tv a = 0 := Nat.eq_zero_of_not_pos (fun z => by have y := nd_pos.mpr z; omega)
              have kd00 : kd0 = 0 := by rcases p2 with z | z; exact z.2; omega
              have s0 : sg a = 0 := ja2.mpr t0
              have b1 : bv a ≠ 1 := bv_two (by omega)
              have eT : ((if sg a < 0 then ([45] : List Nat) else []) ++ (dg 1 (tv a) ++ (if bv a = 1 then [] else 47 :: dg kd1 (bv a)))) = li3 := by
                rw [if_neg (by omega), if_neg b1]
                rw [hli3, hli2, hli1, hli0, t0, kd00]
                simp [dg]
              refine ⟨rfl, ?_, w2, ?_, ?_, ?_⟩
              · rw [eT]
              · rw [eT]; exact p4
              · rw [t0]; exact ⟨by decide, by decide, Or.inl rfl⟩
              · intro _; rcases p5 with z | z; omega; exact z.2
            · exact ⟨by rw [ht]; exact hP9, va_K.moved hv hK, by rw [← hAe]; exact hD9⟩
    · refine lv_aload_n hx hb d_Mo_print_53 rfl (lv_at hl 0 rfl) ?_
      refine va_get (D := D) (ci := 8) (v := .ref op_) (C := R_Mo) (T := F_Mo) (N := 14) hx hb hts i_Mo hown hK hP 4 rfl rfl 12 (by decide) (hts _ (big_in mw_1127 rfl)) (fun _ h9 => h9) rfl d_Mo_print_54 ?_
      refine lv_iconst (v := iZ (0)) hx hb d_Mo_print_57 (by decide +kernel) ?_
      refine lv_bipush (v := iZ (45)) hx hb d_Mo_print_58 (by decide +kernel) ?_
      refine zz_iast hx hb hK hP hD hS 3 0 rfl rfl (0) (by omega) (by omega) (by omega) d_Mo_print_60 (fun H locs hP hD hS => ?_)
      have hP : va_P D cls0 [(oh, .inl (cI, 10000, .inl fh)), (og, .inl (cI, 32, .inl fs)), (on_, .inl (cI, 32, .inl fn)), (op_, .inl (cI, 22000, .inl (upd fq 0 (iZ 45)))), (mo, .inr (8, [.int (iZ 0), .int (iZ (np : Int)), .ref ow, .ref om, .ref ok_, .ref oK, .ref og, .ref on_, .ref oh, .ref ox, .int qn, .int qf, .ref op_, .int (iZ 0)])), (ow, .inl (cI, 108000, .inl fx2)), (om, .inl (cI, 9, .inl fy2)), (ok_, .inl (cI, 166400, .inl fk)), (oK, .inl (cI, 64, .inl fK))] H := hP
      have hD : va_D A [(oh, .inl (cI, 10000, .inl fh)), (og, .inl (cI, 32, .inl fs)), (on_, .inl (cI, 32, .inl fn)), (op_, .inl (cI, 22000, .inl (upd fq 0 (iZ 45)))), (mo, .inr (8, [.int (iZ 0), .int (iZ (np : Int)), .ref ow, .ref om, .ref ok_, .ref oK, .ref og, .ref on_, .ref oh, .ref ox, .int qn, .int qf, .ref op_, .int (iZ 0)])), (ow, .inl (cI, 108000, .inl fx2)), (om, .inl (cI, 9, .inl fy2)), (ok_, .inl (cI, 166400, .inl fk)), (oK, .inl (cI, 64, .inl fK))] := hD
      refine lv_aload_n hx hb d_Mo_print_61 rfl (lv_at hl 0 rfl) ?_
      refine lv_iconst (v := iZ (1)) hx hb d_Mo_print_62 (by decide +kernel) ?_
      refine va_put (D := D) (ci := 8) (v := .int (iZ 1)) (ty := .int) (C := R_Mo) (T := F_Mo) (N := 14) hx hb hts i_Mo t_Mo t_Mo_ok n_Mo hown hK hP hD hS 4 rfl rfl 13 (by decide) (hts _ (big_in mw_1128 rfl)) (fun _ h9 => h9) rfl (by decide +kernel) rfl rfl (Nat.le_of_ble_eq_true rfl) d_Mo_print_63 (fun H locs hP hD hS => ?_)
      have hP : va_P D cls0 [(oh, .inl (cI, 10000, .inl fh)), (og, .inl (cI, 32, .inl fs)), (on_, .inl (cI, 32, .inl fn)), (op_, .inl (cI, 22000, .inl (upd fq 0 (iZ 45)))), (mo, .inr (8, [.int (iZ 0), .int (iZ (np : Int)), .ref ow, .ref om, .ref ok_, .ref oK, .ref og, .ref on_, .ref oh, .ref ox, .int qn, .int qf, .ref op_, .int (iZ 1)])), (ow, .inl (cI, 108000, .inl fx2)), (om, .inl (cI, 9, .inl fy2)), (ok_, .inl (cI, 166400, .inl fk)), (oK, .inl (cI, 64, .inl fK))] H := hP
      have hD : va_D A [(oh, .inl (cI, 10000, .inl fh)), (og, .inl (cI, 32, .inl fs)), (on_, .inl (cI, 32, .inl fn)), (op_, .inl (cI, 22000, .inl (upd fq 0 (iZ 45)))), (mo, .inr (8, [.int (iZ 0), .int (iZ (np : Int)), .ref ow, .ref om, .ref ok_, .ref oK, .ref og, .ref on_, .ref oh, .ref ox, .int qn, .int qf, .ref op_, .int (iZ 1)])), (ow, .inl (cI, 108000, .inl fx2)), (om, .inl (cI, 9, .inl fy2)), (ok_, .inl (cI, 166400, .inl fk)), (oK, .inl (cI, 64, .inl fK))] := hD
      refine lv_aload_n hx hb d_Mo_print_66 rfl (lv_at hl 0 rfl) ?_
      refine va_get (D := D) (ci := 8) (v := .ref om) (C := R_Mo) (T := F_Mo) (N := 14) hx hb hts i_Mo hown hK hP 4 rfl rfl 3 (by decide) (hts _ (big_in mw_1118 rfl)) (fun _ h9 => h9) rfl d_Mo_print_67 ?_
      refine lv_iconst (v := iZ (0)) hx hb d_Mo_print_70 (by decide +kernel) ?_
      refine zz_iald hx hb hK hP 6 0 rfl rfl (0) (by omega) (by omega) (by omega) d_Mo_print_71 ?_
      rw [w2.m (by decide), e0]
      refine zz_if_ne (tgt := 88) hx hb d_Mo_print_72 (by decide) (by omega) (fun c72 => ?_) (fun c72 => ?_)
      · refine lv_aload_n hx hb d_Mo_print_88 rfl (lv_at hl 0 rfl) ?_
        refine lv_iconst (v := iZ (0)) hx hb d_Mo_print_89 (by decide +kernel) ?_
        obtain ⟨li0, hli0⟩ : ∃ l : List Nat, l = [45] := ⟨_, rfl⟩
        have hl0 : li0.length = 1 := by rw [hli0]; rfl
        have p0 : PX (upd fq 0 (iZ 45)) li0 := by rw [hli0]; exact (PX.nil _).put (ch := 45) rfl
        have hP : va_P D cls0 [(oh, .inl (cI, 10000, .inl fh)), (og, .inl (cI, 32, .inl fs)), (on_, .inl (cI, 32, .inl fn)), (op_, .inl (cI, 22000, .inl (upd fq 0 (iZ 45)))), (mo, .inr (8, [.int (iZ 0), .int (iZ (np : Int)), .ref ow, .ref om, .ref ok_, .ref oK, .ref og, .ref on_, .ref oh, .ref ox, .int qn, .int qf, .ref op_, .int (iZ (li0.length : Int))])), (ow, .inl (cI, 108000, .inl fx2)), (om, .inl (cI, 9, .inl fy2)), (ok_, .inl (cI, 166400, .inl fk)), (oK, .inl (cI, 64, .inl fK))] H := by rw [show (li0.length : Int) = 1 by omega]; exact hP
        have hD : va_D A [(oh, .inl (cI, 10000, .inl fh)), (og, .inl (cI, 32, .inl fs)), (on_, .inl (cI, 32, .inl fn)), (op_, .inl (cI, 22000, .inl (upd fq 0 (iZ 45)))), (mo, .inr (8, [.int (iZ 0), .int (iZ (np : Int)), .ref ow, .ref om, .ref ok_, .ref oK, .ref og, .ref on_, .ref oh, .ref ox, .int qn, .int qf, .ref op_, .int (iZ (li0.length : Int))])), (ow, .inl (cI, 108000, .inl fx2)), (om, .inl (cI, 9, .inl fy2)), (ok_, .inl (cI, 166400, .inl fk)), (oK, .inl (cI, 64, .inl fK))] := by rw [show (li0.length : Int) = 1 by omega]; exact hD
        refine cv (n := 1) (wr := [(oh, .inl (cI, 10000, .inl fh)), (og, .inl (cI, 32, .inl fs)), (on_, .inl (cI, 32, .inl fn)), (ok_, .inl (cI, 166400, .inl fk)), (oK, .inl (cI, 64, .inl fK))]) (w1 := (fun (u : (Nat → Int32) × Nat) => [(mo, .inr (8, [.int (iZ 0), .int (iZ (np : Int)), .ref ow, .ref om, .ref ok_, .ref oK, .ref og, .ref on_, .ref oh, .ref ox, .int qn, .int qf, .ref op_, .int (iZ ((li0 ++ dg u.2 (v2 0)).length : Int))])), (ow, .inl (cI, 108000, .inl fx2)), (om, .inl (cI, 9, .inl fy2)), (op_, .inl (cI, 22000, .inl u.1))])) (As := [.int (iZ 0)]) (rest := []) K hP hD hK hS hA hl.1 (c_Mo_say l D mo (iZ 0) np ow om ok_ oK og on_ oh ox qn qf op_ fx2 fy2 cI (upd fq 0 (iZ 45)) v2 li0 0 H.size w2 p0 (by omega) (by decide) (by rw [e0]; omega)) [4, 5, 6, 3] [0, 1, 2, 7, 8] [0] rfl rfl rfl (by decide) (by decide) (by decide) 0 rfl rfl (big_in mw_1396 rfl) (big_in mw_10 rfl) (big_in mw_1393 rfl) (big_in mw_1395 rfl) (big_in sp_51 rfl) rfl rfl (by decide +kernel) ⟨by rw [hR]; exact Nat.le_of_ble_eq_true rfl, by rw [hR]; exact Nat.le_of_ble_eq_true rfl⟩ rfl (Nat.le_of_ble_eq_true rfl) d_Mo_print_90 ⟨by rw [hR]; exact Nat.le_of_ble_eq_true rfl, by rw [hR]; exact Nat.le_of_ble_eq_true rfl⟩ rfl (fun v u H locs hp11 hP hD hS _ => ?_)
        obtain ⟨fq1, kd0⟩ := u
        try dsimp only at hp11
        obtain ⟨rfl, p1, p2⟩ := hp11
        have hP : va_P D cls0 [(oh, .inl (cI, 10000, .inl fh)), (og, .inl (cI, 32, .inl fs)), (on_, .inl (cI, 32, .inl fn)), (ok_, .inl (cI, 166400, .inl fk)), (oK, .inl (cI, 64, .inl fK)), (mo, .inr (8, [.int (iZ 0), .int (iZ (np : Int)), .ref ow, .ref om, .ref ok_, .ref oK, .ref og, .ref on_, .ref oh, .ref ox, .int qn, .int qf, .ref op_, .int (iZ ((li0 ++ dg kd0 (v2 0)).length : Int))])), (ow, .inl (cI, 108000, .inl fx2)), (om, .inl (cI, 9, .inl fy2)), (op_, .inl (cI, 22000, .inl fq1))] H := hP
        have hD : va_D A [(oh, .inl (cI, 10000, .inl fh)), (og, .inl (cI, 32, .inl fs)), (on_, .inl (cI, 32, .inl fn)), (ok_, .inl (cI, 166400, .inl fk)), (oK, .inl (cI, 64, .inl fK)), (mo, .inr (8, [.int (iZ 0), .int (iZ (np : Int)), .ref ow, .ref om, .ref ok_, .ref oK, .ref og, .ref on_, .ref oh, .ref ox, .int qn, .int qf, .ref op_, .int (iZ ((li0 ++ dg kd0 (v2 0)).length : Int))])), (ow, .inl (cI, 108000, .inl fx2)), (om, .inl (cI, 9, .inl fy2)), (op_, .inl (cI, 22000, .inl fq1))] := hD
        show W p l e R s m args below meth c H locs _ _ Q (F0 m 93 ls [])
        rw [e0] at p1 p2
        rw [e0] at hP hD
        obtain ⟨li1, hli1⟩ : ∃ l : List Nat, l = li0 ++ dg kd0 (tv a) := ⟨_, rfl⟩
        rw [← hli1] at p1 hP hD
        have hl1 : li1.length = li0.length + kd0 := by rw [hli1, List.length_append, dg_len]
        have bk : kd0 ≤ 4 * nd (tv a) + 1 := by rcases p2 with z | z; omega; exact IsD_nd z.2
        refine lv_aload_n hx hb d_Mo_print_93 rfl (lv_at hl 0 rfl) ?_
        refine va_get (D := D) (ci := 8) (v := .ref om) (C := R_Mo) (T := F_Mo) (N := 14) hx hb hts i_Mo hown hK hP 5 rfl rfl 3 (by decide) (hts _ (big_in mw_1118 rfl)) (fun _ h9 => h9) rfl d_Mo_print_94 ?_
        refine lv_iconst (v := iZ (1)) hx hb d_Mo_print_97 (by decide +kernel) ?_
        refine zz_iald hx hb hK hP 7 0 rfl rfl (1) (by omega) (by omega) (by omega) d_Mo_print_98 ?_
        rw [w2.m (by decide), e1]
        refine lv_iconst (v := iZ (1)) hx hb d_Mo_print_99 (by decide +kernel) ?_
        refine zz_icmp_gt (tgt := 115) hx hb d_Mo_print_100 (by decide) (by omega) (by omega) (fun c100 => ?_) (fun c100 => ?_)
        · refine lv_aload_n hx hb d_Mo_print_115 rfl (lv_at hl 0 rfl) ?_
          refine va_get (D := D) (ci := 8) (v := .ref op_) (C := R_Mo) (T := F_Mo) (N := 14) hx hb hts i_Mo hown hK hP 5 rfl rfl 12 (by decide) (hts _ (big_in mw_1127 rfl)) (fun _ h9 => h9) rfl d_Mo_print_116 ?_
          refine lv_aload_n hx hb d_Mo_print_119 rfl (lv_at hl 0 rfl) ?_
          refine va_get (D := D) (ci := 8) (v := .int (iZ (li1.length : Int))) (C := R_Mo) (T := F_Mo) (N := 14) hx hb hts i_Mo hown hK hP 5 rfl rfl 13 (by decide) (hts _ (big_in mw_1128 rfl)) (fun _ h9 => h9) rfl d_Mo_print_120 ?_
          refine lv_bipush (v := iZ (47)) hx hb d_Mo_print_123 (by decide +kernel) ?_
          refine zz_iast hx hb hK hP hD hS 8 0 rfl rfl (li1.length) (by omega) (by omega) (by omega) d_Mo_print_125 (fun H locs hP hD hS => ?_)
          have hP : va_P D cls0 [(oh, .inl (cI, 10000, .inl fh)), (og, .inl (cI, 32, .inl fs)), (on_, .inl (cI, 32, .inl fn)), (ok_, .inl (cI, 166400, .inl fk)), (oK, .inl (cI, 64, .inl fK)), (mo, .inr (8, [.int (iZ 0), .int (iZ (np : Int)), .ref ow, .ref om, .ref ok_, .ref oK, .ref og, .ref on_, .ref oh, .ref ox, .int qn, .int qf, .ref op_, .int (iZ (li1.length : Int))])), (ow, .inl (cI, 108000, .inl fx2)), (om, .inl (cI, 9, .inl fy2)), (op_, .inl (cI, 22000, .inl (upd fq1 li1.length (iZ 47))))] H := hP
          have hD : va_D A [(oh, .inl (cI, 10000, .inl fh)), (og, .inl (cI, 32, .inl fs)), (on_, .inl (cI, 32, .inl fn)), (ok_, .inl (cI, 166400, .inl fk)), (oK, .inl (cI, 64, .inl fK)), (mo, .inr (8, [.int (iZ 0), .int (iZ (np : Int)), .ref ow, .ref om, .ref ok_, .ref oK, .ref og, .ref on_, .ref oh, .ref ox, .int qn, .int qf, .ref op_, .int (iZ (li1.length : Int))])), (ow, .inl (cI, 108000, .inl fx2)), (om, .inl (cI, 9, .inl fy2)), (op_, .inl (cI, 22000, .inl (upd fq1 li1.length (iZ 47))))] := hD
          refine lv_aload_n hx hb d_Mo_print_126 rfl (lv_at hl 0 rfl) ?_
          refine lv_dup hx hb d_Mo_print_127 rfl ?_
          refine va_get (D := D) (ci := 8) (v := .int (iZ (li1.length : Int))) (C := R_Mo) (T := F_Mo) (N := 14) hx hb hts i_Mo hown hK hP 5 rfl rfl 13 (by decide) (hts _ (big_in mw_1128 rfl)) (fun _ h9 => h9) rfl d_Mo_print_128 ?_
          refine lv_iconst (v := iZ (1)) hx hb d_Mo_print_131 (by decide +kernel) ?_
          refine zz_iadd hx hb d_Mo_print_132 ?_
          refine va_put (D := D) (ci := 8) (v := .int (iZ ((li1.length : Int) + 1))) (ty := .int) (C := R_Mo) (T := F_Mo) (N := 14) hx hb hts i_Mo t_Mo t_Mo_ok n_Mo hown hK hP hD hS 5 rfl rfl 13 (by decide) (hts _ (big_in mw_1128 rfl)) (fun _ h9 => h9) rfl (by decide +kernel) rfl rfl (Nat.le_of_ble_eq_true rfl) d_Mo_print_133 (fun H locs hP hD hS => ?_)
          have hP : va_P D cls0 [(oh, .inl (cI, 10000, .inl fh)), (og, .inl (cI, 32, .inl fs)), (on_, .inl (cI, 32, .inl fn)), (ok_, .inl (cI, 166400, .inl fk)), (oK, .inl (cI, 64, .inl fK)), (mo, .inr (8, [.int (iZ 0), .int (iZ (np : Int)), .ref ow, .ref om, .ref ok_, .ref oK, .ref og, .ref on_, .ref oh, .ref ox, .int qn, .int qf, .ref op_, .int (iZ ((li1.length : Int) + 1))])), (ow, .inl (cI, 108000, .inl fx2)), (om, .inl (cI, 9, .inl fy2)), (op_, .inl (cI, 22000, .inl (upd fq1 li1.length (iZ 47))))] H := hP
          have hD : va_D A [(oh, .inl (cI, 10000, .inl fh)), (og, .inl (cI, 32, .inl fs)), (on_, .inl (cI, 32, .inl fn)), (ok_, .inl (cI, 166400, .inl fk)), (oK, .inl (cI, 64, .inl fK)), (mo, .inr (8, [.int (iZ 0), .int (iZ (np : Int)), .ref ow, .ref om, .ref ok_, .ref oK, .ref og, .ref on_, .ref oh, .ref ox, .int qn, .int qf, .ref op_, .int (iZ ((li1.length : Int) + 1))])), (ow, .inl (cI, 108000, .inl fx2)), (om, .inl (cI, 9, .inl fy2)), (op_, .inl (cI, 22000, .inl (upd fq1 li1.length (iZ 47))))] := hD
          refine lv_aload_n hx hb d_Mo_print_136 rfl (lv_at hl 0 rfl) ?_
          refine lv_iconst (v := iZ (1)) hx hb d_Mo_print_137 (by decide +kernel) ?_
          obtain ⟨li2, hli2⟩ : ∃ l : List Nat, l = li1 ++ [47] := ⟨_, rfl⟩
          have hl2 : li2.length = li1.length + 1 := by rw [hli2, List.length_append]; rfl
          have p3 : PX (upd fq1 li1.length (iZ 47)) li2 := by rw [hli2]; exact p1.put rfl
          rw [show ((li1.length : Int) + 1 : Int) = (li2.length : Int) by omega] at hP hD
          refine cv (n := 1) (wr := [(oh, .inl (cI, 10000, .inl fh)), (og, .inl (cI, 32, .inl fs)), (on_, .inl (cI, 32, .inl fn)), (ok_, .inl (cI, 166400, .inl fk)), (oK, .inl (cI, 64, .inl fK))]) (w1 := (fun (u : (Nat → Int32) × Nat) => [(mo, .inr (8, [.int (iZ 0), .int (iZ (np : Int)), .ref ow, .ref om, .ref ok_, .ref oK, .ref og, .ref on_, .ref oh, .ref ox, .int qn, .int qf, .ref op_, .int (iZ ((li2 ++ dg u.2 (v2 1)).length : Int))])), (ow, .inl (cI, 108000, .inl fx2)), (om, .inl (cI, 9, .inl fy2)), (op_, .inl (cI, 22000, .inl u.1))])) (As := [.int (iZ 1)]) (rest := []) K hP hD hK hS hA hl.1 (c_Mo_say l D mo (iZ 0) np ow om ok_ oK og on_ oh ox qn qf op_ fx2 fy2 cI (upd fq1 li1.length (iZ 47)) v2 li2 1 H.size w2 p3 (by omega) (by decide) (by rw [e1]; omega)) [5, 6, 7, 8] [0, 1, 2, 3, 4] [0] rfl rfl rfl (by decide) (by decide) (by decide) 0 rfl rfl (big_in mw_1396 rfl) (big_in mw_10 rfl) (big_in mw_1393 rfl) (big_in mw_1395 rfl) (big_in sp_51 rfl) rfl rfl (by decide +kernel) ⟨by rw [hR]; exact Nat.le_of_ble_eq_true rfl, by rw [hR]; exact Nat.le_of_ble_eq_true rfl⟩ rfl (Nat.le_of_ble_eq_true rfl) d_Mo_print_138 ⟨by rw [hR]; exact Nat.le_of_ble_eq_true rfl, by rw [hR]; exact Nat.le_of_ble_eq_true rfl⟩ rfl (fun v u H locs hp12 hP hD hS _ => ?_)
          obtain ⟨fq3, kd1⟩ := u
          try dsimp only at hp12
          obtain ⟨rfl, p4, p5⟩ := hp12
          have hP : va_P D cls0 [(oh, .inl (cI, 10000, .inl fh)), (og, .inl (cI, 32, .inl fs)), (on_, .inl (cI, 32, .inl fn)), (ok_, .inl (cI, 166400, .inl fk)), (oK, .inl (cI, 64, .inl fK)), (mo, .inr (8, [.int (iZ 0), .int (iZ (np : Int)), .ref ow, .ref om, .ref ok_, .ref oK, .ref og, .ref on_, .ref oh, .ref ox, .int qn, .int qf, .ref op_, .int (iZ ((li2 ++ dg kd1 (v2 1)).length : Int))])), (ow, .inl (cI, 108000, .inl fx2)), (om, .inl (cI, 9, .inl fy2)), (op_, .inl (cI, 22000, .inl fq3))] H := hP
          have hD : va_D A [(oh, .inl (cI, 10000, .inl fh)), (og, .inl (cI, 32, .inl fs)), (on_, .inl (cI, 32, .inl fn)), (ok_, .inl (cI, 166400, .inl fk)), (oK, .inl (cI, 64, .inl fK)), (mo, .inr (8, [.int (iZ 0), .int (iZ (np : Int)), .ref ow, .ref om, .ref ok_, .ref oK, .ref og, .ref on_, .ref oh, .ref ox, .int qn, .int qf, .ref op_, .int (iZ ((li2 ++ dg kd1 (v2 1)).length : Int))])), (ow, .inl (cI, 108000, .inl fx2)), (om, .inl (cI, 9, .inl fy2)), (op_, .inl (cI, 22000, .inl fq3))] := hD
          show W p l e R s m args below meth c H locs _ _ Q (F0 m 141 ls [])
          rw [e1] at p4 p5
          rw [e1] at hP hD
          obtain ⟨li3, hli3⟩ : ∃ l : List Nat, l = li2 ++ dg kd1 (bv a) := ⟨_, rfl⟩
          rw [← hli3] at p4 hP hD
          refine lv_aload_n hx hb d_Mo_print_141 rfl (lv_at hl 0 rfl) ?_
          refine va_get (D := D) (ci := 8) (v := .int (iZ (li3.length : Int))) (C := R_Mo) (T := F_Mo) (N := 14) hx hb hts i_Mo hown hK hP 5 rfl rfl 13 (by decide) (hts _ (big_in mw_1128 rfl)) (fun _ h9 => h9) rfl d_Mo_print_142 ?_
          have hP9 : va_P D cls0 [(mo, .inr (8, [.int (iZ 0), .int (iZ (np : Int)), .ref ow, .ref om, .ref ok_, .ref oK, .ref og, .ref on_, .ref oh, .ref ox, .int qn, .int qf, .ref op_, .int (iZ (li3.length : Int))])), (ow, .inl (cI, 108000, .inl fx2)), (om, .inl (cI, 9, .inl fy2)), (oh, .inl (cI, 10000, .inl fh)), (ok_, .inl (cI, 166400, .inl fk)), (oK, .inl (cI, 64, .inl fK)), (og, .inl (cI, 32, .inl fs)), (on_, .inl (cI, 32, .inl fn)), (op_, .inl (cI, 22000, .inl fq3))] H := hP.sub [5, 6, 7, 0, 3, 4, 1, 2, 8] rfl
          have hD9 : va_D A [(mo, .inr (8, [.int (iZ 0), .int (iZ (np : Int)), .ref ow, .ref om, .ref ok_, .ref oK, .ref og, .ref on_, .ref oh, .ref ox, .int qn, .int qf, .ref op_, .int (iZ (li3.length : Int))])), (ow, .inl (cI, 108000, .inl fx2)), (om, .inl (cI, 9, .inl fy2)), (oh, .inl (cI, 10000, .inl fh)), (ok_, .inl (cI, 166400, .inl fk)), (oK, .inl (cI, 64, .inl fK)), (og, .inl (cI, 32, .inl fs)), (on_, .inl (cI, 32, .inl fn)), (op_, .inl (cI, 22000, .inl fq3))] := hD.sub [5, 6, 7, 0, 3, 4, 1, 2, 8] (by decide) rfl
          rw [hQ, ← hAe]
          refine r_i (v := (iZ (li3.length : Int))) K ((li3.length : Int), fx2, fy2, fq3, v2, kd0, kd1) hS d_Mo_print_145 ?_ (fun t ht hv => ?_)
          · try dsimp only
            have t0 : 0 < tv a := nd_pos.mp (by omega)
            have kD : IsD (tv a) kd0 := by rcases p2 with z | z; omega; exact z.2
            have b1 : bv a ≠ 1 := bv_two (by omega)
            have eT : ((if sg a < 0 then ([45] : List Nat) else []) ++ (dg kd0 (tv a) ++ (if bv a = 1 then [] else 47 :: dg kd1 (bv a)))) = li3 := by
              rw [if_pos (by omega), if_neg b1]
              rw [hli3, hli2, hli1, hli0]
              simp
            refine ⟨rfl, ?_, w2, ?_, ?_, ?_⟩
            · rw [eT]
            · rw [eT]; exact p4
            · exact kD
            · intro _; rcases p5 with z | z; omega; exact z.2
          · exact ⟨by rw [ht]; exact hP9, va_K.moved hv hK, by rw [← hAe]; exact hD9⟩
        · have dbb := dz_lt (bv a) 0
          have npb := nd_pos.mpr pa
          refine lv_aload_n hx hb d_Mo_print_103 rfl (lv_at hl 0 rfl) ?_
          refine va_get (D := D) (ci := 8) (v := .ref ow) (C := R_Mo) (T := F_Mo) (N := 14) hx hb hts i_Mo hown hK hP 5 rfl rfl 2 (by decide) (hts _ (big_in mw_1117 rfl)) (fun _ h9 => h9) rfl d_Mo_print_104 ?_
          refine lv_sipush (v := iZ (12000)) hx hb d_Mo_print_107 (by decide +kernel) ?_
          refine zz_iald hx hb hK hP 6 0 rfl rfl (12000 * 1 + 0) (by omega) (by omega) (by omega) d_Mo_print_110 ?_
          rw [w2.d (b := 1) (i := 0) (by decide) (by rw [e1]; omega), e1]
          refine lv_iconst (v := iZ (1)) hx hb d_Mo_print_111 (by decide +kernel) ?_
          refine zz_icmp_le (tgt := 141) hx hb d_Mo_print_112 (by decide) (by omega) (by omega) (fun c112 => ?_) (fun c112 => ?_)
          · refine lv_aload_n hx hb d_Mo_print_141 rfl (lv_at hl 0 rfl) ?_
            refine va_get (D := D) (ci := 8) (v := .int (iZ (li1.length : Int))) (C := R_Mo) (T := F_Mo) (N := 14) hx hb hts i_Mo hown hK hP 5 rfl rfl 13 (by decide) (hts _ (big_in mw_1128 rfl)) (fun _ h9 => h9) rfl d_Mo_print_142 ?_
            have hP9 : va_P D cls0 [(mo, .inr (8, [.int (iZ 0), .int (iZ (np : Int)), .ref ow, .ref om, .ref ok_, .ref oK, .ref og, .ref on_, .ref oh, .ref ox, .int qn, .int qf, .ref op_, .int (iZ (li1.length : Int))])), (ow, .inl (cI, 108000, .inl fx2)), (om, .inl (cI, 9, .inl fy2)), (oh, .inl (cI, 10000, .inl fh)), (ok_, .inl (cI, 166400, .inl fk)), (oK, .inl (cI, 64, .inl fK)), (og, .inl (cI, 32, .inl fs)), (on_, .inl (cI, 32, .inl fn)), (op_, .inl (cI, 22000, .inl fq1))] H := hP.sub [5, 6, 7, 0, 3, 4, 1, 2, 8] rfl
            have hD9 : va_D A [(mo, .inr (8, [.int (iZ 0), .int (iZ (np : Int)), .ref ow, .ref om, .ref ok_, .ref oK, .ref og, .ref on_, .ref oh, .ref ox, .int qn, .int qf, .ref op_, .int (iZ (li1.length : Int))])), (ow, .inl (cI, 108000, .inl fx2)), (om, .inl (cI, 9, .inl fy2)), (oh, .inl (cI, 10000, .inl fh)), (ok_, .inl (cI, 166400, .inl fk)), (oK, .inl (cI, 64, .inl fK)), (og, .inl (cI, 32, .inl fs)), (on_, .inl (cI, 32, .inl fn)), (op_, .inl (cI, 22000, .inl fq1))] := hD.sub [5, 6, 7, 0, 3, 4, 1, 2, 8] (by decide) rfl
            rw [hQ, ← hAe]
            refine r_i (v := (iZ (li1.length : Int))) K ((li1.length : Int), fx2, fy2, fq1, v2, kd0, 0) hS d_Mo_print_145 ?_ (fun t ht hv => ?_)
            · try dsimp only
              have t0 : 0 < tv a := nd_pos.mp (by omega)
              have kD : IsD (tv a) kd0 := by rcases p2 with z | z; omega; exact z.2
              have b1 : bv a = 1 := bv_one pa (by omega) (by omega)
              have eT : ((if sg a < 0 then ([45] : List Nat) else []) ++ (dg kd0 (tv a) ++ (if bv a = 1 then [] else 47 :: dg 0 (bv a)))) = li1 := by
                rw [if_pos (by omega), if_pos b1]
                rw [hli1, hli0]
                simp
              refine ⟨rfl, ?_, w2, ?_, ?_, ?_⟩
              · rw [eT]
              · rw [eT]; exact p1
              · exact kD
              · intro z; exact absurd b1 z
            · exact ⟨by rw [ht]; exact hP9, va_K.moved hv hK, by rw [← hAe]; exact hD9⟩
          · refine lv_aload_n hx hb d_Mo_print_115 rfl (lv_at hl 0 rfl) ?_
            refine va_get (D := D) (ci := 8) (v := .ref op_) (C := R_Mo) (T := F_Mo) (N := 14) hx hb hts i_Mo hown hK hP 5 rfl rfl 12 (by decide) (hts _ (big_in mw_1127 rfl)) (fun _ h9 => h9) rfl d_Mo_print_116 ?_
            refine lv_aload_n hx hb d_Mo_print_119 rfl (lv_at hl 0 rfl) ?_
            refine va_get (D := D) (ci := 8) (v := .int (iZ (li1.length : Int))) (C := R_Mo) (T := F_Mo) (N := 14) hx hb hts i_Mo hown hK hP 5 rfl rfl 13 (by decide) (hts _ (big_in mw_1128 rfl)) (fun _ h9 => h9) rfl d_Mo_print_120 ?_
            refine lv_bipush (v := iZ (47)) hx hb d_Mo_print_123 (by decide +kernel) ?_
            refine zz_iast hx hb hK hP hD hS 8 0 rfl rfl (li1.length) (by omega) (by omega) (by omega) d_Mo_print_125 (fun H locs hP hD hS => ?_)
            have hP : va_P D cls0 [(oh, .inl (cI, 10000, .inl fh)), (og, .inl (cI, 32, .inl fs)), (on_, .inl (cI, 32, .inl fn)), (ok_, .inl (cI, 166400, .inl fk)), (oK, .inl (cI, 64, .inl fK)), (mo, .inr (8, [.int (iZ 0), .int (iZ (np : Int)), .ref ow, .ref om, .ref ok_, .ref oK, .ref og, .ref on_, .ref oh, .ref ox, .int qn, .int qf, .ref op_, .int (iZ (li1.length : Int))])), (ow, .inl (cI, 108000, .inl fx2)), (om, .inl (cI, 9, .inl fy2)), (op_, .inl (cI, 22000, .inl (upd fq1 li1.length (iZ 47))))] H := hP
            have hD : va_D A [(oh, .inl (cI, 10000, .inl fh)), (og, .inl (cI, 32, .inl fs)), (on_, .inl (cI, 32, .inl fn)), (ok_, .inl (cI, 166400, .inl fk)), (oK, .inl (cI, 64, .inl fK)), (mo, .inr (8, [.int (iZ 0), .int (iZ (np : Int)), .ref ow, .ref om, .ref ok_, .ref oK, .ref og, .ref on_, .ref oh, .ref ox, .int qn, .int qf, .ref op_, .int (iZ (li1.length : Int))])), (ow, .inl (cI, 108000, .inl fx2)), (om, .inl (cI, 9, .inl fy2)), (op_, .inl (cI, 22000, .inl (upd fq1 li1.length (iZ 47))))] := hD
            refine lv_aload_n hx hb d_Mo_print_126 rfl (lv_at hl 0 rfl) ?_
            refine lv_dup hx hb d_Mo_print_127 rfl ?_
            refine va_get (D := D) (ci := 8) (v := .int (iZ (li1.length : Int))) (C := R_Mo) (T := F_Mo) (N := 14) hx hb hts i_Mo hown hK hP 5 rfl rfl 13 (by decide) (hts _ (big_in mw_1128 rfl)) (fun _ h9 => h9) rfl d_Mo_print_128 ?_
            refine lv_iconst (v := iZ (1)) hx hb d_Mo_print_131 (by decide +kernel) ?_
            refine zz_iadd hx hb d_Mo_print_132 ?_
            refine va_put (D := D) (ci := 8) (v := .int (iZ ((li1.length : Int) + 1))) (ty := .int) (C := R_Mo) (T := F_Mo) (N := 14) hx hb hts i_Mo t_Mo t_Mo_ok n_Mo hown hK hP hD hS 5 rfl rfl 13 (by decide) (hts _ (big_in mw_1128 rfl)) (fun _ h9 => h9) rfl (by decide +kernel) rfl rfl (Nat.le_of_ble_eq_true rfl) d_Mo_print_133 (fun H locs hP hD hS => ?_)
            have hP : va_P D cls0 [(oh, .inl (cI, 10000, .inl fh)), (og, .inl (cI, 32, .inl fs)), (on_, .inl (cI, 32, .inl fn)), (ok_, .inl (cI, 166400, .inl fk)), (oK, .inl (cI, 64, .inl fK)), (mo, .inr (8, [.int (iZ 0), .int (iZ (np : Int)), .ref ow, .ref om, .ref ok_, .ref oK, .ref og, .ref on_, .ref oh, .ref ox, .int qn, .int qf, .ref op_, .int (iZ ((li1.length : Int) + 1))])), (ow, .inl (cI, 108000, .inl fx2)), (om, .inl (cI, 9, .inl fy2)), (op_, .inl (cI, 22000, .inl (upd fq1 li1.length (iZ 47))))] H := hP
            have hD : va_D A [(oh, .inl (cI, 10000, .inl fh)), (og, .inl (cI, 32, .inl fs)), (on_, .inl (cI, 32, .inl fn)), (ok_, .inl (cI, 166400, .inl fk)), (oK, .inl (cI, 64, .inl fK)), (mo, .inr (8, [.int (iZ 0), .int (iZ (np : Int)), .ref ow, .ref om, .ref ok_, .ref oK, .ref og, .ref on_, .ref oh, .ref ox, .int qn, .int qf, .ref op_, .int (iZ ((li1.length : Int) + 1))])), (ow, .inl (cI, 108000, .inl fx2)), (om, .inl (cI, 9, .inl fy2)), (op_, .inl (cI, 22000, .inl (upd fq1 li1.length (iZ 47))))] := hD
            refine lv_aload_n hx hb d_Mo_print_136 rfl (lv_at hl 0 rfl) ?_
            refine lv_iconst (v := iZ (1)) hx hb d_Mo_print_137 (by decide +kernel) ?_
            obtain ⟨li2, hli2⟩ : ∃ l : List Nat, l = li1 ++ [47] := ⟨_, rfl⟩
            have hl2 : li2.length = li1.length + 1 := by rw [hli2, List.length_append]; rfl
            have p3 : PX (upd fq1 li1.length (iZ 47)) li2 := by rw [hli2]; exact p1.put rfl
            rw [show ((li1.length : Int) + 1 : Int) = (li2.length : Int) by omega] at hP hD
            refine cv (n := 1) (wr := [(oh, .inl (cI, 10000, .inl fh)), (og, .inl (cI, 32, .inl fs)), (on_, .inl (cI, 32, .inl fn)), (ok_, .inl (cI, 166400, .inl fk)), (oK, .inl (cI, 64, .inl fK))]) (w1 := (fun (u : (Nat → Int32) × Nat) => [(mo, .inr (8, [.int (iZ 0), .int (iZ (np : Int)), .ref ow, .ref om, .ref ok_, .ref oK, .ref og, .ref on_, .ref oh, .ref ox, .int qn, .int qf, .ref op_, .int (iZ ((li2 ++ dg u.2 (v2 1)).length : Int))])), (ow, .inl (cI, 108000, .inl fx2)), (om, .inl (cI, 9, .inl fy2)), (op_, .inl (cI, 22000, .inl u.1))])) (As := [.int (iZ 1)]) (rest := []) K hP hD hK hS hA hl.1 (c_Mo_say l D mo (iZ 0) np ow om ok_ oK og on_ oh ox qn qf op_ fx2 fy2 cI (upd fq1 li1.length (iZ 47)) v2 li2 1 H.size w2 p3 (by omega) (by decide) (by rw [e1]; omega)) [5, 6, 7, 8] [0, 1, 2, 3, 4] [0] rfl rfl rfl (by decide) (by decide) (by decide) 0 rfl rfl (big_in mw_1396 rfl) (big_in mw_10 rfl) (big_in mw_1393 rfl) (big_in mw_1395 rfl) (big_in sp_51 rfl) rfl rfl (by decide +kernel) ⟨by rw [hR]; exact Nat.le_of_ble_eq_true rfl, by rw [hR]; exact Nat.le_of_ble_eq_true rfl⟩ rfl (Nat.le_of_ble_eq_true rfl) d_Mo_print_138 ⟨by rw [hR]; exact Nat.le_of_ble_eq_true rfl, by rw [hR]; exact Nat.le_of_ble_eq_true rfl⟩ rfl (fun v u H locs hp13 hP hD hS _ => ?_)
            obtain ⟨fq3, kd1⟩ := u
            try dsimp only at hp13
            obtain ⟨rfl, p4, p5⟩ := hp13
            have hP : va_P D cls0 [(oh, .inl (cI, 10000, .inl fh)), (og, .inl (cI, 32, .inl fs)), (on_, .inl (cI, 32, .inl fn)), (ok_, .inl (cI, 166400, .inl fk)), (oK, .inl (cI, 64, .inl fK)), (mo, .inr (8, [.int (iZ 0), .int (iZ (np : Int)), .ref ow, .ref om, .ref ok_, .ref oK, .ref og, .ref on_, .ref oh, .ref ox, .int qn, .int qf, .ref op_, .int (iZ ((li2 ++ dg kd1 (v2 1)).length : Int))])), (ow, .inl (cI, 108000, .inl fx2)), (om, .inl (cI, 9, .inl fy2)), (op_, .inl (cI, 22000, .inl fq3))] H := hP
            have hD : va_D A [(oh, .inl (cI, 10000, .inl fh)), (og, .inl (cI, 32, .inl fs)), (on_, .inl (cI, 32, .inl fn)), (ok_, .inl (cI, 166400, .inl fk)), (oK, .inl (cI, 64, .inl fK)), (mo, .inr (8, [.int (iZ 0), .int (iZ (np : Int)), .ref ow, .ref om, .ref ok_, .ref oK, .ref og, .ref on_, .ref oh, .ref ox, .int qn, .int qf, .ref op_, .int (iZ ((li2 ++ dg kd1 (v2 1)).length : Int))])), (ow, .inl (cI, 108000, .inl fx2)), (om, .inl (cI, 9, .inl fy2)), (op_, .inl (cI, 22000, .inl fq3))] := hD
            show W p l e R s m args below meth c H locs _ _ Q (F0 m 141 ls [])
            rw [e1] at p4 p5
            rw [e1] at hP hD
            obtain ⟨li3, hli3⟩ : ∃ l : List Nat, l = li2 ++ dg kd1 (bv a) := ⟨_, rfl⟩
            rw [← hli3] at p4 hP hD
            refine lv_aload_n hx hb d_Mo_print_141 rfl (lv_at hl 0 rfl) ?_
            refine va_get (D := D) (ci := 8) (v := .int (iZ (li3.length : Int))) (C := R_Mo) (T := F_Mo) (N := 14) hx hb hts i_Mo hown hK hP 5 rfl rfl 13 (by decide) (hts _ (big_in mw_1128 rfl)) (fun _ h9 => h9) rfl d_Mo_print_142 ?_
            have hP9 : va_P D cls0 [(mo, .inr (8, [.int (iZ 0), .int (iZ (np : Int)), .ref ow, .ref om, .ref ok_, .ref oK, .ref og, .ref on_, .ref oh, .ref ox, .int qn, .int qf, .ref op_, .int (iZ (li3.length : Int))])), (ow, .inl (cI, 108000, .inl fx2)), (om, .inl (cI, 9, .inl fy2)), (oh, .inl (cI, 10000, .inl fh)), (ok_, .inl (cI, 166400, .inl fk)), (oK, .inl (cI, 64, .inl fK)), (og, .inl (cI, 32, .inl fs)), (on_, .inl (cI, 32, .inl fn)), (op_, .inl (cI, 22000, .inl fq3))] H := hP.sub [5, 6, 7, 0, 3, 4, 1, 2, 8] rfl
            have hD9 : va_D A [(mo, .inr (8, [.int (iZ 0), .int (iZ (np : Int)), .ref ow, .ref om, .ref ok_, .ref oK, .ref og, .ref on_, .ref oh, .ref ox, .int qn, .int qf, .ref op_, .int (iZ (li3.length : Int))])), (ow, .inl (cI, 108000, .inl fx2)), (om, .inl (cI, 9, .inl fy2)), (oh, .inl (cI, 10000, .inl fh)), (ok_, .inl (cI, 166400, .inl fk)), (oK, .inl (cI, 64, .inl fK)), (og, .inl (cI, 32, .inl fs)), (on_, .inl (cI, 32, .inl fn)), (op_, .inl (cI, 22000, .inl fq3))] := hD.sub [5, 6, 7, 0, 3, 4, 1, 2, 8] (by decide) rfl
            rw [hQ, ← hAe]
            refine r_i (v := (iZ (li3.length : Int))) K ((li3.length : Int), fx2, fy2, fq3, v2, kd0, kd1) hS d_Mo_print_145 ?_ (fun t ht hv => ?_)
            · try dsimp only
              have t0 : 0 < tv a := nd_pos.mp (by omega)
              have kD : IsD (tv a) kd0 := by rcases p2 with z | z; omega; exact z.2
              have b1 : bv a ≠ 1 := bv_two (by omega)
              have eT : ((if sg a < 0 then ([45] : List Nat) else []) ++ (dg kd0 (tv a) ++ (if bv a = 1 then [] else 47 :: dg kd1 (bv a)))) = li3 := by
                rw [if_pos (by omega), if_neg b1]
                rw [hli3, hli2, hli1, hli0]
                simp
              refine ⟨rfl, ?_, w2, ?_, ?_, ?_⟩
              · rw [eT]
              · rw [eT]; exact p4
              · exact kD
              · intro _; rcases p5 with z | z; omega; exact z.2
            · exact ⟨by rw [ht]; exact hP9, va_K.moved hv hK, by rw [← hAe]; exact hD9⟩
      · refine lv_aload_n hx hb d_Mo_print_75 rfl (lv_at hl 0 rfl) ?_
        refine va_get (D := D) (ci := 8) (v := .ref op_) (C := R_Mo) (T := F_Mo) (N := 14) hx hb hts i_Mo hown hK hP 4 rfl rfl 12 (by decide) (hts _ (big_in mw_1127 rfl)) (fun _ h9 => h9) rfl d_Mo_print_76 ?_
        refine lv_iconst (v := iZ (0)) hx hb d_Mo_print_79 (by decide +kernel) ?_
        refine lv_bipush (v := iZ (48)) hx hb d_Mo_print_80 (by decide +kernel) ?_
        refine zz_iast hx hb hK hP hD hS 3 0 rfl rfl (0) (by omega) (by omega) (by omega) d_Mo_print_82 (fun H locs hP hD hS => ?_)
        have hP : va_P D cls0 [(oh, .inl (cI, 10000, .inl fh)), (og, .inl (cI, 32, .inl fs)), (on_, .inl (cI, 32, .inl fn)), (op_, .inl (cI, 22000, .inl (upd (upd fq 0 (iZ 45)) 0 (iZ 48)))), (mo, .inr (8, [.int (iZ 0), .int (iZ (np : Int)), .ref ow, .ref om, .ref ok_, .ref oK, .ref og, .ref on_, .ref oh, .ref ox, .int qn, .int qf, .ref op_, .int (iZ 1)])), (ow, .inl (cI, 108000, .inl fx2)), (om, .inl (cI, 9, .inl fy2)), (ok_, .inl (cI, 166400, .inl fk)), (oK, .inl (cI, 64, .inl fK))] H := hP
        have hD : va_D A [(oh, .inl (cI, 10000, .inl fh)), (og, .inl (cI, 32, .inl fs)), (on_, .inl (cI, 32, .inl fn)), (op_, .inl (cI, 22000, .inl (upd (upd fq 0 (iZ 45)) 0 (iZ 48)))), (mo, .inr (8, [.int (iZ 0), .int (iZ (np : Int)), .ref ow, .ref om, .ref ok_, .ref oK, .ref og, .ref on_, .ref oh, .ref ox, .int qn, .int qf, .ref op_, .int (iZ 1)])), (ow, .inl (cI, 108000, .inl fx2)), (om, .inl (cI, 9, .inl fy2)), (ok_, .inl (cI, 166400, .inl fk)), (oK, .inl (cI, 64, .inl fK))] := hD
        refine lv_aload_n hx hb d_Mo_print_83 rfl (lv_at hl 0 rfl) ?_
        refine lv_iconst (v := iZ (1)) hx hb d_Mo_print_84 (by decide +kernel) ?_
        refine va_put (D := D) (ci := 8) (v := .int (iZ 1)) (ty := .int) (C := R_Mo) (T := F_Mo) (N := 14) hx hb hts i_Mo t_Mo t_Mo_ok n_Mo hown hK hP hD hS 4 rfl rfl 13 (by decide) (hts _ (big_in mw_1128 rfl)) (fun _ h9 => h9) rfl (by decide +kernel) rfl rfl (Nat.le_of_ble_eq_true rfl) d_Mo_print_85 (fun H locs hP hD hS => ?_)
        have hP : va_P D cls0 [(oh, .inl (cI, 10000, .inl fh)), (og, .inl (cI, 32, .inl fs)), (on_, .inl (cI, 32, .inl fn)), (op_, .inl (cI, 22000, .inl (upd (upd fq 0 (iZ 45)) 0 (iZ 48)))), (mo, .inr (8, [.int (iZ 0), .int (iZ (np : Int)), .ref ow, .ref om, .ref ok_, .ref oK, .ref og, .ref on_, .ref oh, .ref ox, .int qn, .int qf, .ref op_, .int (iZ 1)])), (ow, .inl (cI, 108000, .inl fx2)), (om, .inl (cI, 9, .inl fy2)), (ok_, .inl (cI, 166400, .inl fk)), (oK, .inl (cI, 64, .inl fK))] H := hP
        have hD : va_D A [(oh, .inl (cI, 10000, .inl fh)), (og, .inl (cI, 32, .inl fs)), (on_, .inl (cI, 32, .inl fn)), (op_, .inl (cI, 22000, .inl (upd (upd fq 0 (iZ 45)) 0 (iZ 48)))), (mo, .inr (8, [.int (iZ 0), .int (iZ (np : Int)), .ref ow, .ref om, .ref ok_, .ref oK, .ref og, .ref on_, .ref oh, .ref ox, .int qn, .int qf, .ref op_, .int (iZ 1)])), (ow, .inl (cI, 108000, .inl fx2)), (om, .inl (cI, 9, .inl fy2)), (ok_, .inl (cI, 166400, .inl fk)), (oK, .inl (cI, 64, .inl fK))] := hD
        refine lv_aload_n hx hb d_Mo_print_88 rfl (lv_at hl 0 rfl) ?_
        refine lv_iconst (v := iZ (0)) hx hb d_Mo_print_89 (by decide +kernel) ?_
        obtain ⟨li0, hli0⟩ : ∃ l : List Nat, l = [48] := ⟨_, rfl⟩
        have hl0 : li0.length = 1 := by rw [hli0]; rfl
        have p0 : PX (upd (upd fq 0 (iZ 45)) 0 (iZ 48)) li0 := by rw [hli0]; exact (PX.nil _).put (ch := 48) rfl
        have hP : va_P D cls0 [(oh, .inl (cI, 10000, .inl fh)), (og, .inl (cI, 32, .inl fs)), (on_, .inl (cI, 32, .inl fn)), (op_, .inl (cI, 22000, .inl (upd (upd fq 0 (iZ 45)) 0 (iZ 48)))), (mo, .inr (8, [.int (iZ 0), .int (iZ (np : Int)), .ref ow, .ref om, .ref ok_, .ref oK, .ref og, .ref on_, .ref oh, .ref ox, .int qn, .int qf, .ref op_, .int (iZ (li0.length : Int))])), (ow, .inl (cI, 108000, .inl fx2)), (om, .inl (cI, 9, .inl fy2)), (ok_, .inl (cI, 166400, .inl fk)), (oK, .inl (cI, 64, .inl fK))] H := by rw [show (li0.length : Int) = 1 by omega]; exact hP
        have hD : va_D A [(oh, .inl (cI, 10000, .inl fh)), (og, .inl (cI, 32, .inl fs)), (on_, .inl (cI, 32, .inl fn)), (op_, .inl (cI, 22000, .inl (upd (upd fq 0 (iZ 45)) 0 (iZ 48)))), (mo, .inr (8, [.int (iZ 0), .int (iZ (np : Int)), .ref ow, .ref om, .ref ok_, .ref oK, .ref og, .ref on_, .ref oh, .ref ox, .int qn, .int qf, .ref op_, .int (iZ (li0.length : Int))])), (ow, .inl (cI, 108000, .inl fx2)), (om, .inl (cI, 9, .inl fy2)), (ok_, .inl (cI, 166400, .inl fk)), (oK, .inl (cI, 64, .inl fK))] := by rw [show (li0.length : Int) = 1 by omega]; exact hD
        refine cv (n := 1) (wr := [(oh, .inl (cI, 10000, .inl fh)), (og, .inl (cI, 32, .inl fs)), (on_, .inl (cI, 32, .inl fn)), (ok_, .inl (cI, 166400, .inl fk)), (oK, .inl (cI, 64, .inl fK))]) (w1 := (fun (u : (Nat → Int32) × Nat) => [(mo, .inr (8, [.int (iZ 0), .int (iZ (np : Int)), .ref ow, .ref om, .ref ok_, .ref oK, .ref og, .ref on_, .ref oh, .ref ox, .int qn, .int qf, .ref op_, .int (iZ ((li0 ++ dg u.2 (v2 0)).length : Int))])), (ow, .inl (cI, 108000, .inl fx2)), (om, .inl (cI, 9, .inl fy2)), (op_, .inl (cI, 22000, .inl u.1))])) (As := [.int (iZ 0)]) (rest := []) K hP hD hK hS hA hl.1 (c_Mo_say l D mo (iZ 0) np ow om ok_ oK og on_ oh ox qn qf op_ fx2 fy2 cI (upd (upd fq 0 (iZ 45)) 0 (iZ 48)) v2 li0 0 H.size w2 p0 (by omega) (by decide) (by rw [e0]; omega)) [4, 5, 6, 3] [0, 1, 2, 7, 8] [0] rfl rfl rfl (by decide) (by decide) (by decide) 0 rfl rfl (big_in mw_1396 rfl) (big_in mw_10 rfl) (big_in mw_1393 rfl) (big_in mw_1395 rfl) (big_in sp_51 rfl) rfl rfl (by decide +kernel) ⟨by rw [hR]; exact Nat.le_of_ble_eq_true rfl, by rw [hR]; exact Nat.le_of_ble_eq_true rfl⟩ rfl (Nat.le_of_ble_eq_true rfl) d_Mo_print_90 ⟨by rw [hR]; exact Nat.le_of_ble_eq_true rfl, by rw [hR]; exact Nat.le_of_ble_eq_true rfl⟩ rfl (fun v u H locs hp14 hP hD hS _ => ?_)
        obtain ⟨fq1, kd0⟩ := u
        try dsimp only at hp14
        obtain ⟨rfl, p1, p2⟩ := hp14
        have hP : va_P D cls0 [(oh, .inl (cI, 10000, .inl fh)), (og, .inl (cI, 32, .inl fs)), (on_, .inl (cI, 32, .inl fn)), (ok_, .inl (cI, 166400, .inl fk)), (oK, .inl (cI, 64, .inl fK)), (mo, .inr (8, [.int (iZ 0), .int (iZ (np : Int)), .ref ow, .ref om, .ref ok_, .ref oK, .ref og, .ref on_, .ref oh, .ref ox, .int qn, .int qf, .ref op_, .int (iZ ((li0 ++ dg kd0 (v2 0)).length : Int))])), (ow, .inl (cI, 108000, .inl fx2)), (om, .inl (cI, 9, .inl fy2)), (op_, .inl (cI, 22000, .inl fq1))] H := hP
        have hD : va_D A [(oh, .inl (cI, 10000, .inl fh)), (og, .inl (cI, 32, .inl fs)), (on_, .inl (cI, 32, .inl fn)), (ok_, .inl (cI, 166400, .inl fk)), (oK, .inl (cI, 64, .inl fK)), (mo, .inr (8, [.int (iZ 0), .int (iZ (np : Int)), .ref ow, .ref om, .ref ok_, .ref oK, .ref og, .ref on_, .ref oh, .ref ox, .int qn, .int qf, .ref op_, .int (iZ ((li0 ++ dg kd0 (v2 0)).length : Int))])), (ow, .inl (cI, 108000, .inl fx2)), (om, .inl (cI, 9, .inl fy2)), (op_, .inl (cI, 22000, .inl fq1))] := hD
        show W p l e R s m args below meth c H locs _ _ Q (F0 m 93 ls [])
        rw [e0] at p1 p2
        rw [e0] at hP hD
        obtain ⟨li1, hli1⟩ : ∃ l : List Nat, l = li0 ++ dg kd0 (tv a) := ⟨_, rfl⟩
        rw [← hli1] at p1 hP hD
        have hl1 : li1.length = li0.length + kd0 := by rw [hli1, List.length_append, dg_len]
        have bk : kd0 ≤ 4 * nd (tv a) + 1 := by rcases p2 with z | z; omega; exact IsD_nd z.2
        refine lv_aload_n hx hb d_Mo_print_93 rfl (lv_at hl 0 rfl) ?_
        refine va_get (D := D) (ci := 8) (v := .ref om) (C := R_Mo) (T := F_Mo) (N := 14) hx hb hts i_Mo hown hK hP 5 rfl rfl 3 (by decide) (hts _ (big_in mw_1118 rfl)) (fun _ h9 => h9) rfl d_Mo_print_94 ?_
        refine lv_iconst (v := iZ (1)) hx hb d_Mo_print_97 (by decide +kernel) ?_
        refine zz_iald hx hb hK hP 7 0 rfl rfl (1) (by omega) (by omega) (by omega) d_Mo_print_98 ?_
        rw [w2.m (by decide), e1]
        refine lv_iconst (v := iZ (1)) hx hb d_Mo_print_99 (by decide +kernel) ?_
        refine zz_icmp_gt (tgt := 115) hx hb d_Mo_print_100 (by decide) (by omega) (by omega) (fun c100 => ?_) (fun c100 => ?_)
        · refine lv_aload_n hx hb d_Mo_print_115 rfl (lv_at hl 0 rfl) ?_
          refine va_get (D := D) (ci := 8) (v := .ref op_) (C := R_Mo) (T := F_Mo) (N := 14) hx hb hts i_Mo hown hK hP 5 rfl rfl 12 (by decide) (hts _ (big_in mw_1127 rfl)) (fun _ h9 => h9) rfl d_Mo_print_116 ?_
          refine lv_aload_n hx hb d_Mo_print_119 rfl (lv_at hl 0 rfl) ?_
          refine va_get (D := D) (ci := 8) (v := .int (iZ (li1.length : Int))) (C := R_Mo) (T := F_Mo) (N := 14) hx hb hts i_Mo hown hK hP 5 rfl rfl 13 (by decide) (hts _ (big_in mw_1128 rfl)) (fun _ h9 => h9) rfl d_Mo_print_120 ?_
          refine lv_bipush (v := iZ (47)) hx hb d_Mo_print_123 (by decide +kernel) ?_
          refine zz_iast hx hb hK hP hD hS 8 0 rfl rfl (li1.length) (by omega) (by omega) (by omega) d_Mo_print_125 (fun H locs hP hD hS => ?_)
          have hP : va_P D cls0 [(oh, .inl (cI, 10000, .inl fh)), (og, .inl (cI, 32, .inl fs)), (on_, .inl (cI, 32, .inl fn)), (ok_, .inl (cI, 166400, .inl fk)), (oK, .inl (cI, 64, .inl fK)), (mo, .inr (8, [.int (iZ 0), .int (iZ (np : Int)), .ref ow, .ref om, .ref ok_, .ref oK, .ref og, .ref on_, .ref oh, .ref ox, .int qn, .int qf, .ref op_, .int (iZ (li1.length : Int))])), (ow, .inl (cI, 108000, .inl fx2)), (om, .inl (cI, 9, .inl fy2)), (op_, .inl (cI, 22000, .inl (upd fq1 li1.length (iZ 47))))] H := hP
          have hD : va_D A [(oh, .inl (cI, 10000, .inl fh)), (og, .inl (cI, 32, .inl fs)), (on_, .inl (cI, 32, .inl fn)), (ok_, .inl (cI, 166400, .inl fk)), (oK, .inl (cI, 64, .inl fK)), (mo, .inr (8, [.int (iZ 0), .int (iZ (np : Int)), .ref ow, .ref om, .ref ok_, .ref oK, .ref og, .ref on_, .ref oh, .ref ox, .int qn, .int qf, .ref op_, .int (iZ (li1.length : Int))])), (ow, .inl (cI, 108000, .inl fx2)), (om, .inl (cI, 9, .inl fy2)), (op_, .inl (cI, 22000, .inl (upd fq1 li1.length (iZ 47))))] := hD
          refine lv_aload_n hx hb d_Mo_print_126 rfl (lv_at hl 0 rfl) ?_
          refine lv_dup hx hb d_Mo_print_127 rfl ?_
          refine va_get (D := D) (ci := 8) (v := .int (iZ (li1.length : Int))) (C := R_Mo) (T := F_Mo) (N := 14) hx hb hts i_Mo hown hK hP 5 rfl rfl 13 (by decide) (hts _ (big_in mw_1128 rfl)) (fun _ h9 => h9) rfl d_Mo_print_128 ?_
          refine lv_iconst (v := iZ (1)) hx hb d_Mo_print_131 (by decide +kernel) ?_
          refine zz_iadd hx hb d_Mo_print_132 ?_
          refine va_put (D := D) (ci := 8) (v := .int (iZ ((li1.length : Int) + 1))) (ty := .int) (C := R_Mo) (T := F_Mo) (N := 14) hx hb hts i_Mo t_Mo t_Mo_ok n_Mo hown hK hP hD hS 5 rfl rfl 13 (by decide) (hts _ (big_in mw_1128 rfl)) (fun _ h9 => h9) rfl (by decide +kernel) rfl rfl (Nat.le_of_ble_eq_true rfl) d_Mo_print_133 (fun H locs hP hD hS => ?_)
          have hP : va_P D cls0 [(oh, .inl (cI, 10000, .inl fh)), (og, .inl (cI, 32, .inl fs)), (on_, .inl (cI, 32, .inl fn)), (ok_, .inl (cI, 166400, .inl fk)), (oK, .inl (cI, 64, .inl fK)), (mo, .inr (8, [.int (iZ 0), .int (iZ (np : Int)), .ref ow, .ref om, .ref ok_, .ref oK, .ref og, .ref on_, .ref oh, .ref ox, .int qn, .int qf, .ref op_, .int (iZ ((li1.length : Int) + 1))])), (ow, .inl (cI, 108000, .inl fx2)), (om, .inl (cI, 9, .inl fy2)), (op_, .inl (cI, 22000, .inl (upd fq1 li1.length (iZ 47))))] H := hP
          have hD : va_D A [(oh, .inl (cI, 10000, .inl fh)), (og, .inl (cI, 32, .inl fs)), (on_, .inl (cI, 32, .inl fn)), (ok_, .inl (cI, 166400, .inl fk)), (oK, .inl (cI, 64, .inl fK)), (mo, .inr (8, [.int (iZ 0), .int (iZ (np : Int)), .ref ow, .ref om, .ref ok_, .ref oK, .ref og, .ref on_, .ref oh, .ref ox, .int qn, .int qf, .ref op_, .int (iZ ((li1.length : Int) + 1))])), (ow, .inl (cI, 108000, .inl fx2)), (om, .inl (cI, 9, .inl fy2)), (op_, .inl (cI, 22000, .inl (upd fq1 li1.length (iZ 47))))] := hD
          refine lv_aload_n hx hb d_Mo_print_136 rfl (lv_at hl 0 rfl) ?_
          refine lv_iconst (v := iZ (1)) hx hb d_Mo_print_137 (by decide +kernel) ?_
          obtain ⟨li2, hli2⟩ : ∃ l : List Nat, l = li1 ++ [47] := ⟨_, rfl⟩
          have hl2 : li2.length = li1.length + 1 := by rw [hli2, List.length_append]; rfl
          have p3 : PX (upd fq1 li1.length (iZ 47)) li2 := by rw [hli2]; exact p1.put rfl
          rw [show ((li1.length : Int) + 1 : Int) = (li2.length : Int) by omega] at hP hD
          refine cv (n := 1) (wr := [(oh, .inl (cI, 10000, .inl fh)), (og, .inl (cI, 32, .inl fs)), (on_, .inl (cI, 32, .inl fn)), (ok_, .inl (cI, 166400, .inl fk)), (oK, .inl (cI, 64, .inl fK))]) (w1 := (fun (u : (Nat → Int32) × Nat) => [(mo, .inr (8, [.int (iZ 0), .int (iZ (np : Int)), .ref ow, .ref om, .ref ok_, .ref oK, .ref og, .ref on_, .ref oh, .ref ox, .int qn, .int qf, .ref op_, .int (iZ ((li2 ++ dg u.2 (v2 1)).length : Int))])), (ow, .inl (cI, 108000, .inl fx2)), (om, .inl (cI, 9, .inl fy2)), (op_, .inl (cI, 22000, .inl u.1))])) (As := [.int (iZ 1)]) (rest := []) K hP hD hK hS hA hl.1 (c_Mo_say l D mo (iZ 0) np ow om ok_ oK og on_ oh ox qn qf op_ fx2 fy2 cI (upd fq1 li1.length (iZ 47)) v2 li2 1 H.size w2 p3 (by omega) (by decide) (by rw [e1]; omega)) [5, 6, 7, 8] [0, 1, 2, 3, 4] [0] rfl rfl rfl (by decide) (by decide) (by decide) 0 rfl rfl (big_in mw_1396 rfl) (big_in mw_10 rfl) (big_in mw_1393 rfl) (big_in mw_1395 rfl) (big_in sp_51 rfl) rfl rfl (by decide +kernel) ⟨by rw [hR]; exact Nat.le_of_ble_eq_true rfl, by rw [hR]; exact Nat.le_of_ble_eq_true rfl⟩ rfl (Nat.le_of_ble_eq_true rfl) d_Mo_print_138 ⟨by rw [hR]; exact Nat.le_of_ble_eq_true rfl, by rw [hR]; exact Nat.le_of_ble_eq_true rfl⟩ rfl (fun v u H locs hp15 hP hD hS _ => ?_)
          obtain ⟨fq3, kd1⟩ := u
          try dsimp only at hp15
          obtain ⟨rfl, p4, p5⟩ := hp15
          have hP : va_P D cls0 [(oh, .inl (cI, 10000, .inl fh)), (og, .inl (cI, 32, .inl fs)), (on_, .inl (cI, 32, .inl fn)), (ok_, .inl (cI, 166400, .inl fk)), (oK, .inl (cI, 64, .inl fK)), (mo, .inr (8, [.int (iZ 0), .int (iZ (np : Int)), .ref ow, .ref om, .ref ok_, .ref oK, .ref og, .ref on_, .ref oh, .ref ox, .int qn, .int qf, .ref op_, .int (iZ ((li2 ++ dg kd1 (v2 1)).length : Int))])), (ow, .inl (cI, 108000, .inl fx2)), (om, .inl (cI, 9, .inl fy2)), (op_, .inl (cI, 22000, .inl fq3))] H := hP
          have hD : va_D A [(oh, .inl (cI, 10000, .inl fh)), (og, .inl (cI, 32, .inl fs)), (on_, .inl (cI, 32, .inl fn)), (ok_, .inl (cI, 166400, .inl fk)), (oK, .inl (cI, 64, .inl fK)), (mo, .inr (8, [.int (iZ 0), .int (iZ (np : Int)), .ref ow, .ref om, .ref ok_, .ref oK, .ref og, .ref on_, .ref oh, .ref ox, .int qn, .int qf, .ref op_, .int (iZ ((li2 ++ dg kd1 (v2 1)).length : Int))])), (ow, .inl (cI, 108000, .inl fx2)), (om, .inl (cI, 9, .inl fy2)), (op_, .inl (cI, 22000, .inl fq3))] := hD
          show W p l e R s m args below meth c H locs _ _ Q (F0 m 141 ls [])
          rw [e1] at p4 p5
          rw [e1] at hP hD
          obtain ⟨li3, hli3⟩ : ∃ l : List Nat, l = li2 ++ dg kd1 (bv a) := ⟨_, rfl⟩
          rw [← hli3] at p4 hP hD
          refine lv_aload_n hx hb d_Mo_print_141 rfl (lv_at hl 0 rfl) ?_
          refine va_get (D := D) (ci := 8) (v := .int (iZ (li3.length : Int))) (C := R_Mo) (T := F_Mo) (N := 14) hx hb hts i_Mo hown hK hP 5 rfl rfl 13 (by decide) (hts _ (big_in mw_1128 rfl)) (fun _ h9 => h9) rfl d_Mo_print_142 ?_
          have hP9 : va_P D cls0 [(mo, .inr (8, [.int (iZ 0), .int (iZ (np : Int)), .ref ow, .ref om, .ref ok_, .ref oK, .ref og, .ref on_, .ref oh, .ref ox, .int qn, .int qf, .ref op_, .int (iZ (li3.length : Int))])), (ow, .inl (cI, 108000, .inl fx2)), (om, .inl (cI, 9, .inl fy2)), (oh, .inl (cI, 10000, .inl fh)), (ok_, .inl (cI, 166400, .inl fk)), (oK, .inl (cI, 64, .inl fK)), (og, .inl (cI, 32, .inl fs)), (on_, .inl (cI, 32, .inl fn)), (op_, .inl (cI, 22000, .inl fq3))] H := hP.sub [5, 6, 7, 0, 3, 4, 1, 2, 8] rfl
          have hD9 : va_D A [(mo, .inr (8, [.int (iZ 0), .int (iZ (np : Int)), .ref ow, .ref om, .ref ok_, .ref oK, .ref og, .ref on_, .ref oh, .ref ox, .int qn, .int qf, .ref op_, .int (iZ (li3.length : Int))])), (ow, .inl (cI, 108000, .inl fx2)), (om, .inl (cI, 9, .inl fy2)), (oh, .inl (cI, 10000, .inl fh)), (ok_, .inl (cI, 166400, .inl fk)), (oK, .inl (cI, 64, .inl fK)), (og, .inl (cI, 32, .inl fs)), (on_, .inl (cI, 32, .inl fn)), (op_, .inl (cI, 22000, .inl fq3))] := hD.sub [5, 6, 7, 0, 3, 4, 1, 2, 8] (by decide) rfl
          rw [hQ, ← hAe]
          refine r_i (v := (iZ (li3.length : Int))) K ((li3.length : Int), fx2, fy2, fq3, v2, 1, kd1) hS d_Mo_print_145 ?_ (fun t ht hv => ?_)
          · try dsimp only
            have t0 : tv a = 0 := Nat.eq_zero_of_not_pos (fun z => by have y := nd_pos.mpr z; omega)
            have kd00 : kd0 = 0 := by rcases p2 with z | z; exact z.2; omega
            have s0 : sg a = 0 := ja2.mpr t0
            have b1 : bv a ≠ 1 := bv_two (by omega)
            have eT : ((if sg a < 0 then ([45] : List Nat) else []) ++ (dg 1 (tv a) ++ (if bv a = 1 then [] else 47 :: dg kd1 (bv a)))) = li3 := by
              rw [if_neg (by omega), if_neg b1]
              rw [hli3, hli2, hli1, hli0, t0, kd00]
              simp [dg]
            refine ⟨rfl, ?_, w2, ?_, ?_, ?_⟩
            · rw [eT]
            · rw [eT]; exact p4
            · rw [t0]; exact ⟨by decide, by decide, Or.inl rfl⟩
            · intro _; rcases p5 with z | z; omega; exact z.2
          · exact ⟨by rw [ht]; exact hP9, va_K.moved hv hK, by rw [← hAe]; exact hD9⟩
        · have dbb := dz_lt (bv a) 0
          have npb := nd_pos.mpr pa
          refine lv_aload_n hx hb d_Mo_print_103 rfl (lv_at hl 0 rfl) ?_
          refine va_get (D := D) (ci := 8) (v := .ref ow) (C := R_Mo) (T := F_Mo) (N := 14) hx hb hts i_Mo hown hK hP 5 rfl rfl 2 (by decide) (hts _ (big_in mw_1117 rfl)) (fun _ h9 => h9) rfl d_Mo_print_104 ?_
          refine lv_sipush (v := iZ (12000)) hx hb d_Mo_print_107 (by decide +kernel) ?_
          refine zz_iald hx hb hK hP 6 0 rfl rfl (12000 * 1 + 0) (by omega) (by omega) (by omega) d_Mo_print_110 ?_
          rw [w2.d (b := 1) (i := 0) (by decide) (by rw [e1]; omega), e1]
          refine lv_iconst (v := iZ (1)) hx hb d_Mo_print_111 (by decide +kernel) ?_
          refine zz_icmp_le (tgt := 141) hx hb d_Mo_print_112 (by decide) (by omega) (by omega) (fun c112 => ?_) (fun c112 => ?_)
          · refine lv_aload_n hx hb d_Mo_print_141 rfl (lv_at hl 0 rfl) ?_
            refine va_get (D := D) (ci := 8) (v := .int (iZ (li1.length : Int))) (C := R_Mo) (T := F_Mo) (N := 14) hx hb hts i_Mo hown hK hP 5 rfl rfl 13 (by decide) (hts _ (big_in mw_1128 rfl)) (fun _ h9 => h9) rfl d_Mo_print_142 ?_
            have hP9 : va_P D cls0 [(mo, .inr (8, [.int (iZ 0), .int (iZ (np : Int)), .ref ow, .ref om, .ref ok_, .ref oK, .ref og, .ref on_, .ref oh, .ref ox, .int qn, .int qf, .ref op_, .int (iZ (li1.length : Int))])), (ow, .inl (cI, 108000, .inl fx2)), (om, .inl (cI, 9, .inl fy2)), (oh, .inl (cI, 10000, .inl fh)), (ok_, .inl (cI, 166400, .inl fk)), (oK, .inl (cI, 64, .inl fK)), (og, .inl (cI, 32, .inl fs)), (on_, .inl (cI, 32, .inl fn)), (op_, .inl (cI, 22000, .inl fq1))] H := hP.sub [5, 6, 7, 0, 3, 4, 1, 2, 8] rfl
            have hD9 : va_D A [(mo, .inr (8, [.int (iZ 0), .int (iZ (np : Int)), .ref ow, .ref om, .ref ok_, .ref oK, .ref og, .ref on_, .ref oh, .ref ox, .int qn, .int qf, .ref op_, .int (iZ (li1.length : Int))])), (ow, .inl (cI, 108000, .inl fx2)), (om, .inl (cI, 9, .inl fy2)), (oh, .inl (cI, 10000, .inl fh)), (ok_, .inl (cI, 166400, .inl fk)), (oK, .inl (cI, 64, .inl fK)), (og, .inl (cI, 32, .inl fs)), (on_, .inl (cI, 32, .inl fn)), (op_, .inl (cI, 22000, .inl fq1))] := hD.sub [5, 6, 7, 0, 3, 4, 1, 2, 8] (by decide) rfl
            rw [hQ, ← hAe]
            refine r_i (v := (iZ (li1.length : Int))) K ((li1.length : Int), fx2, fy2, fq1, v2, 1, 0) hS d_Mo_print_145 ?_ (fun t ht hv => ?_)
            · try dsimp only
              have t0 : tv a = 0 := Nat.eq_zero_of_not_pos (fun z => by have y := nd_pos.mpr z; omega)
              have kd00 : kd0 = 0 := by rcases p2 with z | z; exact z.2; omega
              have s0 : sg a = 0 := ja2.mpr t0
              have b1 : bv a = 1 := bv_one pa (by omega) (by omega)
              have eT : ((if sg a < 0 then ([45] : List Nat) else []) ++ (dg 1 (tv a) ++ (if bv a = 1 then [] else 47 :: dg 0 (bv a)))) = li1 := by
                rw [if_neg (by omega), if_pos b1]
                rw [hli1, hli0, t0, kd00]
                simp [dg]
              refine ⟨rfl, ?_, w2, ?_, ?_, ?_⟩
              · rw [eT]
              · rw [eT]; exact p1
              · rw [t0]; exact ⟨by decide, by decide, Or.inl rfl⟩
              · intro z; exact absurd b1 z
            · exact ⟨by rw [ht]; exact hP9, va_K.moved hv hK, by rw [← hAe]; exact hD9⟩
          · refine lv_aload_n hx hb d_Mo_print_115 rfl (lv_at hl 0 rfl) ?_
            refine va_get (D := D) (ci := 8) (v := .ref op_) (C := R_Mo) (T := F_Mo) (N := 14) hx hb hts i_Mo hown hK hP 5 rfl rfl 12 (by decide) (hts _ (big_in mw_1127 rfl)) (fun _ h9 => h9) rfl d_Mo_print_116 ?_
            refine lv_aload_n hx hb d_Mo_print_119 rfl (lv_at hl 0 rfl) ?_
            refine va_get (D := D) (ci := 8) (v := .int (iZ (li1.length : Int))) (C := R_Mo) (T := F_Mo) (N := 14) hx hb hts i_Mo hown hK hP 5 rfl rfl 13 (by decide) (hts _ (big_in mw_1128 rfl)) (fun _ h9 => h9) rfl d_Mo_print_120 ?_
            refine lv_bipush (v := iZ (47)) hx hb d_Mo_print_123 (by decide +kernel) ?_
            refine zz_iast hx hb hK hP hD hS 8 0 rfl rfl (li1.length) (by omega) (by omega) (by omega) d_Mo_print_125 (fun H locs hP hD hS => ?_)
            have hP : va_P D cls0 [(oh, .inl (cI, 10000, .inl fh)), (og, .inl (cI, 32, .inl fs)), (on_, .inl (cI, 32, .inl fn)), (ok_, .inl (cI, 166400, .inl fk)), (oK, .inl (cI, 64, .inl fK)), (mo, .inr (8, [.int (iZ 0), .int (iZ (np : Int)), .ref ow, .ref om, .ref ok_, .ref oK, .ref og, .ref on_, .ref oh, .ref ox, .int qn, .int qf, .ref op_, .int (iZ (li1.length : Int))])), (ow, .inl (cI, 108000, .inl fx2)), (om, .inl (cI, 9, .inl fy2)), (op_, .inl (cI, 22000, .inl (upd fq1 li1.length (iZ 47))))] H := hP
            have hD : va_D A [(oh, .inl (cI, 10000, .inl fh)), (og, .inl (cI, 32, .inl fs)), (on_, .inl (cI, 32, .inl fn)), (ok_, .inl (cI, 166400, .inl fk)), (oK, .inl (cI, 64, .inl fK)), (mo, .inr (8, [.int (iZ 0), .int (iZ (np : Int)), .ref ow, .ref om, .ref ok_, .ref oK, .ref og, .ref on_, .ref oh, .ref ox, .int qn, .int qf, .ref op_, .int (iZ (li1.length : Int))])), (ow, .inl (cI, 108000, .inl fx2)), (om, .inl (cI, 9, .inl fy2)), (op_, .inl (cI, 22000, .inl (upd fq1 li1.length (iZ 47))))] := hD
            refine lv_aload_n hx hb d_Mo_print_126 rfl (lv_at hl 0 rfl) ?_
            refine lv_dup hx hb d_Mo_print_127 rfl ?_
            refine va_get (D := D) (ci := 8) (v := .int (iZ (li1.length : Int))) (C := R_Mo) (T := F_Mo) (N := 14) hx hb hts i_Mo hown hK hP 5 rfl rfl 13 (by decide) (hts _ (big_in mw_1128 rfl)) (fun _ h9 => h9) rfl d_Mo_print_128 ?_
            refine lv_iconst (v := iZ (1)) hx hb d_Mo_print_131 (by decide +kernel) ?_
            refine zz_iadd hx hb d_Mo_print_132 ?_
            refine va_put (D := D) (ci := 8) (v := .int (iZ ((li1.length : Int) + 1))) (ty := .int) (C := R_Mo) (T := F_Mo) (N := 14) hx hb hts i_Mo t_Mo t_Mo_ok n_Mo hown hK hP hD hS 5 rfl rfl 13 (by decide) (hts _ (big_in mw_1128 rfl)) (fun _ h9 => h9) rfl (by decide +kernel) rfl rfl (Nat.le_of_ble_eq_true rfl) d_Mo_print_133 (fun H locs hP hD hS => ?_)
            have hP : va_P D cls0 [(oh, .inl (cI, 10000, .inl fh)), (og, .inl (cI, 32, .inl fs)), (on_, .inl (cI, 32, .inl fn)), (ok_, .inl (cI, 166400, .inl fk)), (oK, .inl (cI, 64, .inl fK)), (mo, .inr (8, [.int (iZ 0), .int (iZ (np : Int)), .ref ow, .ref om, .ref ok_, .ref oK, .ref og, .ref on_, .ref oh, .ref ox, .int qn, .int qf, .ref op_, .int (iZ ((li1.length : Int) + 1))])), (ow, .inl (cI, 108000, .inl fx2)), (om, .inl (cI, 9, .inl fy2)), (op_, .inl (cI, 22000, .inl (upd fq1 li1.length (iZ 47))))] H := hP
            have hD : va_D A [(oh, .inl (cI, 10000, .inl fh)), (og, .inl (cI, 32, .inl fs)), (on_, .inl (cI, 32, .inl fn)), (ok_, .inl (cI, 166400, .inl fk)), (oK, .inl (cI, 64, .inl fK)), (mo, .inr (8, [.int (iZ 0), .int (iZ (np : Int)), .ref ow, .ref om, .ref ok_, .ref oK, .ref og, .ref on_, .ref oh, .ref ox, .int qn, .int qf, .ref op_, .int (iZ ((li1.length : Int) + 1))])), (ow, .inl (cI, 108000, .inl fx2)), (om, .inl (cI, 9, .inl fy2)), (op_, .inl (cI, 22000, .inl (upd fq1 li1.length (iZ 47))))] := hD
            refine lv_aload_n hx hb d_Mo_print_136 rfl (lv_at hl 0 rfl) ?_
            refine lv_iconst (v := iZ (1)) hx hb d_Mo_print_137 (by decide +kernel) ?_
            obtain ⟨li2, hli2⟩ : ∃ l : List Nat, l = li1 ++ [47] := ⟨_, rfl⟩
            have hl2 : li2.length = li1.length + 1 := by rw [hli2, List.length_append]; rfl
            have p3 : PX (upd fq1 li1.length (iZ 47)) li2 := by rw [hli2]; exact p1.put rfl
            rw [show ((li1.length : Int) + 1 : Int) = (li2.length : Int) by omega] at hP hD
            refine cv (n := 1) (wr := [(oh, .inl (cI, 10000, .inl fh)), (og, .inl (cI, 32, .inl fs)), (on_, .inl (cI, 32, .inl fn)), (ok_, .inl (cI, 166400, .inl fk)), (oK, .inl (cI, 64, .inl fK))]) (w1 := (fun (u : (Nat → Int32) × Nat) => [(mo, .inr (8, [.int (iZ 0), .int (iZ (np : Int)), .ref ow, .ref om, .ref ok_, .ref oK, .ref og, .ref on_, .ref oh, .ref ox, .int qn, .int qf, .ref op_, .int (iZ ((li2 ++ dg u.2 (v2 1)).length : Int))])), (ow, .inl (cI, 108000, .inl fx2)), (om, .inl (cI, 9, .inl fy2)), (op_, .inl (cI, 22000, .inl u.1))])) (As := [.int (iZ 1)]) (rest := []) K hP hD hK hS hA hl.1 (c_Mo_say l D mo (iZ 0) np ow om ok_ oK og on_ oh ox qn qf op_ fx2 fy2 cI (upd fq1 li1.length (iZ 47)) v2 li2 1 H.size w2 p3 (by omega) (by decide) (by rw [e1]; omega)) [5, 6, 7, 8] [0, 1, 2, 3, 4] [0] rfl rfl rfl (by decide) (by decide) (by decide) 0 rfl rfl (big_in mw_1396 rfl) (big_in mw_10 rfl) (big_in mw_1393 rfl) (big_in mw_1395 rfl) (big_in sp_51 rfl) rfl rfl (by decide +kernel) ⟨by rw [hR]; exact Nat.le_of_ble_eq_true rfl, by rw [hR]; exact Nat.le_of_ble_eq_true rfl⟩ rfl (Nat.le_of_ble_eq_true rfl) d_Mo_print_138 ⟨by rw [hR]; exact Nat.le_of_ble_eq_true rfl, by rw [hR]; exact Nat.le_of_ble_eq_true rfl⟩ rfl (fun v u H locs hp16 hP hD hS _ => ?_)
            obtain ⟨fq3, kd1⟩ := u
            try dsimp only at hp16
            obtain ⟨rfl, p4, p5⟩ := hp16
            have hP : va_P D cls0 [(oh, .inl (cI, 10000, .inl fh)), (og, .inl (cI, 32, .inl fs)), (on_, .inl (cI, 32, .inl fn)), (ok_, .inl (cI, 166400, .inl fk)), (oK, .inl (cI, 64, .inl fK)), (mo, .inr (8, [.int (iZ 0), .int (iZ (np : Int)), .ref ow, .ref om, .ref ok_, .ref oK, .ref og, .ref on_, .ref oh, .ref ox, .int qn, .int qf, .ref op_, .int (iZ ((li2 ++ dg kd1 (v2 1)).length : Int))])), (ow, .inl (cI, 108000, .inl fx2)), (om, .inl (cI, 9, .inl fy2)), (op_, .inl (cI, 22000, .inl fq3))] H := hP
            have hD : va_D A [(oh, .inl (cI, 10000, .inl fh)), (og, .inl (cI, 32, .inl fs)), (on_, .inl (cI, 32, .inl fn)), (ok_, .inl (cI, 166400, .inl fk)), (oK, .inl (cI, 64, .inl fK)), (mo, .inr (8, [.int (iZ 0), .int (iZ (np : Int)), .ref ow, .ref om, .ref ok_, .ref oK, .ref og, .ref on_, .ref oh, .ref ox, .int qn, .int qf, .ref op_, .int (iZ ((li2 ++ dg kd1 (v2 1)).length : Int))])), (ow, .inl (cI, 108000, .inl fx2)), (om, .inl (cI, 9, .inl fy2)), (op_, .inl (cI, 22000, .inl fq3))] := hD
            show W p l e R s m args below meth c H locs _ _ Q (F0 m 141 ls [])
            rw [e1] at p4 p5
            rw [e1] at hP hD
            obtain ⟨li3, hli3⟩ : ∃ l : List Nat, l = li2 ++ dg kd1 (bv a) := ⟨_, rfl⟩
            rw [← hli3] at p4 hP hD
            refine lv_aload_n hx hb d_Mo_print_141 rfl (lv_at hl 0 rfl) ?_
            refine va_get (D := D) (ci := 8) (v := .int (iZ (li3.length : Int))) (C := R_Mo) (T := F_Mo) (N := 14) hx hb hts i_Mo hown hK hP 5 rfl rfl 13 (by decide) (hts _ (big_in mw_1128 rfl)) (fun _ h9 => h9) rfl d_Mo_print_142 ?_
            have hP9 : va_P D cls0 [(mo, .inr (8, [.int (iZ 0), .int (iZ (np : Int)), .ref ow, .ref om, .ref ok_, .ref oK, .ref og, .ref on_, .ref oh, .ref ox, .int qn, .int qf, .ref op_, .int (iZ (li3.length : Int))])), (ow, .inl (cI, 108000, .inl fx2)), (om, .inl (cI, 9, .inl fy2)), (oh, .inl (cI, 10000, .inl fh)), (ok_, .inl (cI, 166400, .inl fk)), (oK, .inl (cI, 64, .inl fK)), (og, .inl (cI, 32, .inl fs)), (on_, .inl (cI, 32, .inl fn)), (op_, .inl (cI, 22000, .inl fq3))] H := hP.sub [5, 6, 7, 0, 3, 4, 1, 2, 8] rfl
            have hD9 : va_D A [(mo, .inr (8, [.int (iZ 0), .int (iZ (np : Int)), .ref ow, .ref om, .ref ok_, .ref oK, .ref og, .ref on_, .ref oh, .ref ox, .int qn, .int qf, .ref op_, .int (iZ (li3.length : Int))])), (ow, .inl (cI, 108000, .inl fx2)), (om, .inl (cI, 9, .inl fy2)), (oh, .inl (cI, 10000, .inl fh)), (ok_, .inl (cI, 166400, .inl fk)), (oK, .inl (cI, 64, .inl fK)), (og, .inl (cI, 32, .inl fs)), (on_, .inl (cI, 32, .inl fn)), (op_, .inl (cI, 22000, .inl fq3))] := hD.sub [5, 6, 7, 0, 3, 4, 1, 2, 8] (by decide) rfl
            rw [hQ, ← hAe]
            refine r_i (v := (iZ (li3.length : Int))) K ((li3.length : Int), fx2, fy2, fq3, v2, 1, kd1) hS d_Mo_print_145 ?_ (fun t ht hv => ?_)
            · try dsimp only
              have t0 : tv a = 0 := Nat.eq_zero_of_not_pos (fun z => by have y := nd_pos.mpr z; omega)
              have kd00 : kd0 = 0 := by rcases p2 with z | z; exact z.2; omega
              have s0 : sg a = 0 := ja2.mpr t0
              have b1 : bv a ≠ 1 := bv_two (by omega)
              have eT : ((if sg a < 0 then ([45] : List Nat) else []) ++ (dg 1 (tv a) ++ (if bv a = 1 then [] else 47 :: dg kd1 (bv a)))) = li3 := by
                rw [if_neg (by omega), if_neg b1]
                rw [hli3, hli2, hli1, hli0, t0, kd00]
                simp [dg]
              refine ⟨rfl, ?_, w2, ?_, ?_, ?_⟩
              · rw [eT]
              · rw [eT]; exact p4
              · rw [t0]; exact ⟨by decide, by decide, Or.inl rfl⟩
              · intro _; rcases p5 with z | z; omega; exact z.2
            · exact ⟨by rw [ht]; exact hP9, va_K.moved hv hK, by rw [← hAe]; exact hD9⟩
set_option maxHeartbeats 4000000 in
set_option maxRecDepth 100000 in
/-- Mo_print refused with 1 -/
theorem r1_Mo_print (l : Launch) (D : va_G) (mo : Nat) (qc : Int32) (np : Nat) (ow : Nat) (om : Nat) (ok_ : Nat) (oK : Nat) (og : Nat) (on_ : Nat) (oh : Nat) (ox : Nat) (qn : Int32) (qf : Int32) (op_ : Nat) (ql : Int32) (za : Int) (sz : Nat) (hbad : (za < 0 ∨ 32 ≤ za)) (hrng : -2147483648 ≤ za ∧ za < 2147483648) : Met l y_Mo_print (wsB y_Mo_print b_Mo_print 2 (some .int)) ({ frames := 1, cells := 0, slots := 0, locals := 21 }) (va_Pc [.ref mo, .int (iZ za)] (wPre D [] [(mo, .inr (8, [.int qc, .int (iZ (np : Int)), .ref ow, .ref om, .ref ok_, .ref oK, .ref og, .ref on_, .ref oh, .ref ox, .int qn, .int qf, .ref op_, .int ql]))] sz)) (va_QV (fun (v_9 : Option Value) (u_9 : Unit) => v_9 = some (.int (iZ 0))) (fun u_9 => wPost D [] [(mo, .inr (8, [.int qc, .int (iZ (np : Int)), .ref ow, .ref om, .ref ok_, .ref oK, .ref og, .ref on_, .ref oh, .ref ox, .int qn, .int qf, .ref op_, .int ql]))] [(mo, .inr (8, [.int (iZ 1), .int (iZ (np : Int)), .ref ow, .ref om, .ref ok_, .ref oK, .ref og, .ref on_, .ref oh, .ref ox, .int qn, .int qf, .ref op_, .int ql]))] sz) (va_A [(mo, .inr (8, [.int qc, .int (iZ (np : Int)), .ref ow, .ref om, .ref ok_, .ref oK, .ref og, .ref on_, .ref oh, .ref ox, .int qn, .int qf, .ref op_, .int ql]))] sz)) 0 0 (va_A [(mo, .inr (8, [.int qc, .int (iZ (np : Int)), .ref ow, .ref om, .ref ok_, .ref oK, .ref og, .ref on_, .ref oh, .ref ox, .int qn, .int qf, .ref op_, .int ql]))] sz) := by
  refine met_enter (by decide +kernel) (Nat.le_of_ble_eq_true rfl) ?_
  intro p e s m args below meth c ls A R Q H locs K hin hAe hA hR hQ hP hK hD hS hl
  obtain ⟨hx, hb, hml, hrt, hlk, hts, hown, hno⟩ := id K
  have hl : lv_has ls 2 [(0, .ref mo), (1, .int (iZ za))] := hl
  refine lv_aload_n hx hb d_Mo_print_0 rfl (lv_at hl 0 rfl) ?_
  refine lv_iload_n hx hb d_Mo_print_1 rfl (lv_at hl 1 rfl) ?_
  refine cs (n := 1) (wr := [(mo, .inr (8, [.int qc, .int (iZ (np : Int)), .ref ow, .ref om, .ref ok_, .ref oK, .ref og, .ref on_, .ref oh, .ref ox, .int qn, .int qf, .ref op_, .int ql]))]) (w1 := (fun (u : Int) => [])) (As := [.int (iZ za)]) (rest := [.ref mo]) K hP hD hK hS hA hl.1 (c_Mo_isRegister l D za H.size (by omega)) [] [0] [] rfl rfl rfl (by decide) (by decide) (by decide) (big_in mw_1172 rfl) (big_in mw_10 rfl) (big_in mw_1170 rfl) (big_in mw_1171 rfl) rfl rfl (by decide +kernel) ⟨by rw [hR]; exact Nat.le_of_ble_eq_true rfl, by rw [hR]; exact Nat.le_of_ble_eq_true rfl⟩ rfl (Nat.le_of_ble_eq_true rfl) d_Mo_print_2 ⟨by rw [hR]; exact Nat.le_of_ble_eq_true rfl, by rw [hR]; exact Nat.le_of_ble_eq_true rfl⟩ rfl (fun v u H locs hp1 hP hD hS _ => ?_)
  obtain ⟨r2, rfl⟩ : ∃ z, z = u := ⟨_, rfl⟩
  obtain ⟨rfl, p2⟩ := hp1
  have hP : va_P D cls0 [(mo, .inr (8, [.int qc, .int (iZ (np : Int)), .ref ow, .ref om, .ref ok_, .ref oK, .ref og, .ref on_, .ref oh, .ref ox, .int qn, .int qf, .ref op_, .int ql]))] H := hP
  have hD : va_D A [(mo, .inr (8, [.int qc, .int (iZ (np : Int)), .ref ow, .ref om, .ref ok_, .ref oK, .ref og, .ref on_, .ref oh, .ref ox, .int qn, .int qf, .ref op_, .int ql]))] := hD
  show W p l e R s m args below meth c H locs _ _ Q (F0 m 5 ls [.int (iZ r2), .ref mo])
  have b2 : 0 ≤ r2 ∧ r2 ≤ 1 := by omega
  refine zz_if_eq (tgt := 12) hx hb d_Mo_print_5 (by decide) (by omega) (fun c5 => ?_) (fun c5 => ?_)
  · refine lv_iconst (v := iZ (1)) hx hb d_Mo_print_12 (by decide +kernel) ?_
    refine cv (n := 1) (wr := []) (w1 := (fun (u : Int) => [(mo, .inr (8, [.int (iZ 1), .int (iZ (np : Int)), .ref ow, .ref om, .ref ok_, .ref oK, .ref og, .ref on_, .ref oh, .ref ox, .int qn, .int qf, .ref op_, .int ql]))])) (As := [.int (iZ 1)]) (rest := []) K hP hD hK hS hA hl.1 (c_Mo_refuses l D mo qc np ow om ok_ oK og on_ oh ox qn qf op_ ql 1 H.size (by omega)) [0] [] [] rfl rfl rfl (by decide) (by decide) (by decide) 0 rfl rfl (big_in mw_1176 rfl) (big_in mw_10 rfl) (big_in mw_1173 rfl) (big_in mw_1175 rfl) (big_in sp_18 rfl) rfl rfl (by decide +kernel) ⟨by rw [hR]; exact Nat.le_of_ble_eq_true rfl, by rw [hR]; exact Nat.le_of_ble_eq_true rfl⟩ rfl (Nat.le_of_ble_eq_true rfl) d_Mo_print_13 ⟨by rw [hR]; exact Nat.le_of_ble_eq_true rfl, by rw [hR]; exact Nat.le_of_ble_eq_true rfl⟩ rfl (fun v u H locs hp2 hP hD hS _ => ?_)
    obtain ⟨rf, rfl⟩ : ∃ z, z = u := ⟨_, rfl⟩
    obtain ⟨rfl, prf⟩ := hp2
    have hP : va_P D cls0 [(mo, .inr (8, [.int (iZ 1), .int (iZ (np : Int)), .ref ow, .ref om, .ref ok_, .ref oK, .ref og, .ref on_, .ref oh, .ref ox, .int qn, .int qf, .ref op_, .int ql]))] H := hP
    have hD : va_D A [(mo, .inr (8, [.int (iZ 1), .int (iZ (np : Int)), .ref ow, .ref om, .ref ok_, .ref oK, .ref og, .ref on_, .ref oh, .ref ox, .int qn, .int qf, .ref op_, .int ql]))] := hD
    show W p l e R s m args below meth c H locs _ _ Q (F0 m 16 ls [.int (iZ rf)])
    refine zz_if_eq (tgt := 21) hx hb d_Mo_print_16 (by decide) (by omega) (fun c16 => False.elim (by omega)) (fun c16 => ?_)
    refine lv_iconst (v := iZ (0)) hx hb d_Mo_print_19 (by decide +kernel) ?_
    have hP9 : va_P D cls0 [(mo, .inr (8, [.int (iZ 1), .int (iZ (np : Int)), .ref ow, .ref om, .ref ok_, .ref oK, .ref og, .ref on_, .ref oh, .ref ox, .int qn, .int qf, .ref op_, .int ql]))] H := hP.sub [0] rfl
    have hD9 : va_D A [(mo, .inr (8, [.int (iZ 1), .int (iZ (np : Int)), .ref ow, .ref om, .ref ok_, .ref oK, .ref og, .ref on_, .ref oh, .ref ox, .int qn, .int qf, .ref op_, .int ql]))] := hD.sub [0] (by decide) rfl
    rw [hQ, ← hAe]
    refine r_i (v := (iZ 0)) K () hS d_Mo_print_20 ?_ (fun t ht hv => ?_)
    · exact rfl
    · exact ⟨by rw [ht]; exact hP9, va_K.moved hv hK, by rw [← hAe]; exact hD9⟩
  · refine lv_iconst (v := iZ (0)) hx hb d_Mo_print_8 (by decide +kernel) ?_
    refine lv_goto (tgt := 13) hx hb d_Mo_print_9 (by decide) ?_
    exfalso
    omega
set_option maxHeartbeats 4000000 in
set_option maxRecDepth 100000 in
/-- character(i) -/
theorem c_Mo_character (l : Launch) (D : va_G) (mo : Nat) (qc : Int32) (np : Nat) (ow : Nat) (om : Nat) (ok_ : Nat) (oK : Nat) (og : Nat) (on_ : Nat) (oh : Nat) (ox : Nat) (qn : Int32) (qf : Int32) (op_ : Nat) (fq : Nat → Int32) (cI : ClassId) (li : List Nat) (z : Int) (sz : Nat) (hPX : PX fq li) (hll : li.length ≤ 22000) (hz : -2147483648 ≤ z ∧ z < 2147483648) : Met l y_Mo_character (wsB y_Mo_character b_Mo_character 2 (some .int)) ({ frames := 0, cells := 0, slots := 0, locals := 0 }) (va_Pc [.ref mo, .int (iZ z)] (wPre D [(cI, .int)] [(mo, .inr (8, [.int qc, .int (iZ (np : Int)), .ref ow, .ref om, .ref ok_, .ref oK, .ref og, .ref on_, .ref oh, .ref ox, .int qn, .int qf, .ref op_, .int (iZ (li.length : Int))])), (op_, .inl (cI, 22000, .inl fq))] sz)) (va_QV (fun (v_9 : Option Value) (u_9 : Int) => v_9 = some (.int (iZ u_9)) ∧ (u_9 = if 0 ≤ z ∧ z < li.length then (li.getD z.toNat 0 : Int) else -1)) (fun u_9 => wPost D [(cI, .int)] [(mo, .inr (8, [.int qc, .int (iZ (np : Int)), .ref ow, .ref om, .ref ok_, .ref oK, .ref og, .ref on_, .ref oh, .ref ox, .int qn, .int qf, .ref op_, .int (iZ (li.length : Int))])), (op_, .inl (cI, 22000, .inl fq))] [(mo, .inr (8, [.int (iZ 0), .int (iZ (np : Int)), .ref ow, .ref om, .ref ok_, .ref oK, .ref og, .ref on_, .ref oh, .ref ox, .int qn, .int qf, .ref op_, .int (iZ (li.length : Int))])), (op_, .inl (cI, 22000, .inl fq))] sz) (va_A [(mo, .inr (8, [.int qc, .int (iZ (np : Int)), .ref ow, .ref om, .ref ok_, .ref oK, .ref og, .ref on_, .ref oh, .ref ox, .int qn, .int qf, .ref op_, .int (iZ (li.length : Int))])), (op_, .inl (cI, 22000, .inl fq))] sz)) 0 0 (va_A [(mo, .inr (8, [.int qc, .int (iZ (np : Int)), .ref ow, .ref om, .ref ok_, .ref oK, .ref og, .ref on_, .ref oh, .ref ox, .int qn, .int qf, .ref op_, .int (iZ (li.length : Int))])), (op_, .inl (cI, 22000, .inl fq))] sz) := by
  refine met_enter (by decide +kernel) (Nat.le_of_ble_eq_true rfl) ?_
  intro p e s m args below meth c ls A R Q H locs K hin hAe hA hR hQ hP hK hD hS hl
  obtain ⟨hx, hb, hml, hrt, hlk, hts, hown, hno⟩ := id K
  have hl : lv_has ls 2 [(0, .ref mo), (1, .int (iZ z))] := hl
  refine lv_aload_n hx hb d_Mo_character_0 rfl (lv_at hl 0 rfl) ?_
  refine lv_iconst (v := iZ (0)) hx hb d_Mo_character_1 (by decide +kernel) ?_
  refine va_put (D := D) (ci := 8) (v := .int (iZ 0)) (ty := .int) (C := R_Mo) (T := F_Mo) (N := 14) hx hb hts i_Mo t_Mo t_Mo_ok n_Mo hown hK hP hD hS 0 rfl rfl 0 (by decide) (hts _ (big_in mw_1115 rfl)) (fun _ h9 => h9) rfl (by decide +kernel) rfl rfl (Nat.le_of_ble_eq_true rfl) d_Mo_character_2 (fun H locs hP hD hS => ?_)
  have hP : va_P D cls0 [(mo, .inr (8, [.int (iZ 0), .int (iZ (np : Int)), .ref ow, .ref om, .ref ok_, .ref oK, .ref og, .ref on_, .ref oh, .ref ox, .int qn, .int qf, .ref op_, .int (iZ (li.length : Int))])), (op_, .inl (cI, 22000, .inl fq))] H := hP
  have hD : va_D A [(mo, .inr (8, [.int (iZ 0), .int (iZ (np : Int)), .ref ow, .ref om, .ref ok_, .ref oK, .ref og, .ref on_, .ref oh, .ref ox, .int qn, .int qf, .ref op_, .int (iZ (li.length : Int))])), (op_, .inl (cI, 22000, .inl fq))] := hD
  refine lv_iload_n hx hb d_Mo_character_5 rfl (lv_at hl 1 rfl) ?_
  refine zz_if_lt (tgt := 26) hx hb d_Mo_character_6 (by decide) (by omega) (fun c6 => ?_) (fun c6 => ?_)
  · refine lv_iconst (v := iZ (-1)) hx hb d_Mo_character_26 (by decide +kernel) ?_
    have hP9 : va_P D cls0 [(mo, .inr (8, [.int (iZ 0), .int (iZ (np : Int)), .ref ow, .ref om, .ref ok_, .ref oK, .ref og, .ref on_, .ref oh, .ref ox, .int qn, .int qf, .ref op_, .int (iZ (li.length : Int))])), (op_, .inl (cI, 22000, .inl fq))] H := hP.sub [0, 1] rfl
    have hD9 : va_D A [(mo, .inr (8, [.int (iZ 0), .int (iZ (np : Int)), .ref ow, .ref om, .ref ok_, .ref oK, .ref og, .ref on_, .ref oh, .ref ox, .int qn, .int qf, .ref op_, .int (iZ (li.length : Int))])), (op_, .inl (cI, 22000, .inl fq))] := hD.sub [0, 1] (by decide) rfl
    rw [hQ, ← hAe]
    refine r_i (v := (iZ (-1))) K (-1) hS d_Mo_character_27 ?_ (fun t ht hv => ?_)
    · refine ⟨rfl, ?_⟩
      first | rw [if_pos (by omega)] | rw [if_neg (by omega)]
    · exact ⟨by rw [ht]; exact hP9, va_K.moved hv hK, by rw [← hAe]; exact hD9⟩
  · refine lv_iload_n hx hb d_Mo_character_9 rfl (lv_at hl 1 rfl) ?_
    refine lv_aload_n hx hb d_Mo_character_10 rfl (lv_at hl 0 rfl) ?_
    refine va_get (D := D) (ci := 8) (v := .int (iZ (li.length : Int))) (C := R_Mo) (T := F_Mo) (N := 14) hx hb hts i_Mo hown hK hP 0 rfl rfl 13 (by decide) (hts _ (big_in mw_1128 rfl)) (fun _ h9 => h9) rfl d_Mo_character_11 ?_
    refine zz_icmp_ge (tgt := 26) hx hb d_Mo_character_14 (by decide) (by omega) (by omega) (fun c14 => ?_) (fun c14 => ?_)
    · refine lv_iconst (v := iZ (-1)) hx hb d_Mo_character_26 (by decide +kernel) ?_
      have hP9 : va_P D cls0 [(mo, .inr (8, [.int (iZ 0), .int (iZ (np : Int)), .ref ow, .ref om, .ref ok_, .ref oK, .ref og, .ref on_, .ref oh, .ref ox, .int qn, .int qf, .ref op_, .int (iZ (li.length : Int))])), (op_, .inl (cI, 22000, .inl fq))] H := hP.sub [0, 1] rfl
      have hD9 : va_D A [(mo, .inr (8, [.int (iZ 0), .int (iZ (np : Int)), .ref ow, .ref om, .ref ok_, .ref oK, .ref og, .ref on_, .ref oh, .ref ox, .int qn, .int qf, .ref op_, .int (iZ (li.length : Int))])), (op_, .inl (cI, 22000, .inl fq))] := hD.sub [0, 1] (by decide) rfl
      rw [hQ, ← hAe]
      refine r_i (v := (iZ (-1))) K (-1) hS d_Mo_character_27 ?_ (fun t ht hv => ?_)
      · refine ⟨rfl, ?_⟩
        first | rw [if_pos (by omega)] | rw [if_neg (by omega)]
      · exact ⟨by rw [ht]; exact hP9, va_K.moved hv hK, by rw [← hAe]; exact hD9⟩
    · refine lv_aload_n hx hb d_Mo_character_17 rfl (lv_at hl 0 rfl) ?_
      refine va_get (D := D) (ci := 8) (v := .ref op_) (C := R_Mo) (T := F_Mo) (N := 14) hx hb hts i_Mo hown hK hP 0 rfl rfl 12 (by decide) (hts _ (big_in mw_1127 rfl)) (fun _ h9 => h9) rfl d_Mo_character_18 ?_
      refine lv_iload_n hx hb d_Mo_character_21 rfl (lv_at hl 1 rfl) ?_
      refine zz_iald hx hb hK hP 1 0 rfl rfl (z.toNat) (by omega) (by omega) (by omega) d_Mo_character_22 ?_
      rw [hPX z.toNat (by omega)]
      refine lv_goto (tgt := 27) hx hb d_Mo_character_23 (by decide) ?_
      have hP9 : va_P D cls0 [(mo, .inr (8, [.int (iZ 0), .int (iZ (np : Int)), .ref ow, .ref om, .ref ok_, .ref oK, .ref og, .ref on_, .ref oh, .ref ox, .int qn, .int qf, .ref op_, .int (iZ (li.length : Int))])), (op_, .inl (cI, 22000, .inl fq))] H := hP.sub [0, 1] rfl
      have hD9 : va_D A [(mo, .inr (8, [.int (iZ 0), .int (iZ (np : Int)), .ref ow, .ref om, .ref ok_, .ref oK, .ref og, .ref on_, .ref oh, .ref ox, .int qn, .int qf, .ref op_, .int (iZ (li.length : Int))])), (op_, .inl (cI, 22000, .inl fq))] := hD.sub [0, 1] (by decide) rfl
      rw [hQ, ← hAe]
      refine r_i (v := (iZ (li.getD z.toNat 0 : Int))) K (li.getD z.toNat 0 : Int) hS d_Mo_character_27 ?_ (fun t ht hv => ?_)
      · refine ⟨rfl, ?_⟩
        first | rw [if_pos (by omega)] | rw [if_neg (by omega)]
      · exact ⟨by rw [ht]; exact hP9, va_K.moved hv hK, by rw [← hAe]; exact hD9⟩
theorem WB_start : WB (fun _ => iZ 0) (fun _ => iZ 0) (fun _ => 0) := fun b hb => ⟨rfl, by rw [nd_0]; exact Nat.zero_le _, fun i hi => absurd hi (by rw [nd_0]; exact Nat.not_lt_zero _)⟩
theorem MoR_start {fk fK fn : Nat → Int32} (h1 : ∀ r, r < 32 → fk (2600 * (2 * r + 1)) = iZ 1) (h2 : ∀ r, r < 32 → fK (2 * r + 1) = iZ 1 ∧ fK (2 * r) = iZ 0) (h3 : ∀ r, r < 32 → fn r = iZ 1) : MoR fk fK (fun _ => iZ 0) fn (fun _ => 0) (fun _ => 1) (fun _ => 0) := by
  have n1 : nd 1 = 1 := by decide
  refine ⟨fun s hs => ?_, fun r hr => rfl, fun r hr => ?_⟩
  · rcases (show (∃ r, s = 2 * r) ∨ ∃ r, s = 2 * r + 1 by rcases Nat.mod_two_eq_zero_or_one s with z | z; exact Or.inl ⟨s / 2, by omega⟩; exact Or.inr ⟨s / 2, by omega⟩) with ⟨r, rfl⟩ | ⟨r, rfl⟩
    · rw [kvf_0, nd_0]
      exact ⟨(h2 r (by omega)).2, by decide, fun i hi => absurd hi (Nat.not_lt_zero _)⟩
    · rw [kvf_1, n1]
      refine ⟨(h2 r (by omega)).1, by decide, fun i hi => ?_⟩
      rw [show i = 0 by omega, Nat.add_zero, h1 r (by omega)]
      decide +kernel
  · rw [h3 r hr]
    show iZ 1 = iZ ((lm 0 + lm 1 : Nat) : Int)
    decide +kernel
set_option maxHeartbeats 4000000 in
set_option maxRecDepth 100000 in
/-- new FractionPoolModel(room) -/
theorem c_Mo_init (l : Launch) (D : va_G) (mo : Nat) (np : Nat) (cI : ClassId) (sz : Nat) (h1 : 64 ≤ np ∧ np ≤ 1024) : Met l y_Mo_init (wsB y_Mo_init b_Mo_init 3 none) ({ frames := 1, cells := 9, slots := 306937, locals := 20 }) (va_Pc [.ref mo, .int (iZ (np : Int))] (wPre D [(cI, .int)] [(mo, .inr (8, [.int (iZ 0), .int (iZ 0), .null, .null, .null, .null, .null, .null, .null, .null, .int (iZ 0), .int (iZ 0), .null, .int (iZ 0)]))] sz)) (va_QV (fun (v_9 : Option Value) (u_9 : Nat × Nat × Nat × Nat × Nat × Nat × Nat × Nat × Nat × (Nat → Int32) × (Nat → Int32) × (Nat → Int32)) => v_9 = none ∧ (MoR u_9.2.2.2.2.2.2.2.2.2.1 u_9.2.2.2.2.2.2.2.2.2.2.1 (fun _ => iZ 0) u_9.2.2.2.2.2.2.2.2.2.2.2 (fun _ => 0) (fun _ => 1) (fun _ => 0))) (fun u_9 => wPost D [(cI, .int)] [(mo, .inr (8, [.int (iZ 0), .int (iZ 0), .null, .null, .null, .null, .null, .null, .null, .null, .int (iZ 0), .int (iZ 0), .null, .int (iZ 0)]))] [(mo, .inr (8, [.int (iZ 0), .int (iZ (np : Int)), .ref u_9.1, .ref u_9.2.1, .ref u_9.2.2.1, .ref u_9.2.2.2.1, .ref u_9.2.2.2.2.1, .ref u_9.2.2.2.2.2.1, .ref u_9.2.2.2.2.2.2.1, .ref u_9.2.2.2.2.2.2.2.1, .int (iZ 0), .int (iZ (-1)), .ref u_9.2.2.2.2.2.2.2.2.1, .int (iZ 0)])), (u_9.1, .inl (cI, 108000, .inl (fun _ => iZ 0))), (u_9.2.1, .inl (cI, 9, .inl (fun _ => iZ 0))), (u_9.2.2.1, .inl (cI, 166400, .inl u_9.2.2.2.2.2.2.2.2.2.1)), (u_9.2.2.2.1, .inl (cI, 64, .inl u_9.2.2.2.2.2.2.2.2.2.2.1)), (u_9.2.2.2.2.1, .inl (cI, 32, .inl (fun _ => iZ 0))), (u_9.2.2.2.2.2.1, .inl (cI, 32, .inl u_9.2.2.2.2.2.2.2.2.2.2.2)), (u_9.2.2.2.2.2.2.1, .inl (cI, 10000, .inl (fun _ => iZ 0))), (u_9.2.2.2.2.2.2.2.1, .inl (cI, 400, .inl (fun _ => iZ 0))), (u_9.2.2.2.2.2.2.2.2.1, .inl (cI, 22000, .inl (fun _ => iZ 0)))] sz) (va_A [(mo, .inr (8, [.int (iZ 0), .int (iZ 0), .null, .null, .null, .null, .null, .null, .null, .null, .int (iZ 0), .int (iZ 0), .null, .int (iZ 0)]))] sz)) 9 306937 (va_A [(mo, .inr (8, [.int (iZ 0), .int (iZ 0), .null, .null, .null, .null, .null, .null, .null, .null, .int (iZ 0), .int (iZ 0), .null, .int (iZ 0)]))] sz) := by
  refine met_enter (by decide +kernel) (Nat.le_of_ble_eq_true rfl) ?_
  intro p e s m args below meth c ls A R Q H locs K hin hAe hA hR hQ hP hK hD hS hl
  obtain ⟨hx, hb, hml, hrt, hlk, hts, hown, hno⟩ := id K
  have hl : lv_has ls 3 [(0, .ref mo), (1, .int (iZ (np : Int)))] := hl
  refine lv_aload_n hx hb d_Mo_init_0 rfl (lv_at hl 0 rfl) ?_
  refine zz_obj hx hb hown (hts _ (big_in mw_1112 rfl)) (hts _ (big_in mw_36 rfl)) (hts _ (big_in mw_37 rfl)) hml hl.1 (Nat.le_of_ble_eq_true rfl) (by rw [hR]; exact Nat.le_of_ble_eq_true rfl) (by rw [hR]; exact Nat.le_of_ble_eq_true rfl) d_Mo_init_1 ?_
  refine lv_aload_n hx hb d_Mo_init_4 rfl (lv_at hl 0 rfl) ?_
  refine lv_ldc (v := iZ (108000)) hx hb hown (hts _ (big_in mw_1113 rfl)) d_Mo_init_5 ?_
  refine zz_newI 108000 hx hb (hts _ (big_in mw_70 rfl)) hK hP hD hS hA 0 rfl (by omega) (by omega) (by rw [hR]; show _ ≤ 9; omega) (by rw [hR]; show _ ≤ 306937; omega) d_Mo_init_7 (fun ow H hP hD hS => ?_)
  have hP : va_P D cls0 [(mo, .inr (8, [.int (iZ 0), .int (iZ 0), .null, .null, .null, .null, .null, .null, .null, .null, .int (iZ 0), .int (iZ 0), .null, .int (iZ 0)])), (ow, .inl (cI, 108000, .inl (fun _ => iZ 0)))] H := hP
  have hD : va_D A [(mo, .inr (8, [.int (iZ 0), .int (iZ 0), .null, .null, .null, .null, .null, .null, .null, .null, .int (iZ 0), .int (iZ 0), .null, .int (iZ 0)])), (ow, .inl (cI, 108000, .inl (fun _ => iZ 0)))] := hD
  refine va_putF (D := D) (ci := 8) (v := .ref ow) (ty := .array .int) (C := R_Mo) (T := F_Mo) (N := 14) hx hb hts i_Mo t_Mo t_Mo_ok n_Mo hown hK hP hD hS 0 rfl rfl 2 (by decide) (hts _ (big_in mw_1117 rfl)) (fun _ h9 => h9) rfl hin rfl (by decide +kernel) rfl rfl (Nat.le_of_ble_eq_true rfl) d_Mo_init_9 (fun H locs hP hD hS => ?_)
  have hP : va_P D cls0 [(mo, .inr (8, [.int (iZ 0), .int (iZ 0), .ref ow, .null, .null, .null, .null, .null, .null, .null, .int (iZ 0), .int (iZ 0), .null, .int (iZ 0)])), (ow, .inl (cI, 108000, .inl (fun _ => iZ 0)))] H := hP
  have hD : va_D A [(mo, .inr (8, [.int (iZ 0), .int (iZ 0), .ref ow, .null, .null, .null, .null, .null, .null, .null, .int (iZ 0), .int (iZ 0), .null, .int (iZ 0)])), (ow, .inl (cI, 108000, .inl (fun _ => iZ 0)))] := hD
  refine lv_aload_n hx hb d_Mo_init_12 rfl (lv_at hl 0 rfl) ?_
  refine lv_bipush (v := iZ (9)) hx hb d_Mo_init_13 (by decide +kernel) ?_
  refine zz_newI 9 hx hb (hts _ (big_in mw_70 rfl)) hK hP hD hS hA 0 rfl (by omega) (by omega) (by rw [hR]; show _ ≤ 9; omega) (by rw [hR]; show _ ≤ 306937; omega) d_Mo_init_15 (fun om H hP hD hS => ?_)
  have hP : va_P D cls0 [(mo, .inr (8, [.int (iZ 0), .int (iZ 0), .ref ow, .null, .null, .null, .null, .null, .null, .null, .int (iZ 0), .int (iZ 0), .null, .int (iZ 0)])), (ow, .inl (cI, 108000, .inl (fun _ => iZ 0))), (om, .inl (cI, 9, .inl (fun _ => iZ 0)))] H := hP
  have hD : va_D A [(mo, .inr (8, [.int (iZ 0), .int (iZ 0), .ref ow, .null, .null, .null, .null, .null, .null, .null, .int (iZ 0), .int (iZ 0), .null, .int (iZ 0)])), (ow, .inl (cI, 108000, .inl (fun _ => iZ 0))), (om, .inl (cI, 9, .inl (fun _ => iZ 0)))] := hD
  refine va_putF (D := D) (ci := 8) (v := .ref om) (ty := .array .int) (C := R_Mo) (T := F_Mo) (N := 14) hx hb hts i_Mo t_Mo t_Mo_ok n_Mo hown hK hP hD hS 0 rfl rfl 3 (by decide) (hts _ (big_in mw_1118 rfl)) (fun _ h9 => h9) rfl hin rfl (by decide +kernel) rfl rfl (Nat.le_of_ble_eq_true rfl) d_Mo_init_17 (fun H locs hP hD hS => ?_)
  have hP : va_P D cls0 [(mo, .inr (8, [.int (iZ 0), .int (iZ 0), .ref ow, .ref om, .null, .null, .null, .null, .null, .null, .int (iZ 0), .int (iZ 0), .null, .int (iZ 0)])), (ow, .inl (cI, 108000, .inl (fun _ => iZ 0))), (om, .inl (cI, 9, .inl (fun _ => iZ 0)))] H := hP
  have hD : va_D A [(mo, .inr (8, [.int (iZ 0), .int (iZ 0), .ref ow, .ref om, .null, .null, .null, .null, .null, .null, .int (iZ 0), .int (iZ 0), .null, .int (iZ 0)])), (ow, .inl (cI, 108000, .inl (fun _ => iZ 0))), (om, .inl (cI, 9, .inl (fun _ => iZ 0)))] := hD
  refine lv_aload_n hx hb d_Mo_init_20 rfl (lv_at hl 0 rfl) ?_
  refine lv_ldc (v := iZ (166400)) hx hb hown (hts _ (big_in mw_1114 rfl)) d_Mo_init_21 ?_
  refine zz_newI 166400 hx hb (hts _ (big_in mw_70 rfl)) hK hP hD hS hA 0 rfl (by omega) (by omega) (by rw [hR]; show _ ≤ 9; omega) (by rw [hR]; show _ ≤ 306937; omega) d_Mo_init_23 (fun ok_ H hP hD hS => ?_)
  have hP : va_P D cls0 [(mo, .inr (8, [.int (iZ 0), .int (iZ 0), .ref ow, .ref om, .null, .null, .null, .null, .null, .null, .int (iZ 0), .int (iZ 0), .null, .int (iZ 0)])), (ow, .inl (cI, 108000, .inl (fun _ => iZ 0))), (om, .inl (cI, 9, .inl (fun _ => iZ 0))), (ok_, .inl (cI, 166400, .inl (fun _ => iZ 0)))] H := hP
  have hD : va_D A [(mo, .inr (8, [.int (iZ 0), .int (iZ 0), .ref ow, .ref om, .null, .null, .null, .null, .null, .null, .int (iZ 0), .int (iZ 0), .null, .int (iZ 0)])), (ow, .inl (cI, 108000, .inl (fun _ => iZ 0))), (om, .inl (cI, 9, .inl (fun _ => iZ 0))), (ok_, .inl (cI, 166400, .inl (fun _ => iZ 0)))] := hD
  refine va_putF (D := D) (ci := 8) (v := .ref ok_) (ty := .array .int) (C := R_Mo) (T := F_Mo) (N := 14) hx hb hts i_Mo t_Mo t_Mo_ok n_Mo hown hK hP hD hS 0 rfl rfl 4 (by decide) (hts _ (big_in mw_1119 rfl)) (fun _ h9 => h9) rfl hin rfl (by decide +kernel) rfl rfl (Nat.le_of_ble_eq_true rfl) d_Mo_init_25 (fun H locs hP hD hS => ?_)
  have hP : va_P D cls0 [(mo, .inr (8, [.int (iZ 0), .int (iZ 0), .ref ow, .ref om, .ref ok_, .null, .null, .null, .null, .null, .int (iZ 0), .int (iZ 0), .null, .int (iZ 0)])), (ow, .inl (cI, 108000, .inl (fun _ => iZ 0))), (om, .inl (cI, 9, .inl (fun _ => iZ 0))), (ok_, .inl (cI, 166400, .inl (fun _ => iZ 0)))] H := hP
  have hD : va_D A [(mo, .inr (8, [.int (iZ 0), .int (iZ 0), .ref ow, .ref om, .ref ok_, .null, .null, .null, .null, .null, .int (iZ 0), .int (iZ 0), .null, .int (iZ 0)])), (ow, .inl (cI, 108000, .inl (fun _ => iZ 0))), (om, .inl (cI, 9, .inl (fun _ => iZ 0))), (ok_, .inl (cI, 166400, .inl (fun _ => iZ 0)))] := hD
  refine lv_aload_n hx hb d_Mo_init_28 rfl (lv_at hl 0 rfl) ?_
  refine lv_bipush (v := iZ (64)) hx hb d_Mo_init_29 (by decide +kernel) ?_
  refine zz_newI 64 hx hb (hts _ (big_in mw_70 rfl)) hK hP hD hS hA 0 rfl (by omega) (by omega) (by rw [hR]; show _ ≤ 9; omega) (by rw [hR]; show _ ≤ 306937; omega) d_Mo_init_31 (fun oK H hP hD hS => ?_)
  have hP : va_P D cls0 [(mo, .inr (8, [.int (iZ 0), .int (iZ 0), .ref ow, .ref om, .ref ok_, .null, .null, .null, .null, .null, .int (iZ 0), .int (iZ 0), .null, .int (iZ 0)])), (ow, .inl (cI, 108000, .inl (fun _ => iZ 0))), (om, .inl (cI, 9, .inl (fun _ => iZ 0))), (ok_, .inl (cI, 166400, .inl (fun _ => iZ 0))), (oK, .inl (cI, 64, .inl (fun _ => iZ 0)))] H := hP
  have hD : va_D A [(mo, .inr (8, [.int (iZ 0), .int (iZ 0), .ref ow, .ref om, .ref ok_, .null, .null, .null, .null, .null, .int (iZ 0), .int (iZ 0), .null, .int (iZ 0)])), (ow, .inl (cI, 108000, .inl (fun _ => iZ 0))), (om, .inl (cI, 9, .inl (fun _ => iZ 0))), (ok_, .inl (cI, 166400, .inl (fun _ => iZ 0))), (oK, .inl (cI, 64, .inl (fun _ => iZ 0)))] := hD
  refine va_putF (D := D) (ci := 8) (v := .ref oK) (ty := .array .int) (C := R_Mo) (T := F_Mo) (N := 14) hx hb hts i_Mo t_Mo t_Mo_ok n_Mo hown hK hP hD hS 0 rfl rfl 5 (by decide) (hts _ (big_in mw_1120 rfl)) (fun _ h9 => h9) rfl hin rfl (by decide +kernel) rfl rfl (Nat.le_of_ble_eq_true rfl) d_Mo_init_33 (fun H locs hP hD hS => ?_)
  have hP : va_P D cls0 [(mo, .inr (8, [.int (iZ 0), .int (iZ 0), .ref ow, .ref om, .ref ok_, .ref oK, .null, .null, .null, .null, .int (iZ 0), .int (iZ 0), .null, .int (iZ 0)])), (ow, .inl (cI, 108000, .inl (fun _ => iZ 0))), (om, .inl (cI, 9, .inl (fun _ => iZ 0))), (ok_, .inl (cI, 166400, .inl (fun _ => iZ 0))), (oK, .inl (cI, 64, .inl (fun _ => iZ 0)))] H := hP
  have hD : va_D A [(mo, .inr (8, [.int (iZ 0), .int (iZ 0), .ref ow, .ref om, .ref ok_, .ref oK, .null, .null, .null, .null, .int (iZ 0), .int (iZ 0), .null, .int (iZ 0)])), (ow, .inl (cI, 108000, .inl (fun _ => iZ 0))), (om, .inl (cI, 9, .inl (fun _ => iZ 0))), (ok_, .inl (cI, 166400, .inl (fun _ => iZ 0))), (oK, .inl (cI, 64, .inl (fun _ => iZ 0)))] := hD
  refine lv_aload_n hx hb d_Mo_init_36 rfl (lv_at hl 0 rfl) ?_
  refine lv_bipush (v := iZ (32)) hx hb d_Mo_init_37 (by decide +kernel) ?_
  refine zz_newI 32 hx hb (hts _ (big_in mw_70 rfl)) hK hP hD hS hA 0 rfl (by omega) (by omega) (by rw [hR]; show _ ≤ 9; omega) (by rw [hR]; show _ ≤ 306937; omega) d_Mo_init_39 (fun og H hP hD hS => ?_)
  have hP : va_P D cls0 [(mo, .inr (8, [.int (iZ 0), .int (iZ 0), .ref ow, .ref om, .ref ok_, .ref oK, .null, .null, .null, .null, .int (iZ 0), .int (iZ 0), .null, .int (iZ 0)])), (ow, .inl (cI, 108000, .inl (fun _ => iZ 0))), (om, .inl (cI, 9, .inl (fun _ => iZ 0))), (ok_, .inl (cI, 166400, .inl (fun _ => iZ 0))), (oK, .inl (cI, 64, .inl (fun _ => iZ 0))), (og, .inl (cI, 32, .inl (fun _ => iZ 0)))] H := hP
  have hD : va_D A [(mo, .inr (8, [.int (iZ 0), .int (iZ 0), .ref ow, .ref om, .ref ok_, .ref oK, .null, .null, .null, .null, .int (iZ 0), .int (iZ 0), .null, .int (iZ 0)])), (ow, .inl (cI, 108000, .inl (fun _ => iZ 0))), (om, .inl (cI, 9, .inl (fun _ => iZ 0))), (ok_, .inl (cI, 166400, .inl (fun _ => iZ 0))), (oK, .inl (cI, 64, .inl (fun _ => iZ 0))), (og, .inl (cI, 32, .inl (fun _ => iZ 0)))] := hD
  refine va_putF (D := D) (ci := 8) (v := .ref og) (ty := .array .int) (C := R_Mo) (T := F_Mo) (N := 14) hx hb hts i_Mo t_Mo t_Mo_ok n_Mo hown hK hP hD hS 0 rfl rfl 6 (by decide) (hts _ (big_in mw_1121 rfl)) (fun _ h9 => h9) rfl hin rfl (by decide +kernel) rfl rfl (Nat.le_of_ble_eq_true rfl) d_Mo_init_41 (fun H locs hP hD hS => ?_)
  have hP : va_P D cls0 [(mo, .inr (8, [.int (iZ 0), .int (iZ 0), .ref ow, .ref om, .ref ok_, .ref oK, .ref og, .null, .null, .null, .int (iZ 0), .int (iZ 0), .null, .int (iZ 0)])), (ow, .inl (cI, 108000, .inl (fun _ => iZ 0))), (om, .inl (cI, 9, .inl (fun _ => iZ 0))), (ok_, .inl (cI, 166400, .inl (fun _ => iZ 0))), (oK, .inl (cI, 64, .inl (fun _ => iZ 0))), (og, .inl (cI, 32, .inl (fun _ => iZ 0)))] H := hP
  have hD : va_D A [(mo, .inr (8, [.int (iZ 0), .int (iZ 0), .ref ow, .ref om, .ref ok_, .ref oK, .ref og, .null, .null, .null, .int (iZ 0), .int (iZ 0), .null, .int (iZ 0)])), (ow, .inl (cI, 108000, .inl (fun _ => iZ 0))), (om, .inl (cI, 9, .inl (fun _ => iZ 0))), (ok_, .inl (cI, 166400, .inl (fun _ => iZ 0))), (oK, .inl (cI, 64, .inl (fun _ => iZ 0))), (og, .inl (cI, 32, .inl (fun _ => iZ 0)))] := hD
  refine lv_aload_n hx hb d_Mo_init_44 rfl (lv_at hl 0 rfl) ?_
  refine lv_bipush (v := iZ (32)) hx hb d_Mo_init_45 (by decide +kernel) ?_
  refine zz_newI 32 hx hb (hts _ (big_in mw_70 rfl)) hK hP hD hS hA 0 rfl (by omega) (by omega) (by rw [hR]; show _ ≤ 9; omega) (by rw [hR]; show _ ≤ 306937; omega) d_Mo_init_47 (fun on_ H hP hD hS => ?_)
  have hP : va_P D cls0 [(mo, .inr (8, [.int (iZ 0), .int (iZ 0), .ref ow, .ref om, .ref ok_, .ref oK, .ref og, .null, .null, .null, .int (iZ 0), .int (iZ 0), .null, .int (iZ 0)])), (ow, .inl (cI, 108000, .inl (fun _ => iZ 0))), (om, .inl (cI, 9, .inl (fun _ => iZ 0))), (ok_, .inl (cI, 166400, .inl (fun _ => iZ 0))), (oK, .inl (cI, 64, .inl (fun _ => iZ 0))), (og, .inl (cI, 32, .inl (fun _ => iZ 0))), (on_, .inl (cI, 32, .inl (fun _ => iZ 0)))] H := hP
  have hD : va_D A [(mo, .inr (8, [.int (iZ 0), .int (iZ 0), .ref ow, .ref om, .ref ok_, .ref oK, .ref og, .null, .null, .null, .int (iZ 0), .int (iZ 0), .null, .int (iZ 0)])), (ow, .inl (cI, 108000, .inl (fun _ => iZ 0))), (om, .inl (cI, 9, .inl (fun _ => iZ 0))), (ok_, .inl (cI, 166400, .inl (fun _ => iZ 0))), (oK, .inl (cI, 64, .inl (fun _ => iZ 0))), (og, .inl (cI, 32, .inl (fun _ => iZ 0))), (on_, .inl (cI, 32, .inl (fun _ => iZ 0)))] := hD
  refine va_putF (D := D) (ci := 8) (v := .ref on_) (ty := .array .int) (C := R_Mo) (T := F_Mo) (N := 14) hx hb hts i_Mo t_Mo t_Mo_ok n_Mo hown hK hP hD hS 0 rfl rfl 7 (by decide) (hts _ (big_in mw_1122 rfl)) (fun _ h9 => h9) rfl hin rfl (by decide +kernel) rfl rfl (Nat.le_of_ble_eq_true rfl) d_Mo_init_49 (fun H locs hP hD hS => ?_)
  have hP : va_P D cls0 [(mo, .inr (8, [.int (iZ 0), .int (iZ 0), .ref ow, .ref om, .ref ok_, .ref oK, .ref og, .ref on_, .null, .null, .int (iZ 0), .int (iZ 0), .null, .int (iZ 0)])), (ow, .inl (cI, 108000, .inl (fun _ => iZ 0))), (om, .inl (cI, 9, .inl (fun _ => iZ 0))), (ok_, .inl (cI, 166400, .inl (fun _ => iZ 0))), (oK, .inl (cI, 64, .inl (fun _ => iZ 0))), (og, .inl (cI, 32, .inl (fun _ => iZ 0))), (on_, .inl (cI, 32, .inl (fun _ => iZ 0)))] H := hP
  have hD : va_D A [(mo, .inr (8, [.int (iZ 0), .int (iZ 0), .ref ow, .ref om, .ref ok_, .ref oK, .ref og, .ref on_, .null, .null, .int (iZ 0), .int (iZ 0), .null, .int (iZ 0)])), (ow, .inl (cI, 108000, .inl (fun _ => iZ 0))), (om, .inl (cI, 9, .inl (fun _ => iZ 0))), (ok_, .inl (cI, 166400, .inl (fun _ => iZ 0))), (oK, .inl (cI, 64, .inl (fun _ => iZ 0))), (og, .inl (cI, 32, .inl (fun _ => iZ 0))), (on_, .inl (cI, 32, .inl (fun _ => iZ 0)))] := hD
  refine lv_aload_n hx hb d_Mo_init_52 rfl (lv_at hl 0 rfl) ?_
  refine lv_sipush (v := iZ (10000)) hx hb d_Mo_init_53 (by decide +kernel) ?_
  refine zz_newI 10000 hx hb (hts _ (big_in mw_70 rfl)) hK hP hD hS hA 0 rfl (by omega) (by omega) (by rw [hR]; show _ ≤ 9; omega) (by rw [hR]; show _ ≤ 306937; omega) d_Mo_init_56 (fun oh H hP hD hS => ?_)
  have hP : va_P D cls0 [(mo, .inr (8, [.int (iZ 0), .int (iZ 0), .ref ow, .ref om, .ref ok_, .ref oK, .ref og, .ref on_, .null, .null, .int (iZ 0), .int (iZ 0), .null, .int (iZ 0)])), (ow, .inl (cI, 108000, .inl (fun _ => iZ 0))), (om, .inl (cI, 9, .inl (fun _ => iZ 0))), (ok_, .inl (cI, 166400, .inl (fun _ => iZ 0))), (oK, .inl (cI, 64, .inl (fun _ => iZ 0))), (og, .inl (cI, 32, .inl (fun _ => iZ 0))), (on_, .inl (cI, 32, .inl (fun _ => iZ 0))), (oh, .inl (cI, 10000, .inl (fun _ => iZ 0)))] H := hP
  have hD : va_D A [(mo, .inr (8, [.int (iZ 0), .int (iZ 0), .ref ow, .ref om, .ref ok_, .ref oK, .ref og, .ref on_, .null, .null, .int (iZ 0), .int (iZ 0), .null, .int (iZ 0)])), (ow, .inl (cI, 108000, .inl (fun _ => iZ 0))), (om, .inl (cI, 9, .inl (fun _ => iZ 0))), (ok_, .inl (cI, 166400, .inl (fun _ => iZ 0))), (oK, .inl (cI, 64, .inl (fun _ => iZ 0))), (og, .inl (cI, 32, .inl (fun _ => iZ 0))), (on_, .inl (cI, 32, .inl (fun _ => iZ 0))), (oh, .inl (cI, 10000, .inl (fun _ => iZ 0)))] := hD
  refine va_putF (D := D) (ci := 8) (v := .ref oh) (ty := .array .int) (C := R_Mo) (T := F_Mo) (N := 14) hx hb hts i_Mo t_Mo t_Mo_ok n_Mo hown hK hP hD hS 0 rfl rfl 8 (by decide) (hts _ (big_in mw_1123 rfl)) (fun _ h9 => h9) rfl hin rfl (by decide +kernel) rfl rfl (Nat.le_of_ble_eq_true rfl) d_Mo_init_58 (fun H locs hP hD hS => ?_)
  have hP : va_P D cls0 [(mo, .inr (8, [.int (iZ 0), .int (iZ 0), .ref ow, .ref om, .ref ok_, .ref oK, .ref og, .ref on_, .ref oh, .null, .int (iZ 0), .int (iZ 0), .null, .int (iZ 0)])), (ow, .inl (cI, 108000, .inl (fun _ => iZ 0))), (om, .inl (cI, 9, .inl (fun _ => iZ 0))), (ok_, .inl (cI, 166400, .inl (fun _ => iZ 0))), (oK, .inl (cI, 64, .inl (fun _ => iZ 0))), (og, .inl (cI, 32, .inl (fun _ => iZ 0))), (on_, .inl (cI, 32, .inl (fun _ => iZ 0))), (oh, .inl (cI, 10000, .inl (fun _ => iZ 0)))] H := hP
  have hD : va_D A [(mo, .inr (8, [.int (iZ 0), .int (iZ 0), .ref ow, .ref om, .ref ok_, .ref oK, .ref og, .ref on_, .ref oh, .null, .int (iZ 0), .int (iZ 0), .null, .int (iZ 0)])), (ow, .inl (cI, 108000, .inl (fun _ => iZ 0))), (om, .inl (cI, 9, .inl (fun _ => iZ 0))), (ok_, .inl (cI, 166400, .inl (fun _ => iZ 0))), (oK, .inl (cI, 64, .inl (fun _ => iZ 0))), (og, .inl (cI, 32, .inl (fun _ => iZ 0))), (on_, .inl (cI, 32, .inl (fun _ => iZ 0))), (oh, .inl (cI, 10000, .inl (fun _ => iZ 0)))] := hD
  refine lv_aload_n hx hb d_Mo_init_61 rfl (lv_at hl 0 rfl) ?_
  refine lv_sipush (v := iZ (400)) hx hb d_Mo_init_62 (by decide +kernel) ?_
  refine zz_newI 400 hx hb (hts _ (big_in mw_70 rfl)) hK hP hD hS hA 0 rfl (by omega) (by omega) (by rw [hR]; show _ ≤ 9; omega) (by rw [hR]; show _ ≤ 306937; omega) d_Mo_init_65 (fun ox H hP hD hS => ?_)
  have hP : va_P D cls0 [(mo, .inr (8, [.int (iZ 0), .int (iZ 0), .ref ow, .ref om, .ref ok_, .ref oK, .ref og, .ref on_, .ref oh, .null, .int (iZ 0), .int (iZ 0), .null, .int (iZ 0)])), (ow, .inl (cI, 108000, .inl (fun _ => iZ 0))), (om, .inl (cI, 9, .inl (fun _ => iZ 0))), (ok_, .inl (cI, 166400, .inl (fun _ => iZ 0))), (oK, .inl (cI, 64, .inl (fun _ => iZ 0))), (og, .inl (cI, 32, .inl (fun _ => iZ 0))), (on_, .inl (cI, 32, .inl (fun _ => iZ 0))), (oh, .inl (cI, 10000, .inl (fun _ => iZ 0))), (ox, .inl (cI, 400, .inl (fun _ => iZ 0)))] H := hP
  have hD : va_D A [(mo, .inr (8, [.int (iZ 0), .int (iZ 0), .ref ow, .ref om, .ref ok_, .ref oK, .ref og, .ref on_, .ref oh, .null, .int (iZ 0), .int (iZ 0), .null, .int (iZ 0)])), (ow, .inl (cI, 108000, .inl (fun _ => iZ 0))), (om, .inl (cI, 9, .inl (fun _ => iZ 0))), (ok_, .inl (cI, 166400, .inl (fun _ => iZ 0))), (oK, .inl (cI, 64, .inl (fun _ => iZ 0))), (og, .inl (cI, 32, .inl (fun _ => iZ 0))), (on_, .inl (cI, 32, .inl (fun _ => iZ 0))), (oh, .inl (cI, 10000, .inl (fun _ => iZ 0))), (ox, .inl (cI, 400, .inl (fun _ => iZ 0)))] := hD
  refine va_putF (D := D) (ci := 8) (v := .ref ox) (ty := .array .int) (C := R_Mo) (T := F_Mo) (N := 14) hx hb hts i_Mo t_Mo t_Mo_ok n_Mo hown hK hP hD hS 0 rfl rfl 9 (by decide) (hts _ (big_in mw_1124 rfl)) (fun _ h9 => h9) rfl hin rfl (by decide +kernel) rfl rfl (Nat.le_of_ble_eq_true rfl) d_Mo_init_67 (fun H locs hP hD hS => ?_)
  have hP : va_P D cls0 [(mo, .inr (8, [.int (iZ 0), .int (iZ 0), .ref ow, .ref om, .ref ok_, .ref oK, .ref og, .ref on_, .ref oh, .ref ox, .int (iZ 0), .int (iZ 0), .null, .int (iZ 0)])), (ow, .inl (cI, 108000, .inl (fun _ => iZ 0))), (om, .inl (cI, 9, .inl (fun _ => iZ 0))), (ok_, .inl (cI, 166400, .inl (fun _ => iZ 0))), (oK, .inl (cI, 64, .inl (fun _ => iZ 0))), (og, .inl (cI, 32, .inl (fun _ => iZ 0))), (on_, .inl (cI, 32, .inl (fun _ => iZ 0))), (oh, .inl (cI, 10000, .inl (fun _ => iZ 0))), (ox, .inl (cI, 400, .inl (fun _ => iZ 0)))] H := hP
  have hD : va_D A [(mo, .inr (8, [.int (iZ 0), .int (iZ 0), .ref ow, .ref om, .ref ok_, .ref oK, .ref og, .ref on_, .ref oh, .ref ox, .int (iZ 0), .int (iZ 0), .null, .int (iZ 0)])), (ow, .inl (cI, 108000, .inl (fun _ => iZ 0))), (om, .inl (cI, 9, .inl (fun _ => iZ 0))), (ok_, .inl (cI, 166400, .inl (fun _ => iZ 0))), (oK, .inl (cI, 64, .inl (fun _ => iZ 0))), (og, .inl (cI, 32, .inl (fun _ => iZ 0))), (on_, .inl (cI, 32, .inl (fun _ => iZ 0))), (oh, .inl (cI, 10000, .inl (fun _ => iZ 0))), (ox, .inl (cI, 400, .inl (fun _ => iZ 0)))] := hD
  refine lv_aload_n hx hb d_Mo_init_70 rfl (lv_at hl 0 rfl) ?_
  refine lv_iconst (v := iZ (-1)) hx hb d_Mo_init_71 (by decide +kernel) ?_
  refine va_put (D := D) (ci := 8) (v := .int (iZ (-1))) (ty := .int) (C := R_Mo) (T := F_Mo) (N := 14) hx hb hts i_Mo t_Mo t_Mo_ok n_Mo hown hK hP hD hS 0 rfl rfl 11 (by decide) (hts _ (big_in mw_1126 rfl)) (fun _ h9 => h9) rfl (by decide +kernel) rfl rfl (Nat.le_of_ble_eq_true rfl) d_Mo_init_72 (fun H locs hP hD hS => ?_)
  have hP : va_P D cls0 [(mo, .inr (8, [.int (iZ 0), .int (iZ 0), .ref ow, .ref om, .ref ok_, .ref oK, .ref og, .ref on_, .ref oh, .ref ox, .int (iZ 0), .int (iZ (-1)), .null, .int (iZ 0)])), (ow, .inl (cI, 108000, .inl (fun _ => iZ 0))), (om, .inl (cI, 9, .inl (fun _ => iZ 0))), (ok_, .inl (cI, 166400, .inl (fun _ => iZ 0))), (oK, .inl (cI, 64, .inl (fun _ => iZ 0))), (og, .inl (cI, 32, .inl (fun _ => iZ 0))), (on_, .inl (cI, 32, .inl (fun _ => iZ 0))), (oh, .inl (cI, 10000, .inl (fun _ => iZ 0))), (ox, .inl (cI, 400, .inl (fun _ => iZ 0)))] H := hP
  have hD : va_D A [(mo, .inr (8, [.int (iZ 0), .int (iZ 0), .ref ow, .ref om, .ref ok_, .ref oK, .ref og, .ref on_, .ref oh, .ref ox, .int (iZ 0), .int (iZ (-1)), .null, .int (iZ 0)])), (ow, .inl (cI, 108000, .inl (fun _ => iZ 0))), (om, .inl (cI, 9, .inl (fun _ => iZ 0))), (ok_, .inl (cI, 166400, .inl (fun _ => iZ 0))), (oK, .inl (cI, 64, .inl (fun _ => iZ 0))), (og, .inl (cI, 32, .inl (fun _ => iZ 0))), (on_, .inl (cI, 32, .inl (fun _ => iZ 0))), (oh, .inl (cI, 10000, .inl (fun _ => iZ 0))), (ox, .inl (cI, 400, .inl (fun _ => iZ 0)))] := hD
  refine lv_aload_n hx hb d_Mo_init_75 rfl (lv_at hl 0 rfl) ?_
  refine lv_sipush (v := iZ (22000)) hx hb d_Mo_init_76 (by decide +kernel) ?_
  refine zz_newI 22000 hx hb (hts _ (big_in mw_70 rfl)) hK hP hD hS hA 0 rfl (by omega) (by omega) (by rw [hR]; show _ ≤ 9; omega) (by rw [hR]; show _ ≤ 306937; omega) d_Mo_init_79 (fun op_ H hP hD hS => ?_)
  have hP : va_P D cls0 [(mo, .inr (8, [.int (iZ 0), .int (iZ 0), .ref ow, .ref om, .ref ok_, .ref oK, .ref og, .ref on_, .ref oh, .ref ox, .int (iZ 0), .int (iZ (-1)), .null, .int (iZ 0)])), (ow, .inl (cI, 108000, .inl (fun _ => iZ 0))), (om, .inl (cI, 9, .inl (fun _ => iZ 0))), (ok_, .inl (cI, 166400, .inl (fun _ => iZ 0))), (oK, .inl (cI, 64, .inl (fun _ => iZ 0))), (og, .inl (cI, 32, .inl (fun _ => iZ 0))), (on_, .inl (cI, 32, .inl (fun _ => iZ 0))), (oh, .inl (cI, 10000, .inl (fun _ => iZ 0))), (ox, .inl (cI, 400, .inl (fun _ => iZ 0))), (op_, .inl (cI, 22000, .inl (fun _ => iZ 0)))] H := hP
  have hD : va_D A [(mo, .inr (8, [.int (iZ 0), .int (iZ 0), .ref ow, .ref om, .ref ok_, .ref oK, .ref og, .ref on_, .ref oh, .ref ox, .int (iZ 0), .int (iZ (-1)), .null, .int (iZ 0)])), (ow, .inl (cI, 108000, .inl (fun _ => iZ 0))), (om, .inl (cI, 9, .inl (fun _ => iZ 0))), (ok_, .inl (cI, 166400, .inl (fun _ => iZ 0))), (oK, .inl (cI, 64, .inl (fun _ => iZ 0))), (og, .inl (cI, 32, .inl (fun _ => iZ 0))), (on_, .inl (cI, 32, .inl (fun _ => iZ 0))), (oh, .inl (cI, 10000, .inl (fun _ => iZ 0))), (ox, .inl (cI, 400, .inl (fun _ => iZ 0))), (op_, .inl (cI, 22000, .inl (fun _ => iZ 0)))] := hD
  refine va_putF (D := D) (ci := 8) (v := .ref op_) (ty := .array .int) (C := R_Mo) (T := F_Mo) (N := 14) hx hb hts i_Mo t_Mo t_Mo_ok n_Mo hown hK hP hD hS 0 rfl rfl 12 (by decide) (hts _ (big_in mw_1127 rfl)) (fun _ h9 => h9) rfl hin rfl (by decide +kernel) rfl rfl (Nat.le_of_ble_eq_true rfl) d_Mo_init_81 (fun H locs hP hD hS => ?_)
  have hP : va_P D cls0 [(mo, .inr (8, [.int (iZ 0), .int (iZ 0), .ref ow, .ref om, .ref ok_, .ref oK, .ref og, .ref on_, .ref oh, .ref ox, .int (iZ 0), .int (iZ (-1)), .ref op_, .int (iZ 0)])), (ow, .inl (cI, 108000, .inl (fun _ => iZ 0))), (om, .inl (cI, 9, .inl (fun _ => iZ 0))), (ok_, .inl (cI, 166400, .inl (fun _ => iZ 0))), (oK, .inl (cI, 64, .inl (fun _ => iZ 0))), (og, .inl (cI, 32, .inl (fun _ => iZ 0))), (on_, .inl (cI, 32, .inl (fun _ => iZ 0))), (oh, .inl (cI, 10000, .inl (fun _ => iZ 0))), (ox, .inl (cI, 400, .inl (fun _ => iZ 0))), (op_, .inl (cI, 22000, .inl (fun _ => iZ 0)))] H := hP
  have hD : va_D A [(mo, .inr (8, [.int (iZ 0), .int (iZ 0), .ref ow, .ref om, .ref ok_, .ref oK, .ref og, .ref on_, .ref oh, .ref ox, .int (iZ 0), .int (iZ (-1)), .ref op_, .int (iZ 0)])), (ow, .inl (cI, 108000, .inl (fun _ => iZ 0))), (om, .inl (cI, 9, .inl (fun _ => iZ 0))), (ok_, .inl (cI, 166400, .inl (fun _ => iZ 0))), (oK, .inl (cI, 64, .inl (fun _ => iZ 0))), (og, .inl (cI, 32, .inl (fun _ => iZ 0))), (on_, .inl (cI, 32, .inl (fun _ => iZ 0))), (oh, .inl (cI, 10000, .inl (fun _ => iZ 0))), (ox, .inl (cI, 400, .inl (fun _ => iZ 0))), (op_, .inl (cI, 22000, .inl (fun _ => iZ 0)))] := hD
  have L110 : ∀ (N : Nat) (i : Nat) (fk : Nat → Int32) (fK : Nat → Int32) (fn : Nat → Int32) (H : Heap) (locs : List Loc) (ls : Array Slot), 32 - i < N → (i ≤ 32) → (∀ r, r < i → fk (2600 * (2 * r + 1)) = iZ 1) → (∀ r, r < i → fK (2 * r + 1) = iZ 1) → (∀ r, r < 32 → fK (2 * r) = iZ 0) → (∀ r, r < i → fn r = iZ 1) → va_P D cls0 [(mo, .inr (8, [.int (iZ 0), .int (iZ (np : Int)), .ref ow, .ref om, .ref ok_, .ref oK, .ref og, .ref on_, .ref oh, .ref ox, .int (iZ 0), .int (iZ (-1)), .ref op_, .int (iZ 0)])), (ow, .inl (cI, 108000, .inl (fun _ => iZ 0))), (om, .inl (cI, 9, .inl (fun _ => iZ 0))), (ok_, .inl (cI, 166400, .inl fk)), (oK, .inl (cI, 64, .inl fK)), (og, .inl (cI, 32, .inl (fun _ => iZ 0))), (on_, .inl (cI, 32, .inl fn)), (oh, .inl (cI, 10000, .inl (fun _ => iZ 0))), (ox, .inl (cI, 400, .inl (fun _ => iZ 0))), (op_, .inl (cI, 22000, .inl (fun _ => iZ 0)))] H → va_D A [(mo, .inr (8, [.int (iZ 0), .int (iZ (np : Int)), .ref ow, .ref om, .ref ok_, .ref oK, .ref og, .ref on_, .ref oh, .ref ox, .int (iZ 0), .int (iZ (-1)), .ref op_, .int (iZ 0)])), (ow, .inl (cI, 108000, .inl (fun _ => iZ 0))), (om, .inl (cI, 9, .inl (fun _ => iZ 0))), (ok_, .inl (cI, 166400, .inl fk)), (oK, .inl (cI, 64, .inl fK)), (og, .inl (cI, 32, .inl (fun _ => iZ 0))), (on_, .inl (cI, 32, .inl fn)), (oh, .inl (cI, 10000, .inl (fun _ => iZ 0))), (ox, .inl (cI, 400, .inl (fun _ => iZ 0))), (op_, .inl (cI, 22000, .inl (fun _ => iZ 0)))] → va_S A s.heap H locs → lv_has ls 3 [(0, .ref mo), (1, .int (iZ (np : Int))), (2, .int (iZ (i : Int)))] → W p l e R s m args below meth c H locs (0 + 1 + 1 + 1 + 1 + 1 + 1 + 1 + 1 + 1) (0 + 108000 + 9 + 166400 + 64 + 32 + 32 + 10000 + 400 + 22000) Q (F0 m 110 ls []) := by
    intro N
    induction N with
    | zero => intro i fk fK fn H locs ls hN; exact absurd hN (Nat.not_lt_zero _)
    | succ N ih =>
      intro i fk fK fn H locs ls hN ii i1 i2 i3 i4 hP hD hS hl
      refine lv_iload_n hx hb d_Mo_init_110 rfl (lv_at hl 2 rfl) ?_
      refine lv_bipush (v := iZ (32)) hx hb d_Mo_init_111 (by decide +kernel) ?_
      refine zz_icmp_ge (tgt := 155) hx hb d_Mo_init_113 (by decide) (by omega) (by omega) (fun c113 => ?_) (fun c113 => ?_)
      · have hP9 : va_P D cls0 [(mo, .inr (8, [.int (iZ 0), .int (iZ (np : Int)), .ref ow, .ref om, .ref ok_, .ref oK, .ref og, .ref on_, .ref oh, .ref ox, .int (iZ 0), .int (iZ (-1)), .ref op_, .int (iZ 0)])), (ow, .inl (cI, 108000, .inl (fun _ => iZ 0))), (om, .inl (cI, 9, .inl (fun _ => iZ 0))), (ok_, .inl (cI, 166400, .inl fk)), (oK, .inl (cI, 64, .inl fK)), (og, .inl (cI, 32, .inl (fun _ => iZ 0))), (on_, .inl (cI, 32, .inl fn)), (oh, .inl (cI, 10000, .inl (fun _ => iZ 0))), (ox, .inl (cI, 400, .inl (fun _ => iZ 0))), (op_, .inl (cI, 22000, .inl (fun _ => iZ 0)))] H := hP.sub [0, 1, 2, 3, 4, 5, 6, 7, 8, 9] rfl
        have hD9 : va_D A [(mo, .inr (8, [.int (iZ 0), .int (iZ (np : Int)), .ref ow, .ref om, .ref ok_, .ref oK, .ref og, .ref on_, .ref oh, .ref ox, .int (iZ 0), .int (iZ (-1)), .ref op_, .int (iZ 0)])), (ow, .inl (cI, 108000, .inl (fun _ => iZ 0))), (om, .inl (cI, 9, .inl (fun _ => iZ 0))), (ok_, .inl (cI, 166400, .inl fk)), (oK, .inl (cI, 64, .inl fK)), (og, .inl (cI, 32, .inl (fun _ => iZ 0))), (on_, .inl (cI, 32, .inl fn)), (oh, .inl (cI, 10000, .inl (fun _ => iZ 0))), (ox, .inl (cI, 400, .inl (fun _ => iZ 0))), (op_, .inl (cI, 22000, .inl (fun _ => iZ 0)))] := hD.sub [0, 1, 2, 3, 4, 5, 6, 7, 8, 9] (by decide) rfl
        refine W.widen (k := 9) (n := 306937) (by omega) (by omega) ?_
        rw [hQ, ← hAe]
        refine r_v K (ow, om, ok_, oK, og, on_, oh, ox, op_, fk, fK, fn) hS d_Mo_init_155 ?_ (fun t ht hv => ?_)
        · try dsimp only
          have ei : i = 32 := by omega
          subst ei
          exact ⟨rfl, MoR_start i1 (fun r hr => ⟨i2 r hr, i3 r hr⟩) i4⟩
        · exact ⟨by rw [ht]; exact hP9, va_K.moved hv hK, by rw [← hAe]; exact hD9⟩
      · refine lv_aload_n hx hb d_Mo_init_116 rfl (lv_at hl 0 rfl) ?_
        refine va_get (D := D) (ci := 8) (v := .ref ok_) (C := R_Mo) (T := F_Mo) (N := 14) hx hb hts i_Mo hown hK hP 0 rfl rfl 4 (by decide) (hts _ (big_in mw_1119 rfl)) (fun _ h9 => h9) rfl d_Mo_init_117 ?_
        refine lv_sipush (v := iZ (2600)) hx hb d_Mo_init_120 (by decide +kernel) ?_
        refine lv_iconst (v := iZ (2)) hx hb d_Mo_init_123 (by decide +kernel) ?_
        refine lv_iload_n hx hb d_Mo_init_124 rfl (lv_at hl 2 rfl) ?_
        refine zz_imul hx hb d_Mo_init_125 ?_
        refine lv_iconst (v := iZ (1)) hx hb d_Mo_init_126 (by decide +kernel) ?_
        refine zz_iadd hx hb d_Mo_init_127 ?_
        refine zz_imul hx hb d_Mo_init_128 ?_
        refine lv_iconst (v := iZ (1)) hx hb d_Mo_init_129 (by decide +kernel) ?_
        refine zz_iast hx hb hK hP hD hS 3 0 rfl rfl (2600 * (2 * i + 1)) (by omega) (by omega) (by omega) d_Mo_init_130 (fun H locs hP hD hS => ?_)
        have hP : va_P D cls0 [(mo, .inr (8, [.int (iZ 0), .int (iZ (np : Int)), .ref ow, .ref om, .ref ok_, .ref oK, .ref og, .ref on_, .ref oh, .ref ox, .int (iZ 0), .int (iZ (-1)), .ref op_, .int (iZ 0)])), (ow, .inl (cI, 108000, .inl (fun _ => iZ 0))), (om, .inl (cI, 9, .inl (fun _ => iZ 0))), (ok_, .inl (cI, 166400, .inl (upd fk (2600 * (2 * i + 1)) (iZ 1)))), (oK, .inl (cI, 64, .inl fK)), (og, .inl (cI, 32, .inl (fun _ => iZ 0))), (on_, .inl (cI, 32, .inl fn)), (oh, .inl (cI, 10000, .inl (fun _ => iZ 0))), (ox, .inl (cI, 400, .inl (fun _ => iZ 0))), (op_, .inl (cI, 22000, .inl (fun _ => iZ 0)))] H := hP
        have hD : va_D A [(mo, .inr (8, [.int (iZ 0), .int (iZ (np : Int)), .ref ow, .ref om, .ref ok_, .ref oK, .ref og, .ref on_, .ref oh, .ref ox, .int (iZ 0), .int (iZ (-1)), .ref op_, .int (iZ 0)])), (ow, .inl (cI, 108000, .inl (fun _ => iZ 0))), (om, .inl (cI, 9, .inl (fun _ => iZ 0))), (ok_, .inl (cI, 166400, .inl (upd fk (2600 * (2 * i + 1)) (iZ 1)))), (oK, .inl (cI, 64, .inl fK)), (og, .inl (cI, 32, .inl (fun _ => iZ 0))), (on_, .inl (cI, 32, .inl fn)), (oh, .inl (cI, 10000, .inl (fun _ => iZ 0))), (ox, .inl (cI, 400, .inl (fun _ => iZ 0))), (op_, .inl (cI, 22000, .inl (fun _ => iZ 0)))] := hD
        refine lv_aload_n hx hb d_Mo_init_131 rfl (lv_at hl 0 rfl) ?_
        refine va_get (D := D) (ci := 8) (v := .ref oK) (C := R_Mo) (T := F_Mo) (N := 14) hx hb hts i_Mo hown hK hP 0 rfl rfl 5 (by decide) (hts _ (big_in mw_1120 rfl)) (fun _ h9 => h9) rfl d_Mo_init_132 ?_
        refine lv_iconst (v := iZ (2)) hx hb d_Mo_init_135 (by decide +kernel) ?_
        refine lv_iload_n hx hb d_Mo_init_136 rfl (lv_at hl 2 rfl) ?_
        refine zz_imul hx hb d_Mo_init_137 ?_
        refine lv_iconst (v := iZ (1)) hx hb d_Mo_init_138 (by decide +kernel) ?_
        refine zz_iadd hx hb d_Mo_init_139 ?_
        refine lv_iconst (v := iZ (1)) hx hb d_Mo_init_140 (by decide +kernel) ?_
        refine zz_iast hx hb hK hP hD hS 4 0 rfl rfl (2 * i + 1) (by omega) (by omega) (by omega) d_Mo_init_141 (fun H locs hP hD hS => ?_)
        have hP : va_P D cls0 [(mo, .inr (8, [.int (iZ 0), .int (iZ (np : Int)), .ref ow, .ref om, .ref ok_, .ref oK, .ref og, .ref on_, .ref oh, .ref ox, .int (iZ 0), .int (iZ (-1)), .ref op_, .int (iZ 0)])), (ow, .inl (cI, 108000, .inl (fun _ => iZ 0))), (om, .inl (cI, 9, .inl (fun _ => iZ 0))), (ok_, .inl (cI, 166400, .inl (upd fk (2600 * (2 * i + 1)) (iZ 1)))), (oK, .inl (cI, 64, .inl (upd fK (2 * i + 1) (iZ 1)))), (og, .inl (cI, 32, .inl (fun _ => iZ 0))), (on_, .inl (cI, 32, .inl fn)), (oh, .inl (cI, 10000, .inl (fun _ => iZ 0))), (ox, .inl (cI, 400, .inl (fun _ => iZ 0))), (op_, .inl (cI, 22000, .inl (fun _ => iZ 0)))] H := hP
        have hD : va_D A [(mo, .inr (8, [.int (iZ 0), .int (iZ (np : Int)), .ref ow, .ref om, .ref ok_, .ref oK, .ref og, .ref on_, .ref oh, .ref ox, .int (iZ 0), .int (iZ (-1)), .ref op_, .int (iZ 0)])), (ow, .inl (cI, 108000, .inl (fun _ => iZ 0))), (om, .inl (cI, 9, .inl (fun _ => iZ 0))), (ok_, .inl (cI, 166400, .inl (upd fk (2600 * (2 * i + 1)) (iZ 1)))), (oK, .inl (cI, 64, .inl (upd fK (2 * i + 1) (iZ 1)))), (og, .inl (cI, 32, .inl (fun _ => iZ 0))), (on_, .inl (cI, 32, .inl fn)), (oh, .inl (cI, 10000, .inl (fun _ => iZ 0))), (ox, .inl (cI, 400, .inl (fun _ => iZ 0))), (op_, .inl (cI, 22000, .inl (fun _ => iZ 0)))] := hD
        refine lv_aload_n hx hb d_Mo_init_142 rfl (lv_at hl 0 rfl) ?_
        refine va_get (D := D) (ci := 8) (v := .ref on_) (C := R_Mo) (T := F_Mo) (N := 14) hx hb hts i_Mo hown hK hP 0 rfl rfl 7 (by decide) (hts _ (big_in mw_1122 rfl)) (fun _ h9 => h9) rfl d_Mo_init_143 ?_
        refine lv_iload_n hx hb d_Mo_init_146 rfl (lv_at hl 2 rfl) ?_
        refine lv_iconst (v := iZ (1)) hx hb d_Mo_init_147 (by decide +kernel) ?_
        refine zz_iast hx hb hK hP hD hS 6 0 rfl rfl (i) (by omega) (by omega) (by omega) d_Mo_init_148 (fun H locs hP hD hS => ?_)
        have hP : va_P D cls0 [(mo, .inr (8, [.int (iZ 0), .int (iZ (np : Int)), .ref ow, .ref om, .ref ok_, .ref oK, .ref og, .ref on_, .ref oh, .ref ox, .int (iZ 0), .int (iZ (-1)), .ref op_, .int (iZ 0)])), (ow, .inl (cI, 108000, .inl (fun _ => iZ 0))), (om, .inl (cI, 9, .inl (fun _ => iZ 0))), (ok_, .inl (cI, 166400, .inl (upd fk (2600 * (2 * i + 1)) (iZ 1)))), (oK, .inl (cI, 64, .inl (upd fK (2 * i + 1) (iZ 1)))), (og, .inl (cI, 32, .inl (fun _ => iZ 0))), (on_, .inl (cI, 32, .inl (upd fn i (iZ 1)))), (oh, .inl (cI, 10000, .inl (fun _ => iZ 0))), (ox, .inl (cI, 400, .inl (fun _ => iZ 0))), (op_, .inl (cI, 22000, .inl (fun _ => iZ 0)))] H := hP
        have hD : va_D A [(mo, .inr (8, [.int (iZ 0), .int (iZ (np : Int)), .ref ow, .ref om, .ref ok_, .ref oK, .ref og, .ref on_, .ref oh, .ref ox, .int (iZ 0), .int (iZ (-1)), .ref op_, .int (iZ 0)])), (ow, .inl (cI, 108000, .inl (fun _ => iZ 0))), (om, .inl (cI, 9, .inl (fun _ => iZ 0))), (ok_, .inl (cI, 166400, .inl (upd fk (2600 * (2 * i + 1)) (iZ 1)))), (oK, .inl (cI, 64, .inl (upd fK (2 * i + 1) (iZ 1)))), (og, .inl (cI, 32, .inl (fun _ => iZ 0))), (on_, .inl (cI, 32, .inl (upd fn i (iZ 1)))), (oh, .inl (cI, 10000, .inl (fun _ => iZ 0))), (ox, .inl (cI, 400, .inl (fun _ => iZ 0))), (op_, .inl (cI, 22000, .inl (fun _ => iZ 0)))] := hD
        refine lv_iinc (v := iZ ((i : Int) + 1)) (lv' := [(2, .int (iZ ((i : Int) + 1))), (0, .ref mo), (1, .int (iZ (np : Int)))]) hx hb d_Mo_init_149 hl (k := 2) rfl (iZ_add _ _) (by decide) rfl (fun ls hl => ?_)
        refine lv_goto (tgt := 110) hx hb d_Mo_init_152 (by decide) ?_
        rw [show ((i : Int) + 1 : Int) = ((i + 1 : Nat) : Int) by omega] at hl
        exact ih (i + 1) (upd fk (2600 * (2 * i + 1)) (iZ 1)) (upd fK (2 * i + 1) (iZ 1)) (upd fn i (iZ 1)) _ _ _ (by omega) (by omega) (fun r hr => by by_cases e : r = i; (rw [e, pk_us]); (rw [pk_un (by omega)]; exact i1 r (by omega))) (fun r hr => by by_cases e : r = i; (rw [e, pk_us]); (rw [pk_un (by omega)]; exact i2 r (by omega))) (fun r hr => by rw [pk_un (by omega)]; exact i3 r hr) (fun r hr => by by_cases e : r = i; (rw [e, pk_us]); (rw [pk_un e]; exact i4 r (by omega))) (hP.sub (ws' := [(mo, .inr (8, [.int (iZ 0), .int (iZ (np : Int)), .ref ow, .ref om, .ref ok_, .ref oK, .ref og, .ref on_, .ref oh, .ref ox, .int (iZ 0), .int (iZ (-1)), .ref op_, .int (iZ 0)])), (ow, .inl (cI, 108000, .inl (fun _ => iZ 0))), (om, .inl (cI, 9, .inl (fun _ => iZ 0))), (ok_, .inl (cI, 166400, .inl (upd fk (2600 * (2 * i + 1)) (iZ 1)))), (oK, .inl (cI, 64, .inl (upd fK (2 * i + 1) (iZ 1)))), (og, .inl (cI, 32, .inl (fun _ => iZ 0))), (on_, .inl (cI, 32, .inl (upd fn i (iZ 1)))), (oh, .inl (cI, 10000, .inl (fun _ => iZ 0))), (ox, .inl (cI, 400, .inl (fun _ => iZ 0))), (op_, .inl (cI, 22000, .inl (fun _ => iZ 0)))]) [0, 1, 2, 3, 4, 5, 6, 7, 8, 9] rfl) (hD.sub (ws' := [(mo, .inr (8, [.int (iZ 0), .int (iZ (np : Int)), .ref ow, .ref om, .ref ok_, .ref oK, .ref og, .ref on_, .ref oh, .ref ox, .int (iZ 0), .int (iZ (-1)), .ref op_, .int (iZ 0)])), (ow, .inl (cI, 108000, .inl (fun _ => iZ 0))), (om, .inl (cI, 9, .inl (fun _ => iZ 0))), (ok_, .inl (cI, 166400, .inl (upd fk (2600 * (2 * i + 1)) (iZ 1)))), (oK, .inl (cI, 64, .inl (upd fK (2 * i + 1) (iZ 1)))), (og, .inl (cI, 32, .inl (fun _ => iZ 0))), (on_, .inl (cI, 32, .inl (upd fn i (iZ 1)))), (oh, .inl (cI, 10000, .inl (fun _ => iZ 0))), (ox, .inl (cI, 400, .inl (fun _ => iZ 0))), (op_, .inl (cI, 22000, .inl (fun _ => iZ 0)))]) [0, 1, 2, 3, 4, 5, 6, 7, 8, 9] (by decide) rfl) hS (lv_sub hl [1, 2, 0] rfl)
  refine lv_aload_n hx hb d_Mo_init_84 rfl (lv_at hl 0 rfl) ?_
  refine lv_iload_n hx hb d_Mo_init_85 rfl (lv_at hl 1 rfl) ?_
  refine lv_bipush (v := iZ (64)) hx hb d_Mo_init_86 (by decide +kernel) ?_
  refine zz_icmp_lt (tgt := 102) hx hb d_Mo_init_88 (by decide) (by omega) (by omega) (fun c88 => False.elim (by omega)) (fun c88 => ?_)
  refine lv_iload_n hx hb d_Mo_init_91 rfl (lv_at hl 1 rfl) ?_
  refine lv_sipush (v := iZ (1024)) hx hb d_Mo_init_92 (by decide +kernel) ?_
  refine zz_icmp_gt (tgt := 102) hx hb d_Mo_init_95 (by decide) (by omega) (by omega) (fun c95 => False.elim (by omega)) (fun c95 => ?_)
  refine lv_iload_n hx hb d_Mo_init_98 rfl (lv_at hl 1 rfl) ?_
  refine lv_goto (tgt := 105) hx hb d_Mo_init_99 (by decide) ?_
  refine va_putF (D := D) (ci := 8) (v := .int (iZ (np : Int))) (ty := .int) (C := R_Mo) (T := F_Mo) (N := 14) hx hb hts i_Mo t_Mo t_Mo_ok n_Mo hown hK hP hD hS 0 rfl rfl 1 (by decide) (hts _ (big_in mw_1116 rfl)) (fun _ h9 => h9) rfl hin rfl (by decide +kernel) rfl rfl (Nat.le_of_ble_eq_true rfl) d_Mo_init_105 (fun H locs hP hD hS => ?_)
  have hP : va_P D cls0 [(mo, .inr (8, [.int (iZ 0), .int (iZ (np : Int)), .ref ow, .ref om, .ref ok_, .ref oK, .ref og, .ref on_, .ref oh, .ref ox, .int (iZ 0), .int (iZ (-1)), .ref op_, .int (iZ 0)])), (ow, .inl (cI, 108000, .inl (fun _ => iZ 0))), (om, .inl (cI, 9, .inl (fun _ => iZ 0))), (ok_, .inl (cI, 166400, .inl (fun _ => iZ 0))), (oK, .inl (cI, 64, .inl (fun _ => iZ 0))), (og, .inl (cI, 32, .inl (fun _ => iZ 0))), (on_, .inl (cI, 32, .inl (fun _ => iZ 0))), (oh, .inl (cI, 10000, .inl (fun _ => iZ 0))), (ox, .inl (cI, 400, .inl (fun _ => iZ 0))), (op_, .inl (cI, 22000, .inl (fun _ => iZ 0)))] H := hP
  have hD : va_D A [(mo, .inr (8, [.int (iZ 0), .int (iZ (np : Int)), .ref ow, .ref om, .ref ok_, .ref oK, .ref og, .ref on_, .ref oh, .ref ox, .int (iZ 0), .int (iZ (-1)), .ref op_, .int (iZ 0)])), (ow, .inl (cI, 108000, .inl (fun _ => iZ 0))), (om, .inl (cI, 9, .inl (fun _ => iZ 0))), (ok_, .inl (cI, 166400, .inl (fun _ => iZ 0))), (oK, .inl (cI, 64, .inl (fun _ => iZ 0))), (og, .inl (cI, 32, .inl (fun _ => iZ 0))), (on_, .inl (cI, 32, .inl (fun _ => iZ 0))), (oh, .inl (cI, 10000, .inl (fun _ => iZ 0))), (ox, .inl (cI, 400, .inl (fun _ => iZ 0))), (op_, .inl (cI, 22000, .inl (fun _ => iZ 0)))] := hD
  refine lv_iconst (v := iZ (0)) hx hb d_Mo_init_108 (by decide +kernel) ?_
  refine lv_istore_n (lv' := [(2, .int (iZ 0)), (0, .ref mo), (1, .int (iZ (np : Int)))]) hx hb d_Mo_init_109 rfl hl (by decide) rfl (fun ls hl => ?_)
  exact L110 _ 0 (fun _ => iZ 0) (fun _ => iZ 0) (fun _ => iZ 0) _ _ _ (Nat.lt_succ_self _) (by omega) (fun r hr => absurd hr (Nat.not_lt_zero _)) (fun r hr => absurd hr (Nat.not_lt_zero _)) (fun r hr => rfl) (fun r hr => absurd hr (Nat.not_lt_zero _)) (hP.sub (ws' := [(mo, .inr (8, [.int (iZ 0), .int (iZ (np : Int)), .ref ow, .ref om, .ref ok_, .ref oK, .ref og, .ref on_, .ref oh, .ref ox, .int (iZ 0), .int (iZ (-1)), .ref op_, .int (iZ 0)])), (ow, .inl (cI, 108000, .inl (fun _ => iZ 0))), (om, .inl (cI, 9, .inl (fun _ => iZ 0))), (ok_, .inl (cI, 166400, .inl (fun _ => iZ 0))), (oK, .inl (cI, 64, .inl (fun _ => iZ 0))), (og, .inl (cI, 32, .inl (fun _ => iZ 0))), (on_, .inl (cI, 32, .inl (fun _ => iZ 0))), (oh, .inl (cI, 10000, .inl (fun _ => iZ 0))), (ox, .inl (cI, 400, .inl (fun _ => iZ 0))), (op_, .inl (cI, 22000, .inl (fun _ => iZ 0)))]) [0, 1, 2, 3, 4, 5, 6, 7, 8, 9] rfl) (hD.sub (ws' := [(mo, .inr (8, [.int (iZ 0), .int (iZ (np : Int)), .ref ow, .ref om, .ref ok_, .ref oK, .ref og, .ref on_, .ref oh, .ref ox, .int (iZ 0), .int (iZ (-1)), .ref op_, .int (iZ 0)])), (ow, .inl (cI, 108000, .inl (fun _ => iZ 0))), (om, .inl (cI, 9, .inl (fun _ => iZ 0))), (ok_, .inl (cI, 166400, .inl (fun _ => iZ 0))), (oK, .inl (cI, 64, .inl (fun _ => iZ 0))), (og, .inl (cI, 32, .inl (fun _ => iZ 0))), (on_, .inl (cI, 32, .inl (fun _ => iZ 0))), (oh, .inl (cI, 10000, .inl (fun _ => iZ 0))), (ox, .inl (cI, 400, .inl (fun _ => iZ 0))), (op_, .inl (cI, 22000, .inl (fun _ => iZ 0)))]) [0, 1, 2, 3, 4, 5, 6, 7, 8, 9] (by decide) rfl) hS (lv_sub hl [1, 2, 0] rfl)
set_option maxHeartbeats 4000000 in
set_option maxRecDepth 100000 in
/-- new FractionPoolModel(room) -/
theorem c_Mo_initX (l : Launch) (D : va_G) (mo : Nat) (np : Nat) (z : Int) (cI : ClassId) (sz : Nat) (h1 : np = 1024) (hz : (z < 64 ∨ 1024 < z) ∧ -2147483648 ≤ z ∧ z < 2147483648) : Met l y_Mo_init (wsB y_Mo_init b_Mo_init 3 none) ({ frames := 1, cells := 9, slots := 306937, locals := 20 }) (va_Pc [.ref mo, .int (iZ z)] (wPre D [(cI, .int)] [(mo, .inr (8, [.int (iZ 0), .int (iZ 0), .null, .null, .null, .null, .null, .null, .null, .null, .int (iZ 0), .int (iZ 0), .null, .int (iZ 0)]))] sz)) (va_QV (fun (v_9 : Option Value) (u_9 : Nat × Nat × Nat × Nat × Nat × Nat × Nat × Nat × Nat × (Nat → Int32) × (Nat → Int32) × (Nat → Int32)) => v_9 = none ∧ (MoR u_9.2.2.2.2.2.2.2.2.2.1 u_9.2.2.2.2.2.2.2.2.2.2.1 (fun _ => iZ 0) u_9.2.2.2.2.2.2.2.2.2.2.2 (fun _ => 0) (fun _ => 1) (fun _ => 0))) (fun u_9 => wPost D [(cI, .int)] [(mo, .inr (8, [.int (iZ 0), .int (iZ 0), .null, .null, .null, .null, .null, .null, .null, .null, .int (iZ 0), .int (iZ 0), .null, .int (iZ 0)]))] [(mo, .inr (8, [.int (iZ 0), .int (iZ (np : Int)), .ref u_9.1, .ref u_9.2.1, .ref u_9.2.2.1, .ref u_9.2.2.2.1, .ref u_9.2.2.2.2.1, .ref u_9.2.2.2.2.2.1, .ref u_9.2.2.2.2.2.2.1, .ref u_9.2.2.2.2.2.2.2.1, .int (iZ 0), .int (iZ (-1)), .ref u_9.2.2.2.2.2.2.2.2.1, .int (iZ 0)])), (u_9.1, .inl (cI, 108000, .inl (fun _ => iZ 0))), (u_9.2.1, .inl (cI, 9, .inl (fun _ => iZ 0))), (u_9.2.2.1, .inl (cI, 166400, .inl u_9.2.2.2.2.2.2.2.2.2.1)), (u_9.2.2.2.1, .inl (cI, 64, .inl u_9.2.2.2.2.2.2.2.2.2.2.1)), (u_9.2.2.2.2.1, .inl (cI, 32, .inl (fun _ => iZ 0))), (u_9.2.2.2.2.2.1, .inl (cI, 32, .inl u_9.2.2.2.2.2.2.2.2.2.2.2)), (u_9.2.2.2.2.2.2.1, .inl (cI, 10000, .inl (fun _ => iZ 0))), (u_9.2.2.2.2.2.2.2.1, .inl (cI, 400, .inl (fun _ => iZ 0))), (u_9.2.2.2.2.2.2.2.2.1, .inl (cI, 22000, .inl (fun _ => iZ 0)))] sz) (va_A [(mo, .inr (8, [.int (iZ 0), .int (iZ 0), .null, .null, .null, .null, .null, .null, .null, .null, .int (iZ 0), .int (iZ 0), .null, .int (iZ 0)]))] sz)) 9 306937 (va_A [(mo, .inr (8, [.int (iZ 0), .int (iZ 0), .null, .null, .null, .null, .null, .null, .null, .null, .int (iZ 0), .int (iZ 0), .null, .int (iZ 0)]))] sz) := by
  refine met_enter (by decide +kernel) (Nat.le_of_ble_eq_true rfl) ?_
  intro p e s m args below meth c ls A R Q H locs K hin hAe hA hR hQ hP hK hD hS hl
  obtain ⟨hx, hb, hml, hrt, hlk, hts, hown, hno⟩ := id K
  have hl : lv_has ls 3 [(0, .ref mo), (1, .int (iZ z))] := hl
  refine lv_aload_n hx hb d_Mo_init_0 rfl (lv_at hl 0 rfl) ?_
  refine zz_obj hx hb hown (hts _ (big_in mw_1112 rfl)) (hts _ (big_in mw_36 rfl)) (hts _ (big_in mw_37 rfl)) hml hl.1 (Nat.le_of_ble_eq_true rfl) (by rw [hR]; exact Nat.le_of_ble_eq_true rfl) (by rw [hR]; exact Nat.le_of_ble_eq_true rfl) d_Mo_init_1 ?_
  refine lv_aload_n hx hb d_Mo_init_4 rfl (lv_at hl 0 rfl) ?_
  refine lv_ldc (v := iZ (108000)) hx hb hown (hts _ (big_in mw_1113 rfl)) d_Mo_init_5 ?_
  refine zz_newI 108000 hx hb (hts _ (big_in mw_70 rfl)) hK hP hD hS hA 0 rfl (by omega) (by omega) (by rw [hR]; show _ ≤ 9; omega) (by rw [hR]; show _ ≤ 306937; omega) d_Mo_init_7 (fun ow H hP hD hS => ?_)
  have hP : va_P D cls0 [(mo, .inr (8, [.int (iZ 0), .int (iZ 0), .null, .null, .null, .null, .null, .null, .null, .null, .int (iZ 0), .int (iZ 0), .null, .int (iZ 0)])), (ow, .inl (cI, 108000, .inl (fun _ => iZ 0)))] H := hP
  have hD : va_D A [(mo, .inr (8, [.int (iZ 0), .int (iZ 0), .null, .null, .null, .null, .null, .null, .null, .null, .int (iZ 0), .int (iZ 0), .null, .int (iZ 0)])), (ow, .inl (cI, 108000, .inl (fun _ => iZ 0)))] := hD
  refine va_putF (D := D) (ci := 8) (v := .ref ow) (ty := .array .int) (C := R_Mo) (T := F_Mo) (N := 14) hx hb hts i_Mo t_Mo t_Mo_ok n_Mo hown hK hP hD hS 0 rfl rfl 2 (by decide) (hts _ (big_in mw_1117 rfl)) (fun _ h9 => h9) rfl hin rfl (by decide +kernel) rfl rfl (Nat.le_of_ble_eq_true rfl) d_Mo_init_9 (fun H locs hP hD hS => ?_)
  have hP : va_P D cls0 [(mo, .inr (8, [.int (iZ 0), .int (iZ 0), .ref ow, .null, .null, .null, .null, .null, .null, .null, .int (iZ 0), .int (iZ 0), .null, .int (iZ 0)])), (ow, .inl (cI, 108000, .inl (fun _ => iZ 0)))] H := hP
  have hD : va_D A [(mo, .inr (8, [.int (iZ 0), .int (iZ 0), .ref ow, .null, .null, .null, .null, .null, .null, .null, .int (iZ 0), .int (iZ 0), .null, .int (iZ 0)])), (ow, .inl (cI, 108000, .inl (fun _ => iZ 0)))] := hD
  refine lv_aload_n hx hb d_Mo_init_12 rfl (lv_at hl 0 rfl) ?_
  refine lv_bipush (v := iZ (9)) hx hb d_Mo_init_13 (by decide +kernel) ?_
  refine zz_newI 9 hx hb (hts _ (big_in mw_70 rfl)) hK hP hD hS hA 0 rfl (by omega) (by omega) (by rw [hR]; show _ ≤ 9; omega) (by rw [hR]; show _ ≤ 306937; omega) d_Mo_init_15 (fun om H hP hD hS => ?_)
  have hP : va_P D cls0 [(mo, .inr (8, [.int (iZ 0), .int (iZ 0), .ref ow, .null, .null, .null, .null, .null, .null, .null, .int (iZ 0), .int (iZ 0), .null, .int (iZ 0)])), (ow, .inl (cI, 108000, .inl (fun _ => iZ 0))), (om, .inl (cI, 9, .inl (fun _ => iZ 0)))] H := hP
  have hD : va_D A [(mo, .inr (8, [.int (iZ 0), .int (iZ 0), .ref ow, .null, .null, .null, .null, .null, .null, .null, .int (iZ 0), .int (iZ 0), .null, .int (iZ 0)])), (ow, .inl (cI, 108000, .inl (fun _ => iZ 0))), (om, .inl (cI, 9, .inl (fun _ => iZ 0)))] := hD
  refine va_putF (D := D) (ci := 8) (v := .ref om) (ty := .array .int) (C := R_Mo) (T := F_Mo) (N := 14) hx hb hts i_Mo t_Mo t_Mo_ok n_Mo hown hK hP hD hS 0 rfl rfl 3 (by decide) (hts _ (big_in mw_1118 rfl)) (fun _ h9 => h9) rfl hin rfl (by decide +kernel) rfl rfl (Nat.le_of_ble_eq_true rfl) d_Mo_init_17 (fun H locs hP hD hS => ?_)
  have hP : va_P D cls0 [(mo, .inr (8, [.int (iZ 0), .int (iZ 0), .ref ow, .ref om, .null, .null, .null, .null, .null, .null, .int (iZ 0), .int (iZ 0), .null, .int (iZ 0)])), (ow, .inl (cI, 108000, .inl (fun _ => iZ 0))), (om, .inl (cI, 9, .inl (fun _ => iZ 0)))] H := hP
  have hD : va_D A [(mo, .inr (8, [.int (iZ 0), .int (iZ 0), .ref ow, .ref om, .null, .null, .null, .null, .null, .null, .int (iZ 0), .int (iZ 0), .null, .int (iZ 0)])), (ow, .inl (cI, 108000, .inl (fun _ => iZ 0))), (om, .inl (cI, 9, .inl (fun _ => iZ 0)))] := hD
  refine lv_aload_n hx hb d_Mo_init_20 rfl (lv_at hl 0 rfl) ?_
  refine lv_ldc (v := iZ (166400)) hx hb hown (hts _ (big_in mw_1114 rfl)) d_Mo_init_21 ?_
  refine zz_newI 166400 hx hb (hts _ (big_in mw_70 rfl)) hK hP hD hS hA 0 rfl (by omega) (by omega) (by rw [hR]; show _ ≤ 9; omega) (by rw [hR]; show _ ≤ 306937; omega) d_Mo_init_23 (fun ok_ H hP hD hS => ?_)
  have hP : va_P D cls0 [(mo, .inr (8, [.int (iZ 0), .int (iZ 0), .ref ow, .ref om, .null, .null, .null, .null, .null, .null, .int (iZ 0), .int (iZ 0), .null, .int (iZ 0)])), (ow, .inl (cI, 108000, .inl (fun _ => iZ 0))), (om, .inl (cI, 9, .inl (fun _ => iZ 0))), (ok_, .inl (cI, 166400, .inl (fun _ => iZ 0)))] H := hP
  have hD : va_D A [(mo, .inr (8, [.int (iZ 0), .int (iZ 0), .ref ow, .ref om, .null, .null, .null, .null, .null, .null, .int (iZ 0), .int (iZ 0), .null, .int (iZ 0)])), (ow, .inl (cI, 108000, .inl (fun _ => iZ 0))), (om, .inl (cI, 9, .inl (fun _ => iZ 0))), (ok_, .inl (cI, 166400, .inl (fun _ => iZ 0)))] := hD
  refine va_putF (D := D) (ci := 8) (v := .ref ok_) (ty := .array .int) (C := R_Mo) (T := F_Mo) (N := 14) hx hb hts i_Mo t_Mo t_Mo_ok n_Mo hown hK hP hD hS 0 rfl rfl 4 (by decide) (hts _ (big_in mw_1119 rfl)) (fun _ h9 => h9) rfl hin rfl (by decide +kernel) rfl rfl (Nat.le_of_ble_eq_true rfl) d_Mo_init_25 (fun H locs hP hD hS => ?_)
  have hP : va_P D cls0 [(mo, .inr (8, [.int (iZ 0), .int (iZ 0), .ref ow, .ref om, .ref ok_, .null, .null, .null, .null, .null, .int (iZ 0), .int (iZ 0), .null, .int (iZ 0)])), (ow, .inl (cI, 108000, .inl (fun _ => iZ 0))), (om, .inl (cI, 9, .inl (fun _ => iZ 0))), (ok_, .inl (cI, 166400, .inl (fun _ => iZ 0)))] H := hP
  have hD : va_D A [(mo, .inr (8, [.int (iZ 0), .int (iZ 0), .ref ow, .ref om, .ref ok_, .null, .null, .null, .null, .null, .int (iZ 0), .int (iZ 0), .null, .int (iZ 0)])), (ow, .inl (cI, 108000, .inl (fun _ => iZ 0))), (om, .inl (cI, 9, .inl (fun _ => iZ 0))), (ok_, .inl (cI, 166400, .inl (fun _ => iZ 0)))] := hD
  refine lv_aload_n hx hb d_Mo_init_28 rfl (lv_at hl 0 rfl) ?_
  refine lv_bipush (v := iZ (64)) hx hb d_Mo_init_29 (by decide +kernel) ?_
  refine zz_newI 64 hx hb (hts _ (big_in mw_70 rfl)) hK hP hD hS hA 0 rfl (by omega) (by omega) (by rw [hR]; show _ ≤ 9; omega) (by rw [hR]; show _ ≤ 306937; omega) d_Mo_init_31 (fun oK H hP hD hS => ?_)
  have hP : va_P D cls0 [(mo, .inr (8, [.int (iZ 0), .int (iZ 0), .ref ow, .ref om, .ref ok_, .null, .null, .null, .null, .null, .int (iZ 0), .int (iZ 0), .null, .int (iZ 0)])), (ow, .inl (cI, 108000, .inl (fun _ => iZ 0))), (om, .inl (cI, 9, .inl (fun _ => iZ 0))), (ok_, .inl (cI, 166400, .inl (fun _ => iZ 0))), (oK, .inl (cI, 64, .inl (fun _ => iZ 0)))] H := hP
  have hD : va_D A [(mo, .inr (8, [.int (iZ 0), .int (iZ 0), .ref ow, .ref om, .ref ok_, .null, .null, .null, .null, .null, .int (iZ 0), .int (iZ 0), .null, .int (iZ 0)])), (ow, .inl (cI, 108000, .inl (fun _ => iZ 0))), (om, .inl (cI, 9, .inl (fun _ => iZ 0))), (ok_, .inl (cI, 166400, .inl (fun _ => iZ 0))), (oK, .inl (cI, 64, .inl (fun _ => iZ 0)))] := hD
  refine va_putF (D := D) (ci := 8) (v := .ref oK) (ty := .array .int) (C := R_Mo) (T := F_Mo) (N := 14) hx hb hts i_Mo t_Mo t_Mo_ok n_Mo hown hK hP hD hS 0 rfl rfl 5 (by decide) (hts _ (big_in mw_1120 rfl)) (fun _ h9 => h9) rfl hin rfl (by decide +kernel) rfl rfl (Nat.le_of_ble_eq_true rfl) d_Mo_init_33 (fun H locs hP hD hS => ?_)
  have hP : va_P D cls0 [(mo, .inr (8, [.int (iZ 0), .int (iZ 0), .ref ow, .ref om, .ref ok_, .ref oK, .null, .null, .null, .null, .int (iZ 0), .int (iZ 0), .null, .int (iZ 0)])), (ow, .inl (cI, 108000, .inl (fun _ => iZ 0))), (om, .inl (cI, 9, .inl (fun _ => iZ 0))), (ok_, .inl (cI, 166400, .inl (fun _ => iZ 0))), (oK, .inl (cI, 64, .inl (fun _ => iZ 0)))] H := hP
  have hD : va_D A [(mo, .inr (8, [.int (iZ 0), .int (iZ 0), .ref ow, .ref om, .ref ok_, .ref oK, .null, .null, .null, .null, .int (iZ 0), .int (iZ 0), .null, .int (iZ 0)])), (ow, .inl (cI, 108000, .inl (fun _ => iZ 0))), (om, .inl (cI, 9, .inl (fun _ => iZ 0))), (ok_, .inl (cI, 166400, .inl (fun _ => iZ 0))), (oK, .inl (cI, 64, .inl (fun _ => iZ 0)))] := hD
  refine lv_aload_n hx hb d_Mo_init_36 rfl (lv_at hl 0 rfl) ?_
  refine lv_bipush (v := iZ (32)) hx hb d_Mo_init_37 (by decide +kernel) ?_
  refine zz_newI 32 hx hb (hts _ (big_in mw_70 rfl)) hK hP hD hS hA 0 rfl (by omega) (by omega) (by rw [hR]; show _ ≤ 9; omega) (by rw [hR]; show _ ≤ 306937; omega) d_Mo_init_39 (fun og H hP hD hS => ?_)
  have hP : va_P D cls0 [(mo, .inr (8, [.int (iZ 0), .int (iZ 0), .ref ow, .ref om, .ref ok_, .ref oK, .null, .null, .null, .null, .int (iZ 0), .int (iZ 0), .null, .int (iZ 0)])), (ow, .inl (cI, 108000, .inl (fun _ => iZ 0))), (om, .inl (cI, 9, .inl (fun _ => iZ 0))), (ok_, .inl (cI, 166400, .inl (fun _ => iZ 0))), (oK, .inl (cI, 64, .inl (fun _ => iZ 0))), (og, .inl (cI, 32, .inl (fun _ => iZ 0)))] H := hP
  have hD : va_D A [(mo, .inr (8, [.int (iZ 0), .int (iZ 0), .ref ow, .ref om, .ref ok_, .ref oK, .null, .null, .null, .null, .int (iZ 0), .int (iZ 0), .null, .int (iZ 0)])), (ow, .inl (cI, 108000, .inl (fun _ => iZ 0))), (om, .inl (cI, 9, .inl (fun _ => iZ 0))), (ok_, .inl (cI, 166400, .inl (fun _ => iZ 0))), (oK, .inl (cI, 64, .inl (fun _ => iZ 0))), (og, .inl (cI, 32, .inl (fun _ => iZ 0)))] := hD
  refine va_putF (D := D) (ci := 8) (v := .ref og) (ty := .array .int) (C := R_Mo) (T := F_Mo) (N := 14) hx hb hts i_Mo t_Mo t_Mo_ok n_Mo hown hK hP hD hS 0 rfl rfl 6 (by decide) (hts _ (big_in mw_1121 rfl)) (fun _ h9 => h9) rfl hin rfl (by decide +kernel) rfl rfl (Nat.le_of_ble_eq_true rfl) d_Mo_init_41 (fun H locs hP hD hS => ?_)
  have hP : va_P D cls0 [(mo, .inr (8, [.int (iZ 0), .int (iZ 0), .ref ow, .ref om, .ref ok_, .ref oK, .ref og, .null, .null, .null, .int (iZ 0), .int (iZ 0), .null, .int (iZ 0)])), (ow, .inl (cI, 108000, .inl (fun _ => iZ 0))), (om, .inl (cI, 9, .inl (fun _ => iZ 0))), (ok_, .inl (cI, 166400, .inl (fun _ => iZ 0))), (oK, .inl (cI, 64, .inl (fun _ => iZ 0))), (og, .inl (cI, 32, .inl (fun _ => iZ 0)))] H := hP
  have hD : va_D A [(mo, .inr (8, [.int (iZ 0), .int (iZ 0), .ref ow, .ref om, .ref ok_, .ref oK, .ref og, .null, .null, .null, .int (iZ 0), .int (iZ 0), .null, .int (iZ 0)])), (ow, .inl (cI, 108000, .inl (fun _ => iZ 0))), (om, .inl (cI, 9, .inl (fun _ => iZ 0))), (ok_, .inl (cI, 166400, .inl (fun _ => iZ 0))), (oK, .inl (cI, 64, .inl (fun _ => iZ 0))), (og, .inl (cI, 32, .inl (fun _ => iZ 0)))] := hD
  refine lv_aload_n hx hb d_Mo_init_44 rfl (lv_at hl 0 rfl) ?_
  refine lv_bipush (v := iZ (32)) hx hb d_Mo_init_45 (by decide +kernel) ?_
  refine zz_newI 32 hx hb (hts _ (big_in mw_70 rfl)) hK hP hD hS hA 0 rfl (by omega) (by omega) (by rw [hR]; show _ ≤ 9; omega) (by rw [hR]; show _ ≤ 306937; omega) d_Mo_init_47 (fun on_ H hP hD hS => ?_)
  have hP : va_P D cls0 [(mo, .inr (8, [.int (iZ 0), .int (iZ 0), .ref ow, .ref om, .ref ok_, .ref oK, .ref og, .null, .null, .null, .int (iZ 0), .int (iZ 0), .null, .int (iZ 0)])), (ow, .inl (cI, 108000, .inl (fun _ => iZ 0))), (om, .inl (cI, 9, .inl (fun _ => iZ 0))), (ok_, .inl (cI, 166400, .inl (fun _ => iZ 0))), (oK, .inl (cI, 64, .inl (fun _ => iZ 0))), (og, .inl (cI, 32, .inl (fun _ => iZ 0))), (on_, .inl (cI, 32, .inl (fun _ => iZ 0)))] H := hP
  have hD : va_D A [(mo, .inr (8, [.int (iZ 0), .int (iZ 0), .ref ow, .ref om, .ref ok_, .ref oK, .ref og, .null, .null, .null, .int (iZ 0), .int (iZ 0), .null, .int (iZ 0)])), (ow, .inl (cI, 108000, .inl (fun _ => iZ 0))), (om, .inl (cI, 9, .inl (fun _ => iZ 0))), (ok_, .inl (cI, 166400, .inl (fun _ => iZ 0))), (oK, .inl (cI, 64, .inl (fun _ => iZ 0))), (og, .inl (cI, 32, .inl (fun _ => iZ 0))), (on_, .inl (cI, 32, .inl (fun _ => iZ 0)))] := hD
  refine va_putF (D := D) (ci := 8) (v := .ref on_) (ty := .array .int) (C := R_Mo) (T := F_Mo) (N := 14) hx hb hts i_Mo t_Mo t_Mo_ok n_Mo hown hK hP hD hS 0 rfl rfl 7 (by decide) (hts _ (big_in mw_1122 rfl)) (fun _ h9 => h9) rfl hin rfl (by decide +kernel) rfl rfl (Nat.le_of_ble_eq_true rfl) d_Mo_init_49 (fun H locs hP hD hS => ?_)
  have hP : va_P D cls0 [(mo, .inr (8, [.int (iZ 0), .int (iZ 0), .ref ow, .ref om, .ref ok_, .ref oK, .ref og, .ref on_, .null, .null, .int (iZ 0), .int (iZ 0), .null, .int (iZ 0)])), (ow, .inl (cI, 108000, .inl (fun _ => iZ 0))), (om, .inl (cI, 9, .inl (fun _ => iZ 0))), (ok_, .inl (cI, 166400, .inl (fun _ => iZ 0))), (oK, .inl (cI, 64, .inl (fun _ => iZ 0))), (og, .inl (cI, 32, .inl (fun _ => iZ 0))), (on_, .inl (cI, 32, .inl (fun _ => iZ 0)))] H := hP
  have hD : va_D A [(mo, .inr (8, [.int (iZ 0), .int (iZ 0), .ref ow, .ref om, .ref ok_, .ref oK, .ref og, .ref on_, .null, .null, .int (iZ 0), .int (iZ 0), .null, .int (iZ 0)])), (ow, .inl (cI, 108000, .inl (fun _ => iZ 0))), (om, .inl (cI, 9, .inl (fun _ => iZ 0))), (ok_, .inl (cI, 166400, .inl (fun _ => iZ 0))), (oK, .inl (cI, 64, .inl (fun _ => iZ 0))), (og, .inl (cI, 32, .inl (fun _ => iZ 0))), (on_, .inl (cI, 32, .inl (fun _ => iZ 0)))] := hD
  refine lv_aload_n hx hb d_Mo_init_52 rfl (lv_at hl 0 rfl) ?_
  refine lv_sipush (v := iZ (10000)) hx hb d_Mo_init_53 (by decide +kernel) ?_
  refine zz_newI 10000 hx hb (hts _ (big_in mw_70 rfl)) hK hP hD hS hA 0 rfl (by omega) (by omega) (by rw [hR]; show _ ≤ 9; omega) (by rw [hR]; show _ ≤ 306937; omega) d_Mo_init_56 (fun oh H hP hD hS => ?_)
  have hP : va_P D cls0 [(mo, .inr (8, [.int (iZ 0), .int (iZ 0), .ref ow, .ref om, .ref ok_, .ref oK, .ref og, .ref on_, .null, .null, .int (iZ 0), .int (iZ 0), .null, .int (iZ 0)])), (ow, .inl (cI, 108000, .inl (fun _ => iZ 0))), (om, .inl (cI, 9, .inl (fun _ => iZ 0))), (ok_, .inl (cI, 166400, .inl (fun _ => iZ 0))), (oK, .inl (cI, 64, .inl (fun _ => iZ 0))), (og, .inl (cI, 32, .inl (fun _ => iZ 0))), (on_, .inl (cI, 32, .inl (fun _ => iZ 0))), (oh, .inl (cI, 10000, .inl (fun _ => iZ 0)))] H := hP
  have hD : va_D A [(mo, .inr (8, [.int (iZ 0), .int (iZ 0), .ref ow, .ref om, .ref ok_, .ref oK, .ref og, .ref on_, .null, .null, .int (iZ 0), .int (iZ 0), .null, .int (iZ 0)])), (ow, .inl (cI, 108000, .inl (fun _ => iZ 0))), (om, .inl (cI, 9, .inl (fun _ => iZ 0))), (ok_, .inl (cI, 166400, .inl (fun _ => iZ 0))), (oK, .inl (cI, 64, .inl (fun _ => iZ 0))), (og, .inl (cI, 32, .inl (fun _ => iZ 0))), (on_, .inl (cI, 32, .inl (fun _ => iZ 0))), (oh, .inl (cI, 10000, .inl (fun _ => iZ 0)))] := hD
  refine va_putF (D := D) (ci := 8) (v := .ref oh) (ty := .array .int) (C := R_Mo) (T := F_Mo) (N := 14) hx hb hts i_Mo t_Mo t_Mo_ok n_Mo hown hK hP hD hS 0 rfl rfl 8 (by decide) (hts _ (big_in mw_1123 rfl)) (fun _ h9 => h9) rfl hin rfl (by decide +kernel) rfl rfl (Nat.le_of_ble_eq_true rfl) d_Mo_init_58 (fun H locs hP hD hS => ?_)
  have hP : va_P D cls0 [(mo, .inr (8, [.int (iZ 0), .int (iZ 0), .ref ow, .ref om, .ref ok_, .ref oK, .ref og, .ref on_, .ref oh, .null, .int (iZ 0), .int (iZ 0), .null, .int (iZ 0)])), (ow, .inl (cI, 108000, .inl (fun _ => iZ 0))), (om, .inl (cI, 9, .inl (fun _ => iZ 0))), (ok_, .inl (cI, 166400, .inl (fun _ => iZ 0))), (oK, .inl (cI, 64, .inl (fun _ => iZ 0))), (og, .inl (cI, 32, .inl (fun _ => iZ 0))), (on_, .inl (cI, 32, .inl (fun _ => iZ 0))), (oh, .inl (cI, 10000, .inl (fun _ => iZ 0)))] H := hP
  have hD : va_D A [(mo, .inr (8, [.int (iZ 0), .int (iZ 0), .ref ow, .ref om, .ref ok_, .ref oK, .ref og, .ref on_, .ref oh, .null, .int (iZ 0), .int (iZ 0), .null, .int (iZ 0)])), (ow, .inl (cI, 108000, .inl (fun _ => iZ 0))), (om, .inl (cI, 9, .inl (fun _ => iZ 0))), (ok_, .inl (cI, 166400, .inl (fun _ => iZ 0))), (oK, .inl (cI, 64, .inl (fun _ => iZ 0))), (og, .inl (cI, 32, .inl (fun _ => iZ 0))), (on_, .inl (cI, 32, .inl (fun _ => iZ 0))), (oh, .inl (cI, 10000, .inl (fun _ => iZ 0)))] := hD
  refine lv_aload_n hx hb d_Mo_init_61 rfl (lv_at hl 0 rfl) ?_
  refine lv_sipush (v := iZ (400)) hx hb d_Mo_init_62 (by decide +kernel) ?_
  refine zz_newI 400 hx hb (hts _ (big_in mw_70 rfl)) hK hP hD hS hA 0 rfl (by omega) (by omega) (by rw [hR]; show _ ≤ 9; omega) (by rw [hR]; show _ ≤ 306937; omega) d_Mo_init_65 (fun ox H hP hD hS => ?_)
  have hP : va_P D cls0 [(mo, .inr (8, [.int (iZ 0), .int (iZ 0), .ref ow, .ref om, .ref ok_, .ref oK, .ref og, .ref on_, .ref oh, .null, .int (iZ 0), .int (iZ 0), .null, .int (iZ 0)])), (ow, .inl (cI, 108000, .inl (fun _ => iZ 0))), (om, .inl (cI, 9, .inl (fun _ => iZ 0))), (ok_, .inl (cI, 166400, .inl (fun _ => iZ 0))), (oK, .inl (cI, 64, .inl (fun _ => iZ 0))), (og, .inl (cI, 32, .inl (fun _ => iZ 0))), (on_, .inl (cI, 32, .inl (fun _ => iZ 0))), (oh, .inl (cI, 10000, .inl (fun _ => iZ 0))), (ox, .inl (cI, 400, .inl (fun _ => iZ 0)))] H := hP
  have hD : va_D A [(mo, .inr (8, [.int (iZ 0), .int (iZ 0), .ref ow, .ref om, .ref ok_, .ref oK, .ref og, .ref on_, .ref oh, .null, .int (iZ 0), .int (iZ 0), .null, .int (iZ 0)])), (ow, .inl (cI, 108000, .inl (fun _ => iZ 0))), (om, .inl (cI, 9, .inl (fun _ => iZ 0))), (ok_, .inl (cI, 166400, .inl (fun _ => iZ 0))), (oK, .inl (cI, 64, .inl (fun _ => iZ 0))), (og, .inl (cI, 32, .inl (fun _ => iZ 0))), (on_, .inl (cI, 32, .inl (fun _ => iZ 0))), (oh, .inl (cI, 10000, .inl (fun _ => iZ 0))), (ox, .inl (cI, 400, .inl (fun _ => iZ 0)))] := hD
  refine va_putF (D := D) (ci := 8) (v := .ref ox) (ty := .array .int) (C := R_Mo) (T := F_Mo) (N := 14) hx hb hts i_Mo t_Mo t_Mo_ok n_Mo hown hK hP hD hS 0 rfl rfl 9 (by decide) (hts _ (big_in mw_1124 rfl)) (fun _ h9 => h9) rfl hin rfl (by decide +kernel) rfl rfl (Nat.le_of_ble_eq_true rfl) d_Mo_init_67 (fun H locs hP hD hS => ?_)
  have hP : va_P D cls0 [(mo, .inr (8, [.int (iZ 0), .int (iZ 0), .ref ow, .ref om, .ref ok_, .ref oK, .ref og, .ref on_, .ref oh, .ref ox, .int (iZ 0), .int (iZ 0), .null, .int (iZ 0)])), (ow, .inl (cI, 108000, .inl (fun _ => iZ 0))), (om, .inl (cI, 9, .inl (fun _ => iZ 0))), (ok_, .inl (cI, 166400, .inl (fun _ => iZ 0))), (oK, .inl (cI, 64, .inl (fun _ => iZ 0))), (og, .inl (cI, 32, .inl (fun _ => iZ 0))), (on_, .inl (cI, 32, .inl (fun _ => iZ 0))), (oh, .inl (cI, 10000, .inl (fun _ => iZ 0))), (ox, .inl (cI, 400, .inl (fun _ => iZ 0)))] H := hP
  have hD : va_D A [(mo, .inr (8, [.int (iZ 0), .int (iZ 0), .ref ow, .ref om, .ref ok_, .ref oK, .ref og, .ref on_, .ref oh, .ref ox, .int (iZ 0), .int (iZ 0), .null, .int (iZ 0)])), (ow, .inl (cI, 108000, .inl (fun _ => iZ 0))), (om, .inl (cI, 9, .inl (fun _ => iZ 0))), (ok_, .inl (cI, 166400, .inl (fun _ => iZ 0))), (oK, .inl (cI, 64, .inl (fun _ => iZ 0))), (og, .inl (cI, 32, .inl (fun _ => iZ 0))), (on_, .inl (cI, 32, .inl (fun _ => iZ 0))), (oh, .inl (cI, 10000, .inl (fun _ => iZ 0))), (ox, .inl (cI, 400, .inl (fun _ => iZ 0)))] := hD
  refine lv_aload_n hx hb d_Mo_init_70 rfl (lv_at hl 0 rfl) ?_
  refine lv_iconst (v := iZ (-1)) hx hb d_Mo_init_71 (by decide +kernel) ?_
  refine va_put (D := D) (ci := 8) (v := .int (iZ (-1))) (ty := .int) (C := R_Mo) (T := F_Mo) (N := 14) hx hb hts i_Mo t_Mo t_Mo_ok n_Mo hown hK hP hD hS 0 rfl rfl 11 (by decide) (hts _ (big_in mw_1126 rfl)) (fun _ h9 => h9) rfl (by decide +kernel) rfl rfl (Nat.le_of_ble_eq_true rfl) d_Mo_init_72 (fun H locs hP hD hS => ?_)
  have hP : va_P D cls0 [(mo, .inr (8, [.int (iZ 0), .int (iZ 0), .ref ow, .ref om, .ref ok_, .ref oK, .ref og, .ref on_, .ref oh, .ref ox, .int (iZ 0), .int (iZ (-1)), .null, .int (iZ 0)])), (ow, .inl (cI, 108000, .inl (fun _ => iZ 0))), (om, .inl (cI, 9, .inl (fun _ => iZ 0))), (ok_, .inl (cI, 166400, .inl (fun _ => iZ 0))), (oK, .inl (cI, 64, .inl (fun _ => iZ 0))), (og, .inl (cI, 32, .inl (fun _ => iZ 0))), (on_, .inl (cI, 32, .inl (fun _ => iZ 0))), (oh, .inl (cI, 10000, .inl (fun _ => iZ 0))), (ox, .inl (cI, 400, .inl (fun _ => iZ 0)))] H := hP
  have hD : va_D A [(mo, .inr (8, [.int (iZ 0), .int (iZ 0), .ref ow, .ref om, .ref ok_, .ref oK, .ref og, .ref on_, .ref oh, .ref ox, .int (iZ 0), .int (iZ (-1)), .null, .int (iZ 0)])), (ow, .inl (cI, 108000, .inl (fun _ => iZ 0))), (om, .inl (cI, 9, .inl (fun _ => iZ 0))), (ok_, .inl (cI, 166400, .inl (fun _ => iZ 0))), (oK, .inl (cI, 64, .inl (fun _ => iZ 0))), (og, .inl (cI, 32, .inl (fun _ => iZ 0))), (on_, .inl (cI, 32, .inl (fun _ => iZ 0))), (oh, .inl (cI, 10000, .inl (fun _ => iZ 0))), (ox, .inl (cI, 400, .inl (fun _ => iZ 0)))] := hD
  refine lv_aload_n hx hb d_Mo_init_75 rfl (lv_at hl 0 rfl) ?_
  refine lv_sipush (v := iZ (22000)) hx hb d_Mo_init_76 (by decide +kernel) ?_
  refine zz_newI 22000 hx hb (hts _ (big_in mw_70 rfl)) hK hP hD hS hA 0 rfl (by omega) (by omega) (by rw [hR]; show _ ≤ 9; omega) (by rw [hR]; show _ ≤ 306937; omega) d_Mo_init_79 (fun op_ H hP hD hS => ?_)
  have hP : va_P D cls0 [(mo, .inr (8, [.int (iZ 0), .int (iZ 0), .ref ow, .ref om, .ref ok_, .ref oK, .ref og, .ref on_, .ref oh, .ref ox, .int (iZ 0), .int (iZ (-1)), .null, .int (iZ 0)])), (ow, .inl (cI, 108000, .inl (fun _ => iZ 0))), (om, .inl (cI, 9, .inl (fun _ => iZ 0))), (ok_, .inl (cI, 166400, .inl (fun _ => iZ 0))), (oK, .inl (cI, 64, .inl (fun _ => iZ 0))), (og, .inl (cI, 32, .inl (fun _ => iZ 0))), (on_, .inl (cI, 32, .inl (fun _ => iZ 0))), (oh, .inl (cI, 10000, .inl (fun _ => iZ 0))), (ox, .inl (cI, 400, .inl (fun _ => iZ 0))), (op_, .inl (cI, 22000, .inl (fun _ => iZ 0)))] H := hP
  have hD : va_D A [(mo, .inr (8, [.int (iZ 0), .int (iZ 0), .ref ow, .ref om, .ref ok_, .ref oK, .ref og, .ref on_, .ref oh, .ref ox, .int (iZ 0), .int (iZ (-1)), .null, .int (iZ 0)])), (ow, .inl (cI, 108000, .inl (fun _ => iZ 0))), (om, .inl (cI, 9, .inl (fun _ => iZ 0))), (ok_, .inl (cI, 166400, .inl (fun _ => iZ 0))), (oK, .inl (cI, 64, .inl (fun _ => iZ 0))), (og, .inl (cI, 32, .inl (fun _ => iZ 0))), (on_, .inl (cI, 32, .inl (fun _ => iZ 0))), (oh, .inl (cI, 10000, .inl (fun _ => iZ 0))), (ox, .inl (cI, 400, .inl (fun _ => iZ 0))), (op_, .inl (cI, 22000, .inl (fun _ => iZ 0)))] := hD
  refine va_putF (D := D) (ci := 8) (v := .ref op_) (ty := .array .int) (C := R_Mo) (T := F_Mo) (N := 14) hx hb hts i_Mo t_Mo t_Mo_ok n_Mo hown hK hP hD hS 0 rfl rfl 12 (by decide) (hts _ (big_in mw_1127 rfl)) (fun _ h9 => h9) rfl hin rfl (by decide +kernel) rfl rfl (Nat.le_of_ble_eq_true rfl) d_Mo_init_81 (fun H locs hP hD hS => ?_)
  have hP : va_P D cls0 [(mo, .inr (8, [.int (iZ 0), .int (iZ 0), .ref ow, .ref om, .ref ok_, .ref oK, .ref og, .ref on_, .ref oh, .ref ox, .int (iZ 0), .int (iZ (-1)), .ref op_, .int (iZ 0)])), (ow, .inl (cI, 108000, .inl (fun _ => iZ 0))), (om, .inl (cI, 9, .inl (fun _ => iZ 0))), (ok_, .inl (cI, 166400, .inl (fun _ => iZ 0))), (oK, .inl (cI, 64, .inl (fun _ => iZ 0))), (og, .inl (cI, 32, .inl (fun _ => iZ 0))), (on_, .inl (cI, 32, .inl (fun _ => iZ 0))), (oh, .inl (cI, 10000, .inl (fun _ => iZ 0))), (ox, .inl (cI, 400, .inl (fun _ => iZ 0))), (op_, .inl (cI, 22000, .inl (fun _ => iZ 0)))] H := hP
  have hD : va_D A [(mo, .inr (8, [.int (iZ 0), .int (iZ 0), .ref ow, .ref om, .ref ok_, .ref oK, .ref og, .ref on_, .ref oh, .ref ox, .int (iZ 0), .int (iZ (-1)), .ref op_, .int (iZ 0)])), (ow, .inl (cI, 108000, .inl (fun _ => iZ 0))), (om, .inl (cI, 9, .inl (fun _ => iZ 0))), (ok_, .inl (cI, 166400, .inl (fun _ => iZ 0))), (oK, .inl (cI, 64, .inl (fun _ => iZ 0))), (og, .inl (cI, 32, .inl (fun _ => iZ 0))), (on_, .inl (cI, 32, .inl (fun _ => iZ 0))), (oh, .inl (cI, 10000, .inl (fun _ => iZ 0))), (ox, .inl (cI, 400, .inl (fun _ => iZ 0))), (op_, .inl (cI, 22000, .inl (fun _ => iZ 0)))] := hD
  have L110 : ∀ (N : Nat) (i : Nat) (fk : Nat → Int32) (fK : Nat → Int32) (fn : Nat → Int32) (H : Heap) (locs : List Loc) (ls : Array Slot), 32 - i < N → (i ≤ 32) → (∀ r, r < i → fk (2600 * (2 * r + 1)) = iZ 1) → (∀ r, r < i → fK (2 * r + 1) = iZ 1) → (∀ r, r < 32 → fK (2 * r) = iZ 0) → (∀ r, r < i → fn r = iZ 1) → va_P D cls0 [(mo, .inr (8, [.int (iZ 0), .int (iZ (np : Int)), .ref ow, .ref om, .ref ok_, .ref oK, .ref og, .ref on_, .ref oh, .ref ox, .int (iZ 0), .int (iZ (-1)), .ref op_, .int (iZ 0)])), (ow, .inl (cI, 108000, .inl (fun _ => iZ 0))), (om, .inl (cI, 9, .inl (fun _ => iZ 0))), (ok_, .inl (cI, 166400, .inl fk)), (oK, .inl (cI, 64, .inl fK)), (og, .inl (cI, 32, .inl (fun _ => iZ 0))), (on_, .inl (cI, 32, .inl fn)), (oh, .inl (cI, 10000, .inl (fun _ => iZ 0))), (ox, .inl (cI, 400, .inl (fun _ => iZ 0))), (op_, .inl (cI, 22000, .inl (fun _ => iZ 0)))] H → va_D A [(mo, .inr (8, [.int (iZ 0), .int (iZ (np : Int)), .ref ow, .ref om, .ref ok_, .ref oK, .ref og, .ref on_, .ref oh, .ref ox, .int (iZ 0), .int (iZ (-1)), .ref op_, .int (iZ 0)])), (ow, .inl (cI, 108000, .inl (fun _ => iZ 0))), (om, .inl (cI, 9, .inl (fun _ => iZ 0))), (ok_, .inl (cI, 166400, .inl fk)), (oK, .inl (cI, 64, .inl fK)), (og, .inl (cI, 32, .inl (fun _ => iZ 0))), (on_, .inl (cI, 32, .inl fn)), (oh, .inl (cI, 10000, .inl (fun _ => iZ 0))), (ox, .inl (cI, 400, .inl (fun _ => iZ 0))), (op_, .inl (cI, 22000, .inl (fun _ => iZ 0)))] → va_S A s.heap H locs → lv_has ls 3 [(0, .ref mo), (1, .int (iZ z)), (2, .int (iZ (i : Int)))] → W p l e R s m args below meth c H locs (0 + 1 + 1 + 1 + 1 + 1 + 1 + 1 + 1 + 1) (0 + 108000 + 9 + 166400 + 64 + 32 + 32 + 10000 + 400 + 22000) Q (F0 m 110 ls []) := by
    intro N
    induction N with
    | zero => intro i fk fK fn H locs ls hN; exact absurd hN (Nat.not_lt_zero _)
    | succ N ih =>
      intro i fk fK fn H locs ls hN ii i1 i2 i3 i4 hP hD hS hl
      refine lv_iload_n hx hb d_Mo_init_110 rfl (lv_at hl 2 rfl) ?_
      refine lv_bipush (v := iZ (32)) hx hb d_Mo_init_111 (by decide +kernel) ?_
      refine zz_icmp_ge (tgt := 155) hx hb d_Mo_init_113 (by decide) (by omega) (by omega) (fun c113 => ?_) (fun c113 => ?_)
      · have hP9 : va_P D cls0 [(mo, .inr (8, [.int (iZ 0), .int (iZ (np : Int)), .ref ow, .ref om, .ref ok_, .ref oK, .ref og, .ref on_, .ref oh, .ref ox, .int (iZ 0), .int (iZ (-1)), .ref op_, .int (iZ 0)])), (ow, .inl (cI, 108000, .inl (fun _ => iZ 0))), (om, .inl (cI, 9, .inl (fun _ => iZ 0))), (ok_, .inl (cI, 166400, .inl fk)), (oK, .inl (cI, 64, .inl fK)), (og, .inl (cI, 32, .inl (fun _ => iZ 0))), (on_, .inl (cI, 32, .inl fn)), (oh, .inl (cI, 10000, .inl (fun _ => iZ 0))), (ox, .inl (cI, 400, .inl (fun _ => iZ 0))), (op_, .inl (cI, 22000, .inl (fun _ => iZ 0)))] H := hP.sub [0, 1, 2, 3, 4, 5, 6, 7, 8, 9] rfl
        have hD9 : va_D A [(mo, .inr (8, [.int (iZ 0), .int (iZ (np : Int)), .ref ow, .ref om, .ref ok_, .ref oK, .ref og, .ref on_, .ref oh, .ref ox, .int (iZ 0), .int (iZ (-1)), .ref op_, .int (iZ 0)])), (ow, .inl (cI, 108000, .inl (fun _ => iZ 0))), (om, .inl (cI, 9, .inl (fun _ => iZ 0))), (ok_, .inl (cI, 166400, .inl fk)), (oK, .inl (cI, 64, .inl fK)), (og, .inl (cI, 32, .inl (fun _ => iZ 0))), (on_, .inl (cI, 32, .inl fn)), (oh, .inl (cI, 10000, .inl (fun _ => iZ 0))), (ox, .inl (cI, 400, .inl (fun _ => iZ 0))), (op_, .inl (cI, 22000, .inl (fun _ => iZ 0)))] := hD.sub [0, 1, 2, 3, 4, 5, 6, 7, 8, 9] (by decide) rfl
        refine W.widen (k := 9) (n := 306937) (by omega) (by omega) ?_
        rw [hQ, ← hAe]
        refine r_v K (ow, om, ok_, oK, og, on_, oh, ox, op_, fk, fK, fn) hS d_Mo_init_155 ?_ (fun t ht hv => ?_)
        · try dsimp only
          have ei : i = 32 := by omega
          subst ei
          exact ⟨rfl, MoR_start i1 (fun r hr => ⟨i2 r hr, i3 r hr⟩) i4⟩
        · exact ⟨by rw [ht]; exact hP9, va_K.moved hv hK, by rw [← hAe]; exact hD9⟩
      · refine lv_aload_n hx hb d_Mo_init_116 rfl (lv_at hl 0 rfl) ?_
        refine va_get (D := D) (ci := 8) (v := .ref ok_) (C := R_Mo) (T := F_Mo) (N := 14) hx hb hts i_Mo hown hK hP 0 rfl rfl 4 (by decide) (hts _ (big_in mw_1119 rfl)) (fun _ h9 => h9) rfl d_Mo_init_117 ?_
        refine lv_sipush (v := iZ (2600)) hx hb d_Mo_init_120 (by decide +kernel) ?_
        refine lv_iconst (v := iZ (2)) hx hb d_Mo_init_123 (by decide +kernel) ?_
        refine lv_iload_n hx hb d_Mo_init_124 rfl (lv_at hl 2 rfl) ?_
        refine zz_imul hx hb d_Mo_init_125 ?_
        refine lv_iconst (v := iZ (1)) hx hb d_Mo_init_126 (by decide +kernel) ?_
        refine zz_iadd hx hb d_Mo_init_127 ?_
        refine zz_imul hx hb d_Mo_init_128 ?_
        refine lv_iconst (v := iZ (1)) hx hb d_Mo_init_129 (by decide +kernel) ?_
        refine zz_iast hx hb hK hP hD hS 3 0 rfl rfl (2600 * (2 * i + 1)) (by omega) (by omega) (by omega) d_Mo_init_130 (fun H locs hP hD hS => ?_)
        have hP : va_P D cls0 [(mo, .inr (8, [.int (iZ 0), .int (iZ (np : Int)), .ref ow, .ref om, .ref ok_, .ref oK, .ref og, .ref on_, .ref oh, .ref ox, .int (iZ 0), .int (iZ (-1)), .ref op_, .int (iZ 0)])), (ow, .inl (cI, 108000, .inl (fun _ => iZ 0))), (om, .inl (cI, 9, .inl (fun _ => iZ 0))), (ok_, .inl (cI, 166400, .inl (upd fk (2600 * (2 * i + 1)) (iZ 1)))), (oK, .inl (cI, 64, .inl fK)), (og, .inl (cI, 32, .inl (fun _ => iZ 0))), (on_, .inl (cI, 32, .inl fn)), (oh, .inl (cI, 10000, .inl (fun _ => iZ 0))), (ox, .inl (cI, 400, .inl (fun _ => iZ 0))), (op_, .inl (cI, 22000, .inl (fun _ => iZ 0)))] H := hP
        have hD : va_D A [(mo, .inr (8, [.int (iZ 0), .int (iZ (np : Int)), .ref ow, .ref om, .ref ok_, .ref oK, .ref og, .ref on_, .ref oh, .ref ox, .int (iZ 0), .int (iZ (-1)), .ref op_, .int (iZ 0)])), (ow, .inl (cI, 108000, .inl (fun _ => iZ 0))), (om, .inl (cI, 9, .inl (fun _ => iZ 0))), (ok_, .inl (cI, 166400, .inl (upd fk (2600 * (2 * i + 1)) (iZ 1)))), (oK, .inl (cI, 64, .inl fK)), (og, .inl (cI, 32, .inl (fun _ => iZ 0))), (on_, .inl (cI, 32, .inl fn)), (oh, .inl (cI, 10000, .inl (fun _ => iZ 0))), (ox, .inl (cI, 400, .inl (fun _ => iZ 0))), (op_, .inl (cI, 22000, .inl (fun _ => iZ 0)))] := hD
        refine lv_aload_n hx hb d_Mo_init_131 rfl (lv_at hl 0 rfl) ?_
        refine va_get (D := D) (ci := 8) (v := .ref oK) (C := R_Mo) (T := F_Mo) (N := 14) hx hb hts i_Mo hown hK hP 0 rfl rfl 5 (by decide) (hts _ (big_in mw_1120 rfl)) (fun _ h9 => h9) rfl d_Mo_init_132 ?_
        refine lv_iconst (v := iZ (2)) hx hb d_Mo_init_135 (by decide +kernel) ?_
        refine lv_iload_n hx hb d_Mo_init_136 rfl (lv_at hl 2 rfl) ?_
        refine zz_imul hx hb d_Mo_init_137 ?_
        refine lv_iconst (v := iZ (1)) hx hb d_Mo_init_138 (by decide +kernel) ?_
        refine zz_iadd hx hb d_Mo_init_139 ?_
        refine lv_iconst (v := iZ (1)) hx hb d_Mo_init_140 (by decide +kernel) ?_
        refine zz_iast hx hb hK hP hD hS 4 0 rfl rfl (2 * i + 1) (by omega) (by omega) (by omega) d_Mo_init_141 (fun H locs hP hD hS => ?_)
        have hP : va_P D cls0 [(mo, .inr (8, [.int (iZ 0), .int (iZ (np : Int)), .ref ow, .ref om, .ref ok_, .ref oK, .ref og, .ref on_, .ref oh, .ref ox, .int (iZ 0), .int (iZ (-1)), .ref op_, .int (iZ 0)])), (ow, .inl (cI, 108000, .inl (fun _ => iZ 0))), (om, .inl (cI, 9, .inl (fun _ => iZ 0))), (ok_, .inl (cI, 166400, .inl (upd fk (2600 * (2 * i + 1)) (iZ 1)))), (oK, .inl (cI, 64, .inl (upd fK (2 * i + 1) (iZ 1)))), (og, .inl (cI, 32, .inl (fun _ => iZ 0))), (on_, .inl (cI, 32, .inl fn)), (oh, .inl (cI, 10000, .inl (fun _ => iZ 0))), (ox, .inl (cI, 400, .inl (fun _ => iZ 0))), (op_, .inl (cI, 22000, .inl (fun _ => iZ 0)))] H := hP
        have hD : va_D A [(mo, .inr (8, [.int (iZ 0), .int (iZ (np : Int)), .ref ow, .ref om, .ref ok_, .ref oK, .ref og, .ref on_, .ref oh, .ref ox, .int (iZ 0), .int (iZ (-1)), .ref op_, .int (iZ 0)])), (ow, .inl (cI, 108000, .inl (fun _ => iZ 0))), (om, .inl (cI, 9, .inl (fun _ => iZ 0))), (ok_, .inl (cI, 166400, .inl (upd fk (2600 * (2 * i + 1)) (iZ 1)))), (oK, .inl (cI, 64, .inl (upd fK (2 * i + 1) (iZ 1)))), (og, .inl (cI, 32, .inl (fun _ => iZ 0))), (on_, .inl (cI, 32, .inl fn)), (oh, .inl (cI, 10000, .inl (fun _ => iZ 0))), (ox, .inl (cI, 400, .inl (fun _ => iZ 0))), (op_, .inl (cI, 22000, .inl (fun _ => iZ 0)))] := hD
        refine lv_aload_n hx hb d_Mo_init_142 rfl (lv_at hl 0 rfl) ?_
        refine va_get (D := D) (ci := 8) (v := .ref on_) (C := R_Mo) (T := F_Mo) (N := 14) hx hb hts i_Mo hown hK hP 0 rfl rfl 7 (by decide) (hts _ (big_in mw_1122 rfl)) (fun _ h9 => h9) rfl d_Mo_init_143 ?_
        refine lv_iload_n hx hb d_Mo_init_146 rfl (lv_at hl 2 rfl) ?_
        refine lv_iconst (v := iZ (1)) hx hb d_Mo_init_147 (by decide +kernel) ?_
        refine zz_iast hx hb hK hP hD hS 6 0 rfl rfl (i) (by omega) (by omega) (by omega) d_Mo_init_148 (fun H locs hP hD hS => ?_)
        have hP : va_P D cls0 [(mo, .inr (8, [.int (iZ 0), .int (iZ (np : Int)), .ref ow, .ref om, .ref ok_, .ref oK, .ref og, .ref on_, .ref oh, .ref ox, .int (iZ 0), .int (iZ (-1)), .ref op_, .int (iZ 0)])), (ow, .inl (cI, 108000, .inl (fun _ => iZ 0))), (om, .inl (cI, 9, .inl (fun _ => iZ 0))), (ok_, .inl (cI, 166400, .inl (upd fk (2600 * (2 * i + 1)) (iZ 1)))), (oK, .inl (cI, 64, .inl (upd fK (2 * i + 1) (iZ 1)))), (og, .inl (cI, 32, .inl (fun _ => iZ 0))), (on_, .inl (cI, 32, .inl (upd fn i (iZ 1)))), (oh, .inl (cI, 10000, .inl (fun _ => iZ 0))), (ox, .inl (cI, 400, .inl (fun _ => iZ 0))), (op_, .inl (cI, 22000, .inl (fun _ => iZ 0)))] H := hP
        have hD : va_D A [(mo, .inr (8, [.int (iZ 0), .int (iZ (np : Int)), .ref ow, .ref om, .ref ok_, .ref oK, .ref og, .ref on_, .ref oh, .ref ox, .int (iZ 0), .int (iZ (-1)), .ref op_, .int (iZ 0)])), (ow, .inl (cI, 108000, .inl (fun _ => iZ 0))), (om, .inl (cI, 9, .inl (fun _ => iZ 0))), (ok_, .inl (cI, 166400, .inl (upd fk (2600 * (2 * i + 1)) (iZ 1)))), (oK, .inl (cI, 64, .inl (upd fK (2 * i + 1) (iZ 1)))), (og, .inl (cI, 32, .inl (fun _ => iZ 0))), (on_, .inl (cI, 32, .inl (upd fn i (iZ 1)))), (oh, .inl (cI, 10000, .inl (fun _ => iZ 0))), (ox, .inl (cI, 400, .inl (fun _ => iZ 0))), (op_, .inl (cI, 22000, .inl (fun _ => iZ 0)))] := hD
        refine lv_iinc (v := iZ ((i : Int) + 1)) (lv' := [(2, .int (iZ ((i : Int) + 1))), (0, .ref mo), (1, .int (iZ z))]) hx hb d_Mo_init_149 hl (k := 2) rfl (iZ_add _ _) (by decide) rfl (fun ls hl => ?_)
        refine lv_goto (tgt := 110) hx hb d_Mo_init_152 (by decide) ?_
        rw [show ((i : Int) + 1 : Int) = ((i + 1 : Nat) : Int) by omega] at hl
        exact ih (i + 1) (upd fk (2600 * (2 * i + 1)) (iZ 1)) (upd fK (2 * i + 1) (iZ 1)) (upd fn i (iZ 1)) _ _ _ (by omega) (by omega) (fun r hr => by by_cases e : r = i; (rw [e, pk_us]); (rw [pk_un (by omega)]; exact i1 r (by omega))) (fun r hr => by by_cases e : r = i; (rw [e, pk_us]); (rw [pk_un (by omega)]; exact i2 r (by omega))) (fun r hr => by rw [pk_un (by omega)]; exact i3 r hr) (fun r hr => by by_cases e : r = i; (rw [e, pk_us]); (rw [pk_un e]; exact i4 r (by omega))) (hP.sub (ws' := [(mo, .inr (8, [.int (iZ 0), .int (iZ (np : Int)), .ref ow, .ref om, .ref ok_, .ref oK, .ref og, .ref on_, .ref oh, .ref ox, .int (iZ 0), .int (iZ (-1)), .ref op_, .int (iZ 0)])), (ow, .inl (cI, 108000, .inl (fun _ => iZ 0))), (om, .inl (cI, 9, .inl (fun _ => iZ 0))), (ok_, .inl (cI, 166400, .inl (upd fk (2600 * (2 * i + 1)) (iZ 1)))), (oK, .inl (cI, 64, .inl (upd fK (2 * i + 1) (iZ 1)))), (og, .inl (cI, 32, .inl (fun _ => iZ 0))), (on_, .inl (cI, 32, .inl (upd fn i (iZ 1)))), (oh, .inl (cI, 10000, .inl (fun _ => iZ 0))), (ox, .inl (cI, 400, .inl (fun _ => iZ 0))), (op_, .inl (cI, 22000, .inl (fun _ => iZ 0)))]) [0, 1, 2, 3, 4, 5, 6, 7, 8, 9] rfl) (hD.sub (ws' := [(mo, .inr (8, [.int (iZ 0), .int (iZ (np : Int)), .ref ow, .ref om, .ref ok_, .ref oK, .ref og, .ref on_, .ref oh, .ref ox, .int (iZ 0), .int (iZ (-1)), .ref op_, .int (iZ 0)])), (ow, .inl (cI, 108000, .inl (fun _ => iZ 0))), (om, .inl (cI, 9, .inl (fun _ => iZ 0))), (ok_, .inl (cI, 166400, .inl (upd fk (2600 * (2 * i + 1)) (iZ 1)))), (oK, .inl (cI, 64, .inl (upd fK (2 * i + 1) (iZ 1)))), (og, .inl (cI, 32, .inl (fun _ => iZ 0))), (on_, .inl (cI, 32, .inl (upd fn i (iZ 1)))), (oh, .inl (cI, 10000, .inl (fun _ => iZ 0))), (ox, .inl (cI, 400, .inl (fun _ => iZ 0))), (op_, .inl (cI, 22000, .inl (fun _ => iZ 0)))]) [0, 1, 2, 3, 4, 5, 6, 7, 8, 9] (by decide) rfl) hS (lv_sub hl [1, 2, 0] rfl)
  refine lv_aload_n hx hb d_Mo_init_84 rfl (lv_at hl 0 rfl) ?_
  refine lv_iload_n hx hb d_Mo_init_85 rfl (lv_at hl 1 rfl) ?_
  refine lv_bipush (v := iZ (64)) hx hb d_Mo_init_86 (by decide +kernel) ?_
  refine zz_icmp_lt (tgt := 102) hx hb d_Mo_init_88 (by decide) (by omega) (by omega) (fun c88 => ?_) (fun c88 => ?_)
  · refine lv_sipush (v := iZ (1024)) hx hb d_Mo_init_102 (by decide +kernel) ?_
    rw [show (1024 : Int) = (np : Int) by omega]
    refine va_putF (D := D) (ci := 8) (v := .int (iZ (np : Int))) (ty := .int) (C := R_Mo) (T := F_Mo) (N := 14) hx hb hts i_Mo t_Mo t_Mo_ok n_Mo hown hK hP hD hS 0 rfl rfl 1 (by decide) (hts _ (big_in mw_1116 rfl)) (fun _ h9 => h9) rfl hin rfl (by decide +kernel) rfl rfl (Nat.le_of_ble_eq_true rfl) d_Mo_init_105 (fun H locs hP hD hS => ?_)
    have hP : va_P D cls0 [(mo, .inr (8, [.int (iZ 0), .int (iZ (np : Int)), .ref ow, .ref om, .ref ok_, .ref oK, .ref og, .ref on_, .ref oh, .ref ox, .int (iZ 0), .int (iZ (-1)), .ref op_, .int (iZ 0)])), (ow, .inl (cI, 108000, .inl (fun _ => iZ 0))), (om, .inl (cI, 9, .inl (fun _ => iZ 0))), (ok_, .inl (cI, 166400, .inl (fun _ => iZ 0))), (oK, .inl (cI, 64, .inl (fun _ => iZ 0))), (og, .inl (cI, 32, .inl (fun _ => iZ 0))), (on_, .inl (cI, 32, .inl (fun _ => iZ 0))), (oh, .inl (cI, 10000, .inl (fun _ => iZ 0))), (ox, .inl (cI, 400, .inl (fun _ => iZ 0))), (op_, .inl (cI, 22000, .inl (fun _ => iZ 0)))] H := hP
    have hD : va_D A [(mo, .inr (8, [.int (iZ 0), .int (iZ (np : Int)), .ref ow, .ref om, .ref ok_, .ref oK, .ref og, .ref on_, .ref oh, .ref ox, .int (iZ 0), .int (iZ (-1)), .ref op_, .int (iZ 0)])), (ow, .inl (cI, 108000, .inl (fun _ => iZ 0))), (om, .inl (cI, 9, .inl (fun _ => iZ 0))), (ok_, .inl (cI, 166400, .inl (fun _ => iZ 0))), (oK, .inl (cI, 64, .inl (fun _ => iZ 0))), (og, .inl (cI, 32, .inl (fun _ => iZ 0))), (on_, .inl (cI, 32, .inl (fun _ => iZ 0))), (oh, .inl (cI, 10000, .inl (fun _ => iZ 0))), (ox, .inl (cI, 400, .inl (fun _ => iZ 0))), (op_, .inl (cI, 22000, .inl (fun _ => iZ 0)))] := hD
    refine lv_iconst (v := iZ (0)) hx hb d_Mo_init_108 (by decide +kernel) ?_
    refine lv_istore_n (lv' := [(2, .int (iZ 0)), (0, .ref mo), (1, .int (iZ z))]) hx hb d_Mo_init_109 rfl hl (by decide) rfl (fun ls hl => ?_)
    exact L110 _ 0 (fun _ => iZ 0) (fun _ => iZ 0) (fun _ => iZ 0) _ _ _ (Nat.lt_succ_self _) (by omega) (fun r hr => absurd hr (Nat.not_lt_zero _)) (fun r hr => absurd hr (Nat.not_lt_zero _)) (fun r hr => rfl) (fun r hr => absurd hr (Nat.not_lt_zero _)) (hP.sub (ws' := [(mo, .inr (8, [.int (iZ 0), .int (iZ (np : Int)), .ref ow, .ref om, .ref ok_, .ref oK, .ref og, .ref on_, .ref oh, .ref ox, .int (iZ 0), .int (iZ (-1)), .ref op_, .int (iZ 0)])), (ow, .inl (cI, 108000, .inl (fun _ => iZ 0))), (om, .inl (cI, 9, .inl (fun _ => iZ 0))), (ok_, .inl (cI, 166400, .inl (fun _ => iZ 0))), (oK, .inl (cI, 64, .inl (fun _ => iZ 0))), (og, .inl (cI, 32, .inl (fun _ => iZ 0))), (on_, .inl (cI, 32, .inl (fun _ => iZ 0))), (oh, .inl (cI, 10000, .inl (fun _ => iZ 0))), (ox, .inl (cI, 400, .inl (fun _ => iZ 0))), (op_, .inl (cI, 22000, .inl (fun _ => iZ 0)))]) [0, 1, 2, 3, 4, 5, 6, 7, 8, 9] rfl) (hD.sub (ws' := [(mo, .inr (8, [.int (iZ 0), .int (iZ (np : Int)), .ref ow, .ref om, .ref ok_, .ref oK, .ref og, .ref on_, .ref oh, .ref ox, .int (iZ 0), .int (iZ (-1)), .ref op_, .int (iZ 0)])), (ow, .inl (cI, 108000, .inl (fun _ => iZ 0))), (om, .inl (cI, 9, .inl (fun _ => iZ 0))), (ok_, .inl (cI, 166400, .inl (fun _ => iZ 0))), (oK, .inl (cI, 64, .inl (fun _ => iZ 0))), (og, .inl (cI, 32, .inl (fun _ => iZ 0))), (on_, .inl (cI, 32, .inl (fun _ => iZ 0))), (oh, .inl (cI, 10000, .inl (fun _ => iZ 0))), (ox, .inl (cI, 400, .inl (fun _ => iZ 0))), (op_, .inl (cI, 22000, .inl (fun _ => iZ 0)))]) [0, 1, 2, 3, 4, 5, 6, 7, 8, 9] (by decide) rfl) hS (lv_sub hl [1, 2, 0] rfl)
  · refine lv_iload_n hx hb d_Mo_init_91 rfl (lv_at hl 1 rfl) ?_
    refine lv_sipush (v := iZ (1024)) hx hb d_Mo_init_92 (by decide +kernel) ?_
    refine zz_icmp_gt (tgt := 102) hx hb d_Mo_init_95 (by decide) (by omega) (by omega) (fun c95 => ?_) (fun c95 => False.elim (by omega))
    refine lv_sipush (v := iZ (1024)) hx hb d_Mo_init_102 (by decide +kernel) ?_
    rw [show (1024 : Int) = (np : Int) by omega]
    refine va_putF (D := D) (ci := 8) (v := .int (iZ (np : Int))) (ty := .int) (C := R_Mo) (T := F_Mo) (N := 14) hx hb hts i_Mo t_Mo t_Mo_ok n_Mo hown hK hP hD hS 0 rfl rfl 1 (by decide) (hts _ (big_in mw_1116 rfl)) (fun _ h9 => h9) rfl hin rfl (by decide +kernel) rfl rfl (Nat.le_of_ble_eq_true rfl) d_Mo_init_105 (fun H locs hP hD hS => ?_)
    have hP : va_P D cls0 [(mo, .inr (8, [.int (iZ 0), .int (iZ (np : Int)), .ref ow, .ref om, .ref ok_, .ref oK, .ref og, .ref on_, .ref oh, .ref ox, .int (iZ 0), .int (iZ (-1)), .ref op_, .int (iZ 0)])), (ow, .inl (cI, 108000, .inl (fun _ => iZ 0))), (om, .inl (cI, 9, .inl (fun _ => iZ 0))), (ok_, .inl (cI, 166400, .inl (fun _ => iZ 0))), (oK, .inl (cI, 64, .inl (fun _ => iZ 0))), (og, .inl (cI, 32, .inl (fun _ => iZ 0))), (on_, .inl (cI, 32, .inl (fun _ => iZ 0))), (oh, .inl (cI, 10000, .inl (fun _ => iZ 0))), (ox, .inl (cI, 400, .inl (fun _ => iZ 0))), (op_, .inl (cI, 22000, .inl (fun _ => iZ 0)))] H := hP
    have hD : va_D A [(mo, .inr (8, [.int (iZ 0), .int (iZ (np : Int)), .ref ow, .ref om, .ref ok_, .ref oK, .ref og, .ref on_, .ref oh, .ref ox, .int (iZ 0), .int (iZ (-1)), .ref op_, .int (iZ 0)])), (ow, .inl (cI, 108000, .inl (fun _ => iZ 0))), (om, .inl (cI, 9, .inl (fun _ => iZ 0))), (ok_, .inl (cI, 166400, .inl (fun _ => iZ 0))), (oK, .inl (cI, 64, .inl (fun _ => iZ 0))), (og, .inl (cI, 32, .inl (fun _ => iZ 0))), (on_, .inl (cI, 32, .inl (fun _ => iZ 0))), (oh, .inl (cI, 10000, .inl (fun _ => iZ 0))), (ox, .inl (cI, 400, .inl (fun _ => iZ 0))), (op_, .inl (cI, 22000, .inl (fun _ => iZ 0)))] := hD
    refine lv_iconst (v := iZ (0)) hx hb d_Mo_init_108 (by decide +kernel) ?_
    refine lv_istore_n (lv' := [(2, .int (iZ 0)), (0, .ref mo), (1, .int (iZ z))]) hx hb d_Mo_init_109 rfl hl (by decide) rfl (fun ls hl => ?_)
    exact L110 _ 0 (fun _ => iZ 0) (fun _ => iZ 0) (fun _ => iZ 0) _ _ _ (Nat.lt_succ_self _) (by omega) (fun r hr => absurd hr (Nat.not_lt_zero _)) (fun r hr => absurd hr (Nat.not_lt_zero _)) (fun r hr => rfl) (fun r hr => absurd hr (Nat.not_lt_zero _)) (hP.sub (ws' := [(mo, .inr (8, [.int (iZ 0), .int (iZ (np : Int)), .ref ow, .ref om, .ref ok_, .ref oK, .ref og, .ref on_, .ref oh, .ref ox, .int (iZ 0), .int (iZ (-1)), .ref op_, .int (iZ 0)])), (ow, .inl (cI, 108000, .inl (fun _ => iZ 0))), (om, .inl (cI, 9, .inl (fun _ => iZ 0))), (ok_, .inl (cI, 166400, .inl (fun _ => iZ 0))), (oK, .inl (cI, 64, .inl (fun _ => iZ 0))), (og, .inl (cI, 32, .inl (fun _ => iZ 0))), (on_, .inl (cI, 32, .inl (fun _ => iZ 0))), (oh, .inl (cI, 10000, .inl (fun _ => iZ 0))), (ox, .inl (cI, 400, .inl (fun _ => iZ 0))), (op_, .inl (cI, 22000, .inl (fun _ => iZ 0)))]) [0, 1, 2, 3, 4, 5, 6, 7, 8, 9] rfl) (hD.sub (ws' := [(mo, .inr (8, [.int (iZ 0), .int (iZ (np : Int)), .ref ow, .ref om, .ref ok_, .ref oK, .ref og, .ref on_, .ref oh, .ref ox, .int (iZ 0), .int (iZ (-1)), .ref op_, .int (iZ 0)])), (ow, .inl (cI, 108000, .inl (fun _ => iZ 0))), (om, .inl (cI, 9, .inl (fun _ => iZ 0))), (ok_, .inl (cI, 166400, .inl (fun _ => iZ 0))), (oK, .inl (cI, 64, .inl (fun _ => iZ 0))), (og, .inl (cI, 32, .inl (fun _ => iZ 0))), (on_, .inl (cI, 32, .inl (fun _ => iZ 0))), (oh, .inl (cI, 10000, .inl (fun _ => iZ 0))), (ox, .inl (cI, 400, .inl (fun _ => iZ 0))), (op_, .inl (cI, 22000, .inl (fun _ => iZ 0)))]) [0, 1, 2, 3, 4, 5, 6, 7, 8, 9] (by decide) rfl) hS (lv_sub hl [1, 2, 0] rfl)
