theorem kvf_sw (tv bv : Nat → Nat) (a b : Nat) : up (up (up (up (kvf tv bv) (2 * a) (tv b)) (2 * b) (tv a)) (2 * a + 1) (bv b)) (2 * b + 1) (bv a) = kvf (sw tv a b) (sw bv a b) := by
  funext s
  unfold kvf up sw
  dsimp only
  rcases (show (∃ q, s = 2 * q) ∨ ∃ q, s = 2 * q + 1 by rcases Nat.mod_two_eq_zero_or_one s with z | z; exact Or.inl ⟨s / 2, by omega⟩; exact Or.inr ⟨s / 2, by omega⟩) with ⟨q, rfl⟩ | ⟨q, rfl⟩
  · rw [if_neg (show ¬ 2 * q = 2 * b + 1 by omega), if_neg (show ¬ 2 * q = 2 * a + 1 by omega), show 2 * q / 2 = q by omega, show 2 * q % 2 = 0 by omega, if_pos rfl, if_pos rfl]
    by_cases h2 : q = b
    · rw [if_pos (show 2 * q = 2 * b by omega)]
      by_cases h3 : q = a
      · rw [if_pos h3, ← h2, ← h3]
      · rw [if_neg h3, if_pos h2]
    · rw [if_neg (show ¬ 2 * q = 2 * b by omega)]
      by_cases h3 : q = a
      · rw [if_pos (show 2 * q = 2 * a by omega), if_pos h3]
      · rw [if_neg (show ¬ 2 * q = 2 * a by omega), if_neg h3, if_neg h2]
  · rw [if_neg (show ¬ 2 * q + 1 = 2 * b by omega), if_neg (show ¬ 2 * q + 1 = 2 * a by omega), show (2 * q + 1) / 2 = q by omega, if_neg (show ¬ (2 * q + 1) % 2 = 0 by omega), if_neg (show ¬ (2 * q + 1) % 2 = 0 by omega)]
    by_cases h2 : q = b
    · rw [if_pos (show 2 * q + 1 = 2 * b + 1 by omega)]
      by_cases h3 : q = a
      · rw [if_pos h3, ← h2, ← h3]
      · rw [if_neg h3, if_pos h2]
    · rw [if_neg (show ¬ 2 * q + 1 = 2 * b + 1 by omega)]
      by_cases h3 : q = a
      · rw [if_pos (show 2 * q + 1 = 2 * a + 1 by omega), if_pos h3]
      · rw [if_neg (show ¬ 2 * q + 1 = 2 * a + 1 by omega), if_neg h3, if_neg h2]
set_option maxHeartbeats 4000000 in
set_option maxRecDepth 100000 in
/-- swap(a, b) -/
theorem c_Mo_swap (l : Launch) (D : va_G) (mo : Nat) (qc : Int32) (np : Nat) (ow : Nat) (om : Nat) (ok_ : Nat) (oK : Nat) (og : Nat) (on_ : Nat) (oh : Nat) (ox : Nat) (qn : Int32) (qf : Int32) (op_ : Nat) (ql : Int32) (fw : Nat → Int32) (fm : Nat → Int32) (cI : ClassId) (fh : Nat → Int32) (fk : Nat → Int32) (fK : Nat → Int32) (fs : Nat → Int32) (fn : Nat → Int32) (val : Nat → Nat) (tv : Nat → Nat) (bv : Nat → Nat) (sg : Nat → Int) (a : Nat) (b_ : Nat) (sz : Nat) (hW : WB fw fm val) (hMR : MoR fk fK fs fn tv bv sg) (hnd : ndS tv bv 32 ≤ np) (hnp : np ≤ 1024) (J : RgC tv bv sg) (hbv : ∀ r, r < 32 → 0 < bv r) (t2 : a < 32) (t3_ : b_ < 32) : Met l y_Mo_swap (wsB y_Mo_swap b_Mo_swap 5 (some .int)) ({ frames := 1, cells := 0, slots := 0, locals := 23 }) (va_Pc [.ref mo, .int (iZ (a : Int)), .int (iZ (b_ : Int))] (wPre D [(cI, .int)] [(mo, .inr (8, [.int qc, .int (iZ (np : Int)), .ref ow, .ref om, .ref ok_, .ref oK, .ref og, .ref on_, .ref oh, .ref ox, .int qn, .int qf, .ref op_, .int ql])), (ow, .inl (cI, 108000, .inl fw)), (om, .inl (cI, 9, .inl fm)), (oh, .inl (cI, 10000, .inl fh)), (ok_, .inl (cI, 166400, .inl fk)), (oK, .inl (cI, 64, .inl fK)), (og, .inl (cI, 32, .inl fs)), (on_, .inl (cI, 32, .inl fn))] sz)) (va_QV (fun (v_9 : Option Value) (u_9 : (Nat → Int32) × (Nat → Int32) × (Nat → Int32) × (Nat → Int32) × (Nat → Int32) × (Nat → Int32) × (Nat → Int32) × (Nat → Nat)) => v_9 = some (.int (iZ ((lm (tv b_) + lm (bv b_) : Nat) : Int))) ∧ (WB u_9.1 u_9.2.1 u_9.2.2.2.2.2.2.2) ∧ (MoR u_9.2.2.2.1 u_9.2.2.2.2.1 u_9.2.2.2.2.2.1 u_9.2.2.2.2.2.2.1 (sw tv a b_) (sw bv a b_) (sw sg a b_))) (fun u_9 => wPost D [(cI, .int)] [(mo, .inr (8, [.int qc, .int (iZ (np : Int)), .ref ow, .ref om, .ref ok_, .ref oK, .ref og, .ref on_, .ref oh, .ref ox, .int qn, .int qf, .ref op_, .int ql])), (ow, .inl (cI, 108000, .inl fw)), (om, .inl (cI, 9, .inl fm)), (oh, .inl (cI, 10000, .inl fh)), (ok_, .inl (cI, 166400, .inl fk)), (oK, .inl (cI, 64, .inl fK)), (og, .inl (cI, 32, .inl fs)), (on_, .inl (cI, 32, .inl fn))] [(mo, .inr (8, [.int (iZ 0), .int (iZ (np : Int)), .ref ow, .ref om, .ref ok_, .ref oK, .ref og, .ref on_, .ref oh, .ref ox, .int qn, .int qf, .ref op_, .int ql])), (ow, .inl (cI, 108000, .inl u_9.1)), (om, .inl (cI, 9, .inl u_9.2.1)), (oh, .inl (cI, 10000, .inl u_9.2.2.1)), (ok_, .inl (cI, 166400, .inl u_9.2.2.2.1)), (oK, .inl (cI, 64, .inl u_9.2.2.2.2.1)), (og, .inl (cI, 32, .inl u_9.2.2.2.2.2.1)), (on_, .inl (cI, 32, .inl u_9.2.2.2.2.2.2.1))] sz) (va_A [(mo, .inr (8, [.int qc, .int (iZ (np : Int)), .ref ow, .ref om, .ref ok_, .ref oK, .ref og, .ref on_, .ref oh, .ref ox, .int qn, .int qf, .ref op_, .int ql])), (ow, .inl (cI, 108000, .inl fw)), (om, .inl (cI, 9, .inl fm)), (oh, .inl (cI, 10000, .inl fh)), (ok_, .inl (cI, 166400, .inl fk)), (oK, .inl (cI, 64, .inl fK)), (og, .inl (cI, 32, .inl fs)), (on_, .inl (cI, 32, .inl fn))] sz)) 0 0 (va_A [(mo, .inr (8, [.int qc, .int (iZ (np : Int)), .ref ow, .ref om, .ref ok_, .ref oK, .ref og, .ref on_, .ref oh, .ref ox, .int qn, .int qf, .ref op_, .int ql])), (ow, .inl (cI, 108000, .inl fw)), (om, .inl (cI, 9, .inl fm)), (oh, .inl (cI, 10000, .inl fh)), (ok_, .inl (cI, 166400, .inl fk)), (oK, .inl (cI, 64, .inl fK)), (og, .inl (cI, 32, .inl fs)), (on_, .inl (cI, 32, .inl fn))] sz) := by
  refine met_enter (by decide +kernel) (Nat.le_of_ble_eq_true rfl) ?_
  intro p e s m args below meth c ls A R Q H locs K hin hAe hA hR hQ hP hK hD hS hl
  obtain ⟨hx, hb, hml, hrt, hlk, hts, hown, hno⟩ := id K
  have hl : lv_has ls 5 [(0, .ref mo), (1, .int (iZ (a : Int))), (2, .int (iZ (b_ : Int)))] := hl
  have hlr : ∀ q, q < 32 → lm (tv q) + lm (bv q) ≤ 1024 := fun q hq => by have z := ndS_le (tv := tv) (bv := bv) hq; omega
  have hnt : ∀ q, q < 32 → nd (tv q) ≤ 2600 := fun q hq => by have z := nd_lm (v := tv q) (L := 1024) (by have y := hlr q hq; omega); omega
  have hnb : ∀ q, q < 32 → nd (bv q) ≤ 2600 := fun q hq => by have z := nd_lm (v := bv q) (L := 1024) (by have y := hlr q hq; omega); omega
  refine lv_aload_n hx hb d_Mo_swap_0 rfl (lv_at hl 0 rfl) ?_
  refine lv_iload_n hx hb d_Mo_swap_1 rfl (lv_at hl 1 rfl) ?_
  refine cs (n := 1) (wr := [(mo, .inr (8, [.int qc, .int (iZ (np : Int)), .ref ow, .ref om, .ref ok_, .ref oK, .ref og, .ref on_, .ref oh, .ref ox, .int qn, .int qf, .ref op_, .int ql])), (ow, .inl (cI, 108000, .inl fw)), (om, .inl (cI, 9, .inl fm)), (oh, .inl (cI, 10000, .inl fh)), (ok_, .inl (cI, 166400, .inl fk)), (oK, .inl (cI, 64, .inl fK)), (og, .inl (cI, 32, .inl fs)), (on_, .inl (cI, 32, .inl fn))]) (w1 := (fun (u : Int) => [])) (As := [.int (iZ (a : Int))]) (rest := [.ref mo]) K hP hD hK hS hA hl.1 (c_Mo_isRegister l D (a : Int) H.size (by omega)) [] [0, 1, 2, 3, 4, 5, 6, 7] [] rfl rfl rfl (by decide) (by decide) (by decide) (big_in mw_1172 rfl) (big_in mw_10 rfl) (big_in mw_1170 rfl) (big_in mw_1171 rfl) rfl rfl (by decide +kernel) ⟨by rw [hR]; exact Nat.le_of_ble_eq_true rfl, by rw [hR]; exact Nat.le_of_ble_eq_true rfl⟩ rfl (Nat.le_of_ble_eq_true rfl) d_Mo_swap_2 ⟨by rw [hR]; exact Nat.le_of_ble_eq_true rfl, by rw [hR]; exact Nat.le_of_ble_eq_true rfl⟩ rfl (fun v u H locs hp1 hP hD hS _ => ?_)
  obtain ⟨r2, rfl⟩ : ∃ z, z = u := ⟨_, rfl⟩
  obtain ⟨rfl, p2⟩ := hp1
  have hP : va_P D cls0 [(mo, .inr (8, [.int qc, .int (iZ (np : Int)), .ref ow, .ref om, .ref ok_, .ref oK, .ref og, .ref on_, .ref oh, .ref ox, .int qn, .int qf, .ref op_, .int ql])), (ow, .inl (cI, 108000, .inl fw)), (om, .inl (cI, 9, .inl fm)), (oh, .inl (cI, 10000, .inl fh)), (ok_, .inl (cI, 166400, .inl fk)), (oK, .inl (cI, 64, .inl fK)), (og, .inl (cI, 32, .inl fs)), (on_, .inl (cI, 32, .inl fn))] H := hP
  have hD : va_D A [(mo, .inr (8, [.int qc, .int (iZ (np : Int)), .ref ow, .ref om, .ref ok_, .ref oK, .ref og, .ref on_, .ref oh, .ref ox, .int qn, .int qf, .ref op_, .int ql])), (ow, .inl (cI, 108000, .inl fw)), (om, .inl (cI, 9, .inl fm)), (oh, .inl (cI, 10000, .inl fh)), (ok_, .inl (cI, 166400, .inl fk)), (oK, .inl (cI, 64, .inl fK)), (og, .inl (cI, 32, .inl fs)), (on_, .inl (cI, 32, .inl fn))] := hD
  show W p l e R s m args below meth c H locs _ _ Q (F0 m 5 ls [.int (iZ r2), .ref mo])
  have b2 : 0 ≤ r2 ∧ r2 ≤ 1 := by omega
  refine zz_if_eq (tgt := 19) hx hb d_Mo_swap_5 (by decide) (by omega) (fun c5 => ?_) (fun c5 => ?_)
  · refine lv_iconst (v := iZ (1)) hx hb d_Mo_swap_19 (by decide +kernel) ?_
    exfalso
    omega
  · refine lv_iload_n hx hb d_Mo_swap_8 rfl (lv_at hl 2 rfl) ?_
    refine cs (n := 1) (wr := [(mo, .inr (8, [.int qc, .int (iZ (np : Int)), .ref ow, .ref om, .ref ok_, .ref oK, .ref og, .ref on_, .ref oh, .ref ox, .int qn, .int qf, .ref op_, .int ql])), (ow, .inl (cI, 108000, .inl fw)), (om, .inl (cI, 9, .inl fm)), (oh, .inl (cI, 10000, .inl fh)), (ok_, .inl (cI, 166400, .inl fk)), (oK, .inl (cI, 64, .inl fK)), (og, .inl (cI, 32, .inl fs)), (on_, .inl (cI, 32, .inl fn))]) (w1 := (fun (u : Int) => [])) (As := [.int (iZ (b_ : Int))]) (rest := [.ref mo]) K hP hD hK hS hA hl.1 (c_Mo_isRegister l D (b_ : Int) H.size (by omega)) [] [0, 1, 2, 3, 4, 5, 6, 7] [] rfl rfl rfl (by decide) (by decide) (by decide) (big_in mw_1172 rfl) (big_in mw_10 rfl) (big_in mw_1170 rfl) (big_in mw_1171 rfl) rfl rfl (by decide +kernel) ⟨by rw [hR]; exact Nat.le_of_ble_eq_true rfl, by rw [hR]; exact Nat.le_of_ble_eq_true rfl⟩ rfl (Nat.le_of_ble_eq_true rfl) d_Mo_swap_9 ⟨by rw [hR]; exact Nat.le_of_ble_eq_true rfl, by rw [hR]; exact Nat.le_of_ble_eq_true rfl⟩ rfl (fun v u H locs hp2 hP hD hS _ => ?_)
    obtain ⟨r9, rfl⟩ : ∃ z, z = u := ⟨_, rfl⟩
    obtain ⟨rfl, p9⟩ := hp2
    have hP : va_P D cls0 [(mo, .inr (8, [.int qc, .int (iZ (np : Int)), .ref ow, .ref om, .ref ok_, .ref oK, .ref og, .ref on_, .ref oh, .ref ox, .int qn, .int qf, .ref op_, .int ql])), (ow, .inl (cI, 108000, .inl fw)), (om, .inl (cI, 9, .inl fm)), (oh, .inl (cI, 10000, .inl fh)), (ok_, .inl (cI, 166400, .inl fk)), (oK, .inl (cI, 64, .inl fK)), (og, .inl (cI, 32, .inl fs)), (on_, .inl (cI, 32, .inl fn))] H := hP
    have hD : va_D A [(mo, .inr (8, [.int qc, .int (iZ (np : Int)), .ref ow, .ref om, .ref ok_, .ref oK, .ref og, .ref on_, .ref oh, .ref ox, .int qn, .int qf, .ref op_, .int ql])), (ow, .inl (cI, 108000, .inl fw)), (om, .inl (cI, 9, .inl fm)), (oh, .inl (cI, 10000, .inl fh)), (ok_, .inl (cI, 166400, .inl fk)), (oK, .inl (cI, 64, .inl fK)), (og, .inl (cI, 32, .inl fs)), (on_, .inl (cI, 32, .inl fn))] := hD
    show W p l e R s m args below meth c H locs _ _ Q (F0 m 12 ls [.int (iZ r9), .ref mo])
    have b9 : 0 ≤ r9 ∧ r9 ≤ 1 := by omega
    refine zz_if_eq (tgt := 19) hx hb d_Mo_swap_12 (by decide) (by omega) (fun c12 => ?_) (fun c12 => ?_)
    · refine lv_iconst (v := iZ (1)) hx hb d_Mo_swap_19 (by decide +kernel) ?_
      exfalso
      omega
    · refine lv_iconst (v := iZ (0)) hx hb d_Mo_swap_15 (by decide +kernel) ?_
      refine lv_goto (tgt := 20) hx hb d_Mo_swap_16 (by decide) ?_
      refine cv (n := 1) (wr := [(ow, .inl (cI, 108000, .inl fw)), (om, .inl (cI, 9, .inl fm)), (oh, .inl (cI, 10000, .inl fh)), (ok_, .inl (cI, 166400, .inl fk)), (oK, .inl (cI, 64, .inl fK)), (og, .inl (cI, 32, .inl fs)), (on_, .inl (cI, 32, .inl fn))]) (w1 := (fun (u : Int) => [(mo, .inr (8, [.int (iZ 0), .int (iZ (np : Int)), .ref ow, .ref om, .ref ok_, .ref oK, .ref og, .ref on_, .ref oh, .ref ox, .int qn, .int qf, .ref op_, .int ql]))])) (As := [.int (iZ 0)]) (rest := []) K hP hD hK hS hA hl.1 (c_Mo_refuses l D mo qc np ow om ok_ oK og on_ oh ox qn qf op_ ql 0 H.size (by omega)) [0] [1, 2, 3, 4, 5, 6, 7] [] rfl rfl rfl (by decide) (by decide) (by decide) 0 rfl rfl (big_in mw_1176 rfl) (big_in mw_10 rfl) (big_in mw_1173 rfl) (big_in mw_1175 rfl) (big_in sp_18 rfl) rfl rfl (by decide +kernel) ⟨by rw [hR]; exact Nat.le_of_ble_eq_true rfl, by rw [hR]; exact Nat.le_of_ble_eq_true rfl⟩ rfl (Nat.le_of_ble_eq_true rfl) d_Mo_swap_20 ⟨by rw [hR]; exact Nat.le_of_ble_eq_true rfl, by rw [hR]; exact Nat.le_of_ble_eq_true rfl⟩ rfl (fun v u H locs hp3 hP hD hS _ => ?_)
      obtain ⟨rf, rfl⟩ : ∃ z, z = u := ⟨_, rfl⟩
      obtain ⟨rfl, prf⟩ := hp3
      have hP : va_P D cls0 [(ow, .inl (cI, 108000, .inl fw)), (om, .inl (cI, 9, .inl fm)), (oh, .inl (cI, 10000, .inl fh)), (ok_, .inl (cI, 166400, .inl fk)), (oK, .inl (cI, 64, .inl fK)), (og, .inl (cI, 32, .inl fs)), (on_, .inl (cI, 32, .inl fn)), (mo, .inr (8, [.int (iZ 0), .int (iZ (np : Int)), .ref ow, .ref om, .ref ok_, .ref oK, .ref og, .ref on_, .ref oh, .ref ox, .int qn, .int qf, .ref op_, .int ql]))] H := hP
      have hD : va_D A [(ow, .inl (cI, 108000, .inl fw)), (om, .inl (cI, 9, .inl fm)), (oh, .inl (cI, 10000, .inl fh)), (ok_, .inl (cI, 166400, .inl fk)), (oK, .inl (cI, 64, .inl fK)), (og, .inl (cI, 32, .inl fs)), (on_, .inl (cI, 32, .inl fn)), (mo, .inr (8, [.int (iZ 0), .int (iZ (np : Int)), .ref ow, .ref om, .ref ok_, .ref oK, .ref og, .ref on_, .ref oh, .ref ox, .int qn, .int qf, .ref op_, .int ql]))] := hD
      show W p l e R s m args below meth c H locs _ _ Q (F0 m 23 ls [.int (iZ rf)])
      refine zz_if_eq (tgt := 28) hx hb d_Mo_swap_23 (by decide) (by omega) (fun c23 => ?_) (fun c23 => False.elim (by omega))
      refine lv_iconst (v := iZ (0)) hx hb d_Mo_swap_28 (by decide +kernel) ?_
      refine lv_istore_n (lv' := [(3, .int (iZ 0)), (0, .ref mo), (1, .int (iZ (a : Int))), (2, .int (iZ (b_ : Int)))]) hx hb d_Mo_swap_29 rfl hl (by decide) rfl (fun ls hl => ?_)
      refine lv_iload_n hx hb d_Mo_swap_30 rfl (lv_at hl 0 rfl) ?_
      refine lv_iconst (v := iZ (2)) hx hb d_Mo_swap_31 (by decide +kernel) ?_
      refine zz_icmp_ge (tgt := 81) hx hb d_Mo_swap_32 (by decide) (by omega) (by omega) (fun c32 => False.elim (by omega)) (fun c32 => ?_)
      refine lv_aload_n hx hb d_Mo_swap_35 rfl (lv_at hl 1 rfl) ?_
      refine lv_iconst (v := iZ (4)) hx hb d_Mo_swap_36 (by decide +kernel) ?_
      refine lv_iconst (v := iZ (2)) hx hb d_Mo_swap_37 (by decide +kernel) ?_
      refine lv_iload_n hx hb d_Mo_swap_38 rfl (lv_at hl 2 rfl) ?_
      refine zz_imul hx hb d_Mo_swap_39 ?_
      refine lv_iload_n hx hb d_Mo_swap_40 rfl (lv_at hl 0 rfl) ?_
      refine zz_iadd hx hb d_Mo_swap_41 ?_
      rw [show (2 * (a : Int) + 0 : Int) = ((2 * a : Nat) : Int) by omega]
      refine cv (n := 2) (wr := [(oh, .inl (cI, 10000, .inl fh)), (og, .inl (cI, 32, .inl fs)), (on_, .inl (cI, 32, .inl fn))]) (w1 := (fun (u : (Nat → Int32) × (Nat → Int32)) => [(mo, .inr (8, [.int (iZ 0), .int (iZ (np : Int)), .ref ow, .ref om, .ref ok_, .ref oK, .ref og, .ref on_, .ref oh, .ref ox, .int qn, .int qf, .ref op_, .int ql])), (ow, .inl (cI, 108000, .inl u.1)), (om, .inl (cI, 9, .inl u.2)), (ok_, .inl (cI, 166400, .inl fk)), (oK, .inl (cI, 64, .inl fK))])) (As := [.int (iZ 4), .int (iZ ((2 * a : Nat) : Int))]) (rest := []) K hP hD hK hS hA hl.1 (c_Mo_load l D mo (iZ 0) np ow om ok_ oK og on_ oh ox qn qf op_ ql fw fm cI fk fK val (kvf tv bv) 4 (2 * a) H.size hW hMR.1 (by decide) (by omega)) [7, 0, 1, 3, 4] [2, 5, 6] [0] rfl rfl rfl (by decide) (by decide) (by decide) 0 rfl rfl (big_in mw_1238 rfl) (big_in mw_10 rfl) (big_in mw_1235 rfl) (big_in mw_1237 rfl) (big_in sp_31 rfl) rfl rfl (by decide +kernel) ⟨by rw [hR]; exact Nat.le_of_ble_eq_true rfl, by rw [hR]; exact Nat.le_of_ble_eq_true rfl⟩ rfl (Nat.le_of_ble_eq_true rfl) d_Mo_swap_42 ⟨by rw [hR]; exact Nat.le_of_ble_eq_true rfl, by rw [hR]; exact Nat.le_of_ble_eq_true rfl⟩ rfl (fun v u H locs hp4 hP hD hS _ => ?_)
      obtain ⟨fx1, fy1⟩ := u
      try dsimp only at hp4
      obtain ⟨rfl, w1⟩ := hp4
      have hP : va_P D cls0 [(oh, .inl (cI, 10000, .inl fh)), (og, .inl (cI, 32, .inl fs)), (on_, .inl (cI, 32, .inl fn)), (mo, .inr (8, [.int (iZ 0), .int (iZ (np : Int)), .ref ow, .ref om, .ref ok_, .ref oK, .ref og, .ref on_, .ref oh, .ref ox, .int qn, .int qf, .ref op_, .int ql])), (ow, .inl (cI, 108000, .inl fx1)), (om, .inl (cI, 9, .inl fy1)), (ok_, .inl (cI, 166400, .inl fk)), (oK, .inl (cI, 64, .inl fK))] H := hP
      have hD : va_D A [(oh, .inl (cI, 10000, .inl fh)), (og, .inl (cI, 32, .inl fs)), (on_, .inl (cI, 32, .inl fn)), (mo, .inr (8, [.int (iZ 0), .int (iZ (np : Int)), .ref ow, .ref om, .ref ok_, .ref oK, .ref og, .ref on_, .ref oh, .ref ox, .int qn, .int qf, .ref op_, .int ql])), (ow, .inl (cI, 108000, .inl fx1)), (om, .inl (cI, 9, .inl fy1)), (ok_, .inl (cI, 166400, .inl fk)), (oK, .inl (cI, 64, .inl fK))] := hD
      show W p l e R s m args below meth c H locs _ _ Q (F0 m 45 ls [])
      rw [kvf_0] at w1
      obtain ⟨v1, hv1⟩ : ∃ z, z = up val 4 (tv a) := ⟨_, rfl⟩
      rw [← hv1] at w1
      refine lv_aload_n hx hb d_Mo_swap_45 rfl (lv_at hl 1 rfl) ?_
      refine lv_iconst (v := iZ (5)) hx hb d_Mo_swap_46 (by decide +kernel) ?_
      refine lv_iconst (v := iZ (2)) hx hb d_Mo_swap_47 (by decide +kernel) ?_
      refine lv_iload_n hx hb d_Mo_swap_48 rfl (lv_at hl 3 rfl) ?_
      refine zz_imul hx hb d_Mo_swap_49 ?_
      refine lv_iload_n hx hb d_Mo_swap_50 rfl (lv_at hl 0 rfl) ?_
      refine zz_iadd hx hb d_Mo_swap_51 ?_
      rw [show (2 * (b_ : Int) + 0 : Int) = ((2 * b_ : Nat) : Int) by omega]
      refine cv (n := 2) (wr := [(oh, .inl (cI, 10000, .inl fh)), (og, .inl (cI, 32, .inl fs)), (on_, .inl (cI, 32, .inl fn))]) (w1 := (fun (u : (Nat → Int32) × (Nat → Int32)) => [(mo, .inr (8, [.int (iZ 0), .int (iZ (np : Int)), .ref ow, .ref om, .ref ok_, .ref oK, .ref og, .ref on_, .ref oh, .ref ox, .int qn, .int qf, .ref op_, .int ql])), (ow, .inl (cI, 108000, .inl u.1)), (om, .inl (cI, 9, .inl u.2)), (ok_, .inl (cI, 166400, .inl fk)), (oK, .inl (cI, 64, .inl fK))])) (As := [.int (iZ 5), .int (iZ ((2 * b_ : Nat) : Int))]) (rest := []) K hP hD hK hS hA hl.1 (c_Mo_load l D mo (iZ 0) np ow om ok_ oK og on_ oh ox qn qf op_ ql fx1 fy1 cI fk fK v1 (kvf tv bv) 5 (2 * b_) H.size w1 hMR.1 (by decide) (by omega)) [3, 4, 5, 6, 7] [0, 1, 2] [0] rfl rfl rfl (by decide) (by decide) (by decide) 0 rfl rfl (big_in mw_1238 rfl) (big_in mw_10 rfl) (big_in mw_1235 rfl) (big_in mw_1237 rfl) (big_in sp_31 rfl) rfl rfl (by decide +kernel) ⟨by rw [hR]; exact Nat.le_of_ble_eq_true rfl, by rw [hR]; exact Nat.le_of_ble_eq_true rfl⟩ rfl (Nat.le_of_ble_eq_true rfl) d_Mo_swap_52 ⟨by rw [hR]; exact Nat.le_of_ble_eq_true rfl, by rw [hR]; exact Nat.le_of_ble_eq_true rfl⟩ rfl (fun v u H locs hp5 hP hD hS _ => ?_)
      obtain ⟨fx2, fy2⟩ := u
      try dsimp only at hp5
      obtain ⟨rfl, w2⟩ := hp5
      have hP : va_P D cls0 [(oh, .inl (cI, 10000, .inl fh)), (og, .inl (cI, 32, .inl fs)), (on_, .inl (cI, 32, .inl fn)), (mo, .inr (8, [.int (iZ 0), .int (iZ (np : Int)), .ref ow, .ref om, .ref ok_, .ref oK, .ref og, .ref on_, .ref oh, .ref ox, .int qn, .int qf, .ref op_, .int ql])), (ow, .inl (cI, 108000, .inl fx2)), (om, .inl (cI, 9, .inl fy2)), (ok_, .inl (cI, 166400, .inl fk)), (oK, .inl (cI, 64, .inl fK))] H := hP
      have hD : va_D A [(oh, .inl (cI, 10000, .inl fh)), (og, .inl (cI, 32, .inl fs)), (on_, .inl (cI, 32, .inl fn)), (mo, .inr (8, [.int (iZ 0), .int (iZ (np : Int)), .ref ow, .ref om, .ref ok_, .ref oK, .ref og, .ref on_, .ref oh, .ref ox, .int qn, .int qf, .ref op_, .int ql])), (ow, .inl (cI, 108000, .inl fx2)), (om, .inl (cI, 9, .inl fy2)), (ok_, .inl (cI, 166400, .inl fk)), (oK, .inl (cI, 64, .inl fK))] := hD
      show W p l e R s m args below meth c H locs _ _ Q (F0 m 55 ls [])
      rw [kvf_0] at w2
      obtain ⟨v2, hv2⟩ : ∃ z, z = up v1 5 (tv b_) := ⟨_, rfl⟩
      rw [← hv2] at w2
      have y24 : v2 4 = tv a := by rw [hv2, up_n (by decide), hv1, up_s]
      have y25 : v2 5 = tv b_ := by rw [hv2, up_s]
      refine lv_aload_n hx hb d_Mo_swap_55 rfl (lv_at hl 1 rfl) ?_
      refine lv_iconst (v := iZ (2)) hx hb d_Mo_swap_56 (by decide +kernel) ?_
      refine lv_iload_n hx hb d_Mo_swap_57 rfl (lv_at hl 2 rfl) ?_
      refine zz_imul hx hb d_Mo_swap_58 ?_
      refine lv_iload_n hx hb d_Mo_swap_59 rfl (lv_at hl 0 rfl) ?_
      refine zz_iadd hx hb d_Mo_swap_60 ?_
      refine lv_iconst (v := iZ (5)) hx hb d_Mo_swap_61 (by decide +kernel) ?_
      rw [show (2 * (a : Int) + 0 : Int) = ((2 * a : Nat) : Int) by omega]
      refine cv (n := 2) (wr := [(oh, .inl (cI, 10000, .inl fh)), (og, .inl (cI, 32, .inl fs)), (on_, .inl (cI, 32, .inl fn))]) (w1 := (fun (u : (Nat → Int32) × (Nat → Int32)) => [(mo, .inr (8, [.int (iZ 0), .int (iZ (np : Int)), .ref ow, .ref om, .ref ok_, .ref oK, .ref og, .ref on_, .ref oh, .ref ox, .int qn, .int qf, .ref op_, .int ql])), (ow, .inl (cI, 108000, .inl fx2)), (om, .inl (cI, 9, .inl fy2)), (ok_, .inl (cI, 166400, .inl u.1)), (oK, .inl (cI, 64, .inl u.2))])) (As := [.int (iZ ((2 * a : Nat) : Int)), .int (iZ 5)]) (rest := []) K hP hD hK hS hA hl.1 (c_Mo_keep l D mo (iZ 0) np ow om ok_ oK og on_ oh ox qn qf op_ ql fx2 fy2 cI fk fK v2 (kvf tv bv) (2 * a) 5 H.size w2 hMR.1 (by decide) (by omega) (by rw [y25]; exact hnt b_ t3_)) [3, 4, 5, 6, 7] [0, 1, 2] [0] rfl rfl rfl (by decide) (by decide) (by decide) 0 rfl rfl (big_in mw_1230 rfl) (big_in mw_10 rfl) (big_in mw_1227 rfl) (big_in mw_1229 rfl) (big_in sp_30 rfl) rfl rfl (by decide +kernel) ⟨by rw [hR]; exact Nat.le_of_ble_eq_true rfl, by rw [hR]; exact Nat.le_of_ble_eq_true rfl⟩ rfl (Nat.le_of_ble_eq_true rfl) d_Mo_swap_62 ⟨by rw [hR]; exact Nat.le_of_ble_eq_true rfl, by rw [hR]; exact Nat.le_of_ble_eq_true rfl⟩ rfl (fun v u H locs hp6 hP hD hS _ => ?_)
      obtain ⟨fk1, fK1⟩ := u
      try dsimp only at hp6
      obtain ⟨rfl, kb1⟩ := hp6
      have hP : va_P D cls0 [(oh, .inl (cI, 10000, .inl fh)), (og, .inl (cI, 32, .inl fs)), (on_, .inl (cI, 32, .inl fn)), (mo, .inr (8, [.int (iZ 0), .int (iZ (np : Int)), .ref ow, .ref om, .ref ok_, .ref oK, .ref og, .ref on_, .ref oh, .ref ox, .int qn, .int qf, .ref op_, .int ql])), (ow, .inl (cI, 108000, .inl fx2)), (om, .inl (cI, 9, .inl fy2)), (ok_, .inl (cI, 166400, .inl fk1)), (oK, .inl (cI, 64, .inl fK1))] H := hP
      have hD : va_D A [(oh, .inl (cI, 10000, .inl fh)), (og, .inl (cI, 32, .inl fs)), (on_, .inl (cI, 32, .inl fn)), (mo, .inr (8, [.int (iZ 0), .int (iZ (np : Int)), .ref ow, .ref om, .ref ok_, .ref oK, .ref og, .ref on_, .ref oh, .ref ox, .int qn, .int qf, .ref op_, .int ql])), (ow, .inl (cI, 108000, .inl fx2)), (om, .inl (cI, 9, .inl fy2)), (ok_, .inl (cI, 166400, .inl fk1)), (oK, .inl (cI, 64, .inl fK1))] := hD
      show W p l e R s m args below meth c H locs _ _ Q (F0 m 65 ls [])
      rw [y25] at kb1
      refine lv_aload_n hx hb d_Mo_swap_65 rfl (lv_at hl 1 rfl) ?_
      refine lv_iconst (v := iZ (2)) hx hb d_Mo_swap_66 (by decide +kernel) ?_
      refine lv_iload_n hx hb d_Mo_swap_67 rfl (lv_at hl 3 rfl) ?_
      refine zz_imul hx hb d_Mo_swap_68 ?_
      refine lv_iload_n hx hb d_Mo_swap_69 rfl (lv_at hl 0 rfl) ?_
      refine zz_iadd hx hb d_Mo_swap_70 ?_
      refine lv_iconst (v := iZ (4)) hx hb d_Mo_swap_71 (by decide +kernel) ?_
      rw [show (2 * (b_ : Int) + 0 : Int) = ((2 * b_ : Nat) : Int) by omega]
      refine cv (n := 2) (wr := [(oh, .inl (cI, 10000, .inl fh)), (og, .inl (cI, 32, .inl fs)), (on_, .inl (cI, 32, .inl fn))]) (w1 := (fun (u : (Nat → Int32) × (Nat → Int32)) => [(mo, .inr (8, [.int (iZ 0), .int (iZ (np : Int)), .ref ow, .ref om, .ref ok_, .ref oK, .ref og, .ref on_, .ref oh, .ref ox, .int qn, .int qf, .ref op_, .int ql])), (ow, .inl (cI, 108000, .inl fx2)), (om, .inl (cI, 9, .inl fy2)), (ok_, .inl (cI, 166400, .inl u.1)), (oK, .inl (cI, 64, .inl u.2))])) (As := [.int (iZ ((2 * b_ : Nat) : Int)), .int (iZ 4)]) (rest := []) K hP hD hK hS hA hl.1 (c_Mo_keep l D mo (iZ 0) np ow om ok_ oK og on_ oh ox qn qf op_ ql fx2 fy2 cI fk1 fK1 v2 (up (kvf tv bv) (2 * a) (tv b_)) (2 * b_) 4 H.size w2 kb1 (by decide) (by omega) (by rw [y24]; exact hnt a t2)) [3, 4, 5, 6, 7] [0, 1, 2] [0] rfl rfl rfl (by decide) (by decide) (by decide) 0 rfl rfl (big_in mw_1230 rfl) (big_in mw_10 rfl) (big_in mw_1227 rfl) (big_in mw_1229 rfl) (big_in sp_30 rfl) rfl rfl (by decide +kernel) ⟨by rw [hR]; exact Nat.le_of_ble_eq_true rfl, by rw [hR]; exact Nat.le_of_ble_eq_true rfl⟩ rfl (Nat.le_of_ble_eq_true rfl) d_Mo_swap_72 ⟨by rw [hR]; exact Nat.le_of_ble_eq_true rfl, by rw [hR]; exact Nat.le_of_ble_eq_true rfl⟩ rfl (fun v u H locs hp7 hP hD hS _ => ?_)
      obtain ⟨fk2, fK2⟩ := u
      try dsimp only at hp7
      obtain ⟨rfl, kb2⟩ := hp7
      have hP : va_P D cls0 [(oh, .inl (cI, 10000, .inl fh)), (og, .inl (cI, 32, .inl fs)), (on_, .inl (cI, 32, .inl fn)), (mo, .inr (8, [.int (iZ 0), .int (iZ (np : Int)), .ref ow, .ref om, .ref ok_, .ref oK, .ref og, .ref on_, .ref oh, .ref ox, .int qn, .int qf, .ref op_, .int ql])), (ow, .inl (cI, 108000, .inl fx2)), (om, .inl (cI, 9, .inl fy2)), (ok_, .inl (cI, 166400, .inl fk2)), (oK, .inl (cI, 64, .inl fK2))] H := hP
      have hD : va_D A [(oh, .inl (cI, 10000, .inl fh)), (og, .inl (cI, 32, .inl fs)), (on_, .inl (cI, 32, .inl fn)), (mo, .inr (8, [.int (iZ 0), .int (iZ (np : Int)), .ref ow, .ref om, .ref ok_, .ref oK, .ref og, .ref on_, .ref oh, .ref ox, .int qn, .int qf, .ref op_, .int ql])), (ow, .inl (cI, 108000, .inl fx2)), (om, .inl (cI, 9, .inl fy2)), (ok_, .inl (cI, 166400, .inl fk2)), (oK, .inl (cI, 64, .inl fK2))] := hD
      show W p l e R s m args below meth c H locs _ _ Q (F0 m 75 ls [])
      rw [y24] at kb2
      obtain ⟨k2, hk2⟩ : ∃ z, z = up (up (kvf tv bv) (2 * a) (tv b_)) (2 * b_) (tv a) := ⟨_, rfl⟩
      rw [← hk2] at kb2
      have k2a : k2 (2 * a + 1) = bv a := by rw [hk2, up_n (by omega), up_n (by omega), kvf_1]
      have k2b : k2 (2 * b_ + 1) = bv b_ := by rw [hk2, up_n (by omega), up_n (by omega), kvf_1]
      refine lv_iinc (v := iZ (0 + 1)) (lv' := [(3, .int (iZ (0 + 1))), (0, .ref mo), (1, .int (iZ (a : Int))), (2, .int (iZ (b_ : Int)))]) hx hb d_Mo_swap_75 hl (k := 0) rfl (iZ_add _ _) (by decide) rfl (fun ls hl => ?_)
      refine lv_goto (tgt := 30) hx hb d_Mo_swap_78 (by decide) ?_
      refine lv_iload_n hx hb d_Mo_swap_30 rfl (lv_at hl 0 rfl) ?_
      refine lv_iconst (v := iZ (2)) hx hb d_Mo_swap_31 (by decide +kernel) ?_
      refine zz_icmp_ge (tgt := 81) hx hb d_Mo_swap_32 (by decide) (by omega) (by omega) (fun c32 => False.elim (by omega)) (fun c32 => ?_)
      refine lv_aload_n hx hb d_Mo_swap_35 rfl (lv_at hl 1 rfl) ?_
      refine lv_iconst (v := iZ (4)) hx hb d_Mo_swap_36 (by decide +kernel) ?_
      refine lv_iconst (v := iZ (2)) hx hb d_Mo_swap_37 (by decide +kernel) ?_
      refine lv_iload_n hx hb d_Mo_swap_38 rfl (lv_at hl 2 rfl) ?_
      refine zz_imul hx hb d_Mo_swap_39 ?_
      refine lv_iload_n hx hb d_Mo_swap_40 rfl (lv_at hl 0 rfl) ?_
      refine zz_iadd hx hb d_Mo_swap_41 ?_
      rw [show (2 * (a : Int) + (0 + 1) : Int) = ((2 * a + 1 : Nat) : Int) by omega]
      refine cv (n := 2) (wr := [(oh, .inl (cI, 10000, .inl fh)), (og, .inl (cI, 32, .inl fs)), (on_, .inl (cI, 32, .inl fn))]) (w1 := (fun (u : (Nat → Int32) × (Nat → Int32)) => [(mo, .inr (8, [.int (iZ 0), .int (iZ (np : Int)), .ref ow, .ref om, .ref ok_, .ref oK, .ref og, .ref on_, .ref oh, .ref ox, .int qn, .int qf, .ref op_, .int ql])), (ow, .inl (cI, 108000, .inl u.1)), (om, .inl (cI, 9, .inl u.2)), (ok_, .inl (cI, 166400, .inl fk2)), (oK, .inl (cI, 64, .inl fK2))])) (As := [.int (iZ 4), .int (iZ ((2 * a + 1 : Nat) : Int))]) (rest := []) K hP hD hK hS hA hl.1 (c_Mo_load l D mo (iZ 0) np ow om ok_ oK og on_ oh ox qn qf op_ ql fx2 fy2 cI fk2 fK2 v2 k2 4 (2 * a + 1) H.size w2 kb2 (by decide) (by omega)) [3, 4, 5, 6, 7] [0, 1, 2] [0] rfl rfl rfl (by decide) (by decide) (by decide) 0 rfl rfl (big_in mw_1238 rfl) (big_in mw_10 rfl) (big_in mw_1235 rfl) (big_in mw_1237 rfl) (big_in sp_31 rfl) rfl rfl (by decide +kernel) ⟨by rw [hR]; exact Nat.le_of_ble_eq_true rfl, by rw [hR]; exact Nat.le_of_ble_eq_true rfl⟩ rfl (Nat.le_of_ble_eq_true rfl) d_Mo_swap_42 ⟨by rw [hR]; exact Nat.le_of_ble_eq_true rfl, by rw [hR]; exact Nat.le_of_ble_eq_true rfl⟩ rfl (fun v u H locs hp8 hP hD hS _ => ?_)
      obtain ⟨fx3, fy3⟩ := u
      try dsimp only at hp8
      obtain ⟨rfl, w3⟩ := hp8
      have hP : va_P D cls0 [(oh, .inl (cI, 10000, .inl fh)), (og, .inl (cI, 32, .inl fs)), (on_, .inl (cI, 32, .inl fn)), (mo, .inr (8, [.int (iZ 0), .int (iZ (np : Int)), .ref ow, .ref om, .ref ok_, .ref oK, .ref og, .ref on_, .ref oh, .ref ox, .int qn, .int qf, .ref op_, .int ql])), (ow, .inl (cI, 108000, .inl fx3)), (om, .inl (cI, 9, .inl fy3)), (ok_, .inl (cI, 166400, .inl fk2)), (oK, .inl (cI, 64, .inl fK2))] H := hP
      have hD : va_D A [(oh, .inl (cI, 10000, .inl fh)), (og, .inl (cI, 32, .inl fs)), (on_, .inl (cI, 32, .inl fn)), (mo, .inr (8, [.int (iZ 0), .int (iZ (np : Int)), .ref ow, .ref om, .ref ok_, .ref oK, .ref og, .ref on_, .ref oh, .ref ox, .int qn, .int qf, .ref op_, .int ql])), (ow, .inl (cI, 108000, .inl fx3)), (om, .inl (cI, 9, .inl fy3)), (ok_, .inl (cI, 166400, .inl fk2)), (oK, .inl (cI, 64, .inl fK2))] := hD
      show W p l e R s m args below meth c H locs _ _ Q (F0 m 45 ls [])
      rw [k2a] at w3
      obtain ⟨v3, hv3⟩ : ∃ z, z = up v2 4 (bv a) := ⟨_, rfl⟩
      rw [← hv3] at w3
      refine lv_aload_n hx hb d_Mo_swap_45 rfl (lv_at hl 1 rfl) ?_
      refine lv_iconst (v := iZ (5)) hx hb d_Mo_swap_46 (by decide +kernel) ?_
      refine lv_iconst (v := iZ (2)) hx hb d_Mo_swap_47 (by decide +kernel) ?_
      refine lv_iload_n hx hb d_Mo_swap_48 rfl (lv_at hl 3 rfl) ?_
      refine zz_imul hx hb d_Mo_swap_49 ?_
      refine lv_iload_n hx hb d_Mo_swap_50 rfl (lv_at hl 0 rfl) ?_
      refine zz_iadd hx hb d_Mo_swap_51 ?_
      rw [show (2 * (b_ : Int) + (0 + 1) : Int) = ((2 * b_ + 1 : Nat) : Int) by omega]
      refine cv (n := 2) (wr := [(oh, .inl (cI, 10000, .inl fh)), (og, .inl (cI, 32, .inl fs)), (on_, .inl (cI, 32, .inl fn))]) (w1 := (fun (u : (Nat → Int32) × (Nat → Int32)) => [(mo, .inr (8, [.int (iZ 0), .int (iZ (np : Int)), .ref ow, .ref om, .ref ok_, .ref oK, .ref og, .ref on_, .ref oh, .ref ox, .int qn, .int qf, .ref op_, .int ql])), (ow, .inl (cI, 108000, .inl u.1)), (om, .inl (cI, 9, .inl u.2)), (ok_, .inl (cI, 166400, .inl fk2)), (oK, .inl (cI, 64, .inl fK2))])) (As := [.int (iZ 5), .int (iZ ((2 * b_ + 1 : Nat) : Int))]) (rest := []) K hP hD hK hS hA hl.1 (c_Mo_load l D mo (iZ 0) np ow om ok_ oK og on_ oh ox qn qf op_ ql fx3 fy3 cI fk2 fK2 v3 k2 5 (2 * b_ + 1) H.size w3 kb2 (by decide) (by omega)) [3, 4, 5, 6, 7] [0, 1, 2] [0] rfl rfl rfl (by decide) (by decide) (by decide) 0 rfl rfl (big_in mw_1238 rfl) (big_in mw_10 rfl) (big_in mw_1235 rfl) (big_in mw_1237 rfl) (big_in sp_31 rfl) rfl rfl (by decide +kernel) ⟨by rw [hR]; exact Nat.le_of_ble_eq_true rfl, by rw [hR]; exact Nat.le_of_ble_eq_true rfl⟩ rfl (Nat.le_of_ble_eq_true rfl) d_Mo_swap_52 ⟨by rw [hR]; exact Nat.le_of_ble_eq_true rfl, by rw [hR]; exact Nat.le_of_ble_eq_true rfl⟩ rfl (fun v u H locs hp9 hP hD hS _ => ?_)
      obtain ⟨fx4, fy4⟩ := u
      try dsimp only at hp9
      obtain ⟨rfl, w4⟩ := hp9
      have hP : va_P D cls0 [(oh, .inl (cI, 10000, .inl fh)), (og, .inl (cI, 32, .inl fs)), (on_, .inl (cI, 32, .inl fn)), (mo, .inr (8, [.int (iZ 0), .int (iZ (np : Int)), .ref ow, .ref om, .ref ok_, .ref oK, .ref og, .ref on_, .ref oh, .ref ox, .int qn, .int qf, .ref op_, .int ql])), (ow, .inl (cI, 108000, .inl fx4)), (om, .inl (cI, 9, .inl fy4)), (ok_, .inl (cI, 166400, .inl fk2)), (oK, .inl (cI, 64, .inl fK2))] H := hP
      have hD : va_D A [(oh, .inl (cI, 10000, .inl fh)), (og, .inl (cI, 32, .inl fs)), (on_, .inl (cI, 32, .inl fn)), (mo, .inr (8, [.int (iZ 0), .int (iZ (np : Int)), .ref ow, .ref om, .ref ok_, .ref oK, .ref og, .ref on_, .ref oh, .ref ox, .int qn, .int qf, .ref op_, .int ql])), (ow, .inl (cI, 108000, .inl fx4)), (om, .inl (cI, 9, .inl fy4)), (ok_, .inl (cI, 166400, .inl fk2)), (oK, .inl (cI, 64, .inl fK2))] := hD
      show W p l e R s m args below meth c H locs _ _ Q (F0 m 55 ls [])
      rw [k2b] at w4
      obtain ⟨v4, hv4⟩ : ∃ z, z = up v3 5 (bv b_) := ⟨_, rfl⟩
      rw [← hv4] at w4
      have y44 : v4 4 = bv a := by rw [hv4, up_n (by decide), hv3, up_s]
      have y45 : v4 5 = bv b_ := by rw [hv4, up_s]
      refine lv_aload_n hx hb d_Mo_swap_55 rfl (lv_at hl 1 rfl) ?_
      refine lv_iconst (v := iZ (2)) hx hb d_Mo_swap_56 (by decide +kernel) ?_
      refine lv_iload_n hx hb d_Mo_swap_57 rfl (lv_at hl 2 rfl) ?_
      refine zz_imul hx hb d_Mo_swap_58 ?_
      refine lv_iload_n hx hb d_Mo_swap_59 rfl (lv_at hl 0 rfl) ?_
      refine zz_iadd hx hb d_Mo_swap_60 ?_
      refine lv_iconst (v := iZ (5)) hx hb d_Mo_swap_61 (by decide +kernel) ?_
      rw [show (2 * (a : Int) + (0 + 1) : Int) = ((2 * a + 1 : Nat) : Int) by omega]
      refine cv (n := 2) (wr := [(oh, .inl (cI, 10000, .inl fh)), (og, .inl (cI, 32, .inl fs)), (on_, .inl (cI, 32, .inl fn))]) (w1 := (fun (u : (Nat → Int32) × (Nat → Int32)) => [(mo, .inr (8, [.int (iZ 0), .int (iZ (np : Int)), .ref ow, .ref om, .ref ok_, .ref oK, .ref og, .ref on_, .ref oh, .ref ox, .int qn, .int qf, .ref op_, .int ql])), (ow, .inl (cI, 108000, .inl fx4)), (om, .inl (cI, 9, .inl fy4)), (ok_, .inl (cI, 166400, .inl u.1)), (oK, .inl (cI, 64, .inl u.2))])) (As := [.int (iZ ((2 * a + 1 : Nat) : Int)), .int (iZ 5)]) (rest := []) K hP hD hK hS hA hl.1 (c_Mo_keep l D mo (iZ 0) np ow om ok_ oK og on_ oh ox qn qf op_ ql fx4 fy4 cI fk2 fK2 v4 k2 (2 * a + 1) 5 H.size w4 kb2 (by decide) (by omega) (by rw [y45]; exact hnb b_ t3_)) [3, 4, 5, 6, 7] [0, 1, 2] [0] rfl rfl rfl (by decide) (by decide) (by decide) 0 rfl rfl (big_in mw_1230 rfl) (big_in mw_10 rfl) (big_in mw_1227 rfl) (big_in mw_1229 rfl) (big_in sp_30 rfl) rfl rfl (by decide +kernel) ⟨by rw [hR]; exact Nat.le_of_ble_eq_true rfl, by rw [hR]; exact Nat.le_of_ble_eq_true rfl⟩ rfl (Nat.le_of_ble_eq_true rfl) d_Mo_swap_62 ⟨by rw [hR]; exact Nat.le_of_ble_eq_true rfl, by rw [hR]; exact Nat.le_of_ble_eq_true rfl⟩ rfl (fun v u H locs hp10 hP hD hS _ => ?_)
      obtain ⟨fk3, fK3⟩ := u
      try dsimp only at hp10
      obtain ⟨rfl, kb3⟩ := hp10
      have hP : va_P D cls0 [(oh, .inl (cI, 10000, .inl fh)), (og, .inl (cI, 32, .inl fs)), (on_, .inl (cI, 32, .inl fn)), (mo, .inr (8, [.int (iZ 0), .int (iZ (np : Int)), .ref ow, .ref om, .ref ok_, .ref oK, .ref og, .ref on_, .ref oh, .ref ox, .int qn, .int qf, .ref op_, .int ql])), (ow, .inl (cI, 108000, .inl fx4)), (om, .inl (cI, 9, .inl fy4)), (ok_, .inl (cI, 166400, .inl fk3)), (oK, .inl (cI, 64, .inl fK3))] H := hP
      have hD : va_D A [(oh, .inl (cI, 10000, .inl fh)), (og, .inl (cI, 32, .inl fs)), (on_, .inl (cI, 32, .inl fn)), (mo, .inr (8, [.int (iZ 0), .int (iZ (np : Int)), .ref ow, .ref om, .ref ok_, .ref oK, .ref og, .ref on_, .ref oh, .ref ox, .int qn, .int qf, .ref op_, .int ql])), (ow, .inl (cI, 108000, .inl fx4)), (om, .inl (cI, 9, .inl fy4)), (ok_, .inl (cI, 166400, .inl fk3)), (oK, .inl (cI, 64, .inl fK3))] := hD
      show W p l e R s m args below meth c H locs _ _ Q (F0 m 65 ls [])
      rw [y45] at kb3
      refine lv_aload_n hx hb d_Mo_swap_65 rfl (lv_at hl 1 rfl) ?_
      refine lv_iconst (v := iZ (2)) hx hb d_Mo_swap_66 (by decide +kernel) ?_
      refine lv_iload_n hx hb d_Mo_swap_67 rfl (lv_at hl 3 rfl) ?_
      refine zz_imul hx hb d_Mo_swap_68 ?_
      refine lv_iload_n hx hb d_Mo_swap_69 rfl (lv_at hl 0 rfl) ?_
      refine zz_iadd hx hb d_Mo_swap_70 ?_
      refine lv_iconst (v := iZ (4)) hx hb d_Mo_swap_71 (by decide +kernel) ?_
      rw [show (2 * (b_ : Int) + (0 + 1) : Int) = ((2 * b_ + 1 : Nat) : Int) by omega]
      refine cv (n := 2) (wr := [(oh, .inl (cI, 10000, .inl fh)), (og, .inl (cI, 32, .inl fs)), (on_, .inl (cI, 32, .inl fn))]) (w1 := (fun (u : (Nat → Int32) × (Nat → Int32)) => [(mo, .inr (8, [.int (iZ 0), .int (iZ (np : Int)), .ref ow, .ref om, .ref ok_, .ref oK, .ref og, .ref on_, .ref oh, .ref ox, .int qn, .int qf, .ref op_, .int ql])), (ow, .inl (cI, 108000, .inl fx4)), (om, .inl (cI, 9, .inl fy4)), (ok_, .inl (cI, 166400, .inl u.1)), (oK, .inl (cI, 64, .inl u.2))])) (As := [.int (iZ ((2 * b_ + 1 : Nat) : Int)), .int (iZ 4)]) (rest := []) K hP hD hK hS hA hl.1 (c_Mo_keep l D mo (iZ 0) np ow om ok_ oK og on_ oh ox qn qf op_ ql fx4 fy4 cI fk3 fK3 v4 (up (k2) (2 * a + 1) (bv b_)) (2 * b_ + 1) 4 H.size w4 kb3 (by decide) (by omega) (by rw [y44]; exact hnb a t2)) [3, 4, 5, 6, 7] [0, 1, 2] [0] rfl rfl rfl (by decide) (by decide) (by decide) 0 rfl rfl (big_in mw_1230 rfl) (big_in mw_10 rfl) (big_in mw_1227 rfl) (big_in mw_1229 rfl) (big_in sp_30 rfl) rfl rfl (by decide +kernel) ⟨by rw [hR]; exact Nat.le_of_ble_eq_true rfl, by rw [hR]; exact Nat.le_of_ble_eq_true rfl⟩ rfl (Nat.le_of_ble_eq_true rfl) d_Mo_swap_72 ⟨by rw [hR]; exact Nat.le_of_ble_eq_true rfl, by rw [hR]; exact Nat.le_of_ble_eq_true rfl⟩ rfl (fun v u H locs hp11 hP hD hS _ => ?_)
      obtain ⟨fk4, fK4⟩ := u
      try dsimp only at hp11
      obtain ⟨rfl, kb4⟩ := hp11
      have hP : va_P D cls0 [(oh, .inl (cI, 10000, .inl fh)), (og, .inl (cI, 32, .inl fs)), (on_, .inl (cI, 32, .inl fn)), (mo, .inr (8, [.int (iZ 0), .int (iZ (np : Int)), .ref ow, .ref om, .ref ok_, .ref oK, .ref og, .ref on_, .ref oh, .ref ox, .int qn, .int qf, .ref op_, .int ql])), (ow, .inl (cI, 108000, .inl fx4)), (om, .inl (cI, 9, .inl fy4)), (ok_, .inl (cI, 166400, .inl fk4)), (oK, .inl (cI, 64, .inl fK4))] H := hP
      have hD : va_D A [(oh, .inl (cI, 10000, .inl fh)), (og, .inl (cI, 32, .inl fs)), (on_, .inl (cI, 32, .inl fn)), (mo, .inr (8, [.int (iZ 0), .int (iZ (np : Int)), .ref ow, .ref om, .ref ok_, .ref oK, .ref og, .ref on_, .ref oh, .ref ox, .int qn, .int qf, .ref op_, .int ql])), (ow, .inl (cI, 108000, .inl fx4)), (om, .inl (cI, 9, .inl fy4)), (ok_, .inl (cI, 166400, .inl fk4)), (oK, .inl (cI, 64, .inl fK4))] := hD
      show W p l e R s m args below meth c H locs _ _ Q (F0 m 75 ls [])
      rw [y44] at kb4
      rw [hk2, kvf_sw] at kb4
      refine lv_iinc (v := iZ (0 + 1 + 1)) (lv' := [(3, .int (iZ (0 + 1 + 1))), (0, .ref mo), (1, .int (iZ (a : Int))), (2, .int (iZ (b_ : Int)))]) hx hb d_Mo_swap_75 hl (k := 0) rfl (iZ_add _ _) (by decide) rfl (fun ls hl => ?_)
      refine lv_goto (tgt := 30) hx hb d_Mo_swap_78 (by decide) ?_
      refine lv_iload_n hx hb d_Mo_swap_30 rfl (lv_at hl 0 rfl) ?_
      refine lv_iconst (v := iZ (2)) hx hb d_Mo_swap_31 (by decide +kernel) ?_
      refine zz_icmp_ge (tgt := 81) hx hb d_Mo_swap_32 (by decide) (by omega) (by omega) (fun c32 => ?_) (fun c32 => False.elim (by omega))
      refine lv_aload_n hx hb d_Mo_swap_81 rfl (lv_at hl 1 rfl) ?_
      refine va_get (D := D) (ci := 8) (v := .ref og) (C := R_Mo) (T := F_Mo) (N := 14) hx hb hts i_Mo hown hK hP 3 rfl rfl 6 (by decide) (hts _ (big_in mw_1121 rfl)) (fun _ h9 => h9) rfl d_Mo_swap_82 ?_
      refine lv_iload_n hx hb d_Mo_swap_85 rfl (lv_at hl 2 rfl) ?_
      refine zz_iald hx hb hK hP 1 0 rfl rfl (a) (by omega) (by omega) (by omega) d_Mo_swap_86 ?_
      refine lv_istore_n (lv' := [(3, .int (fs a)), (0, .ref mo), (1, .int (iZ (a : Int))), (2, .int (iZ (b_ : Int)))]) hx hb d_Mo_swap_87 rfl hl (by decide) rfl (fun ls hl => ?_)
      refine lv_aload_n hx hb d_Mo_swap_88 rfl (lv_at hl 1 rfl) ?_
      refine va_get (D := D) (ci := 8) (v := .ref og) (C := R_Mo) (T := F_Mo) (N := 14) hx hb hts i_Mo hown hK hP 3 rfl rfl 6 (by decide) (hts _ (big_in mw_1121 rfl)) (fun _ h9 => h9) rfl d_Mo_swap_89 ?_
      refine lv_iload_n hx hb d_Mo_swap_92 rfl (lv_at hl 2 rfl) ?_
      refine lv_aload_n hx hb d_Mo_swap_93 rfl (lv_at hl 1 rfl) ?_
      refine va_get (D := D) (ci := 8) (v := .ref og) (C := R_Mo) (T := F_Mo) (N := 14) hx hb hts i_Mo hown hK hP 3 rfl rfl 6 (by decide) (hts _ (big_in mw_1121 rfl)) (fun _ h9 => h9) rfl d_Mo_swap_94 ?_
      refine lv_iload_n hx hb d_Mo_swap_97 rfl (lv_at hl 3 rfl) ?_
      refine zz_iald hx hb hK hP 1 0 rfl rfl (b_) (by omega) (by omega) (by omega) d_Mo_swap_98 ?_
      refine zz_iast hx hb hK hP hD hS 1 0 rfl rfl (a) (by omega) (by omega) (by omega) d_Mo_swap_99 (fun H locs hP hD hS => ?_)
      have hP : va_P D cls0 [(oh, .inl (cI, 10000, .inl fh)), (og, .inl (cI, 32, .inl (upd fs a (fs b_)))), (on_, .inl (cI, 32, .inl fn)), (mo, .inr (8, [.int (iZ 0), .int (iZ (np : Int)), .ref ow, .ref om, .ref ok_, .ref oK, .ref og, .ref on_, .ref oh, .ref ox, .int qn, .int qf, .ref op_, .int ql])), (ow, .inl (cI, 108000, .inl fx4)), (om, .inl (cI, 9, .inl fy4)), (ok_, .inl (cI, 166400, .inl fk4)), (oK, .inl (cI, 64, .inl fK4))] H := hP
      have hD : va_D A [(oh, .inl (cI, 10000, .inl fh)), (og, .inl (cI, 32, .inl (upd fs a (fs b_)))), (on_, .inl (cI, 32, .inl fn)), (mo, .inr (8, [.int (iZ 0), .int (iZ (np : Int)), .ref ow, .ref om, .ref ok_, .ref oK, .ref og, .ref on_, .ref oh, .ref ox, .int qn, .int qf, .ref op_, .int ql])), (ow, .inl (cI, 108000, .inl fx4)), (om, .inl (cI, 9, .inl fy4)), (ok_, .inl (cI, 166400, .inl fk4)), (oK, .inl (cI, 64, .inl fK4))] := hD
      refine lv_aload_n hx hb d_Mo_swap_100 rfl (lv_at hl 1 rfl) ?_
      refine va_get (D := D) (ci := 8) (v := .ref og) (C := R_Mo) (T := F_Mo) (N := 14) hx hb hts i_Mo hown hK hP 3 rfl rfl 6 (by decide) (hts _ (big_in mw_1121 rfl)) (fun _ h9 => h9) rfl d_Mo_swap_101 ?_
      refine lv_iload_n hx hb d_Mo_swap_104 rfl (lv_at hl 3 rfl) ?_
      refine lv_iload_n hx hb d_Mo_swap_105 rfl (lv_at hl 0 rfl) ?_
      refine zz_iast hx hb hK hP hD hS 1 0 rfl rfl (b_) (by omega) (by omega) (by omega) d_Mo_swap_106 (fun H locs hP hD hS => ?_)
      have hP : va_P D cls0 [(oh, .inl (cI, 10000, .inl fh)), (og, .inl (cI, 32, .inl (upd (upd fs a (fs b_)) b_ (fs a)))), (on_, .inl (cI, 32, .inl fn)), (mo, .inr (8, [.int (iZ 0), .int (iZ (np : Int)), .ref ow, .ref om, .ref ok_, .ref oK, .ref og, .ref on_, .ref oh, .ref ox, .int qn, .int qf, .ref op_, .int ql])), (ow, .inl (cI, 108000, .inl fx4)), (om, .inl (cI, 9, .inl fy4)), (ok_, .inl (cI, 166400, .inl fk4)), (oK, .inl (cI, 64, .inl fK4))] H := hP
      have hD : va_D A [(oh, .inl (cI, 10000, .inl fh)), (og, .inl (cI, 32, .inl (upd (upd fs a (fs b_)) b_ (fs a)))), (on_, .inl (cI, 32, .inl fn)), (mo, .inr (8, [.int (iZ 0), .int (iZ (np : Int)), .ref ow, .ref om, .ref ok_, .ref oK, .ref og, .ref on_, .ref oh, .ref ox, .int qn, .int qf, .ref op_, .int ql])), (ow, .inl (cI, 108000, .inl fx4)), (om, .inl (cI, 9, .inl fy4)), (ok_, .inl (cI, 166400, .inl fk4)), (oK, .inl (cI, 64, .inl fK4))] := hD
      rw [upd_sw] at hP hD
      refine lv_aload_n hx hb d_Mo_swap_107 rfl (lv_at hl 1 rfl) ?_
      refine va_get (D := D) (ci := 8) (v := .ref on_) (C := R_Mo) (T := F_Mo) (N := 14) hx hb hts i_Mo hown hK hP 3 rfl rfl 7 (by decide) (hts _ (big_in mw_1122 rfl)) (fun _ h9 => h9) rfl d_Mo_swap_108 ?_
      refine lv_iload_n hx hb d_Mo_swap_111 rfl (lv_at hl 2 rfl) ?_
      refine zz_iald hx hb hK hP 2 0 rfl rfl (a) (by omega) (by omega) (by omega) d_Mo_swap_112 ?_
      refine lv_istore (lv' := [(4, .int (fn a)), (3, .int (fs a)), (0, .ref mo), (1, .int (iZ (a : Int))), (2, .int (iZ (b_ : Int)))]) hx hb d_Mo_swap_113 hl (by decide) rfl (fun ls hl => ?_)
      refine lv_aload_n hx hb d_Mo_swap_115 rfl (lv_at hl 2 rfl) ?_
      refine va_get (D := D) (ci := 8) (v := .ref on_) (C := R_Mo) (T := F_Mo) (N := 14) hx hb hts i_Mo hown hK hP 3 rfl rfl 7 (by decide) (hts _ (big_in mw_1122 rfl)) (fun _ h9 => h9) rfl d_Mo_swap_116 ?_
      refine lv_iload_n hx hb d_Mo_swap_119 rfl (lv_at hl 3 rfl) ?_
      refine lv_aload_n hx hb d_Mo_swap_120 rfl (lv_at hl 2 rfl) ?_
      refine va_get (D := D) (ci := 8) (v := .ref on_) (C := R_Mo) (T := F_Mo) (N := 14) hx hb hts i_Mo hown hK hP 3 rfl rfl 7 (by decide) (hts _ (big_in mw_1122 rfl)) (fun _ h9 => h9) rfl d_Mo_swap_121 ?_
      refine lv_iload_n hx hb d_Mo_swap_124 rfl (lv_at hl 4 rfl) ?_
      refine zz_iald hx hb hK hP 2 0 rfl rfl (b_) (by omega) (by omega) (by omega) d_Mo_swap_125 ?_
      refine zz_iast hx hb hK hP hD hS 2 0 rfl rfl (a) (by omega) (by omega) (by omega) d_Mo_swap_126 (fun H locs hP hD hS => ?_)
      have hP : va_P D cls0 [(oh, .inl (cI, 10000, .inl fh)), (og, .inl (cI, 32, .inl (sw fs a b_))), (on_, .inl (cI, 32, .inl (upd fn a (fn b_)))), (mo, .inr (8, [.int (iZ 0), .int (iZ (np : Int)), .ref ow, .ref om, .ref ok_, .ref oK, .ref og, .ref on_, .ref oh, .ref ox, .int qn, .int qf, .ref op_, .int ql])), (ow, .inl (cI, 108000, .inl fx4)), (om, .inl (cI, 9, .inl fy4)), (ok_, .inl (cI, 166400, .inl fk4)), (oK, .inl (cI, 64, .inl fK4))] H := hP
      have hD : va_D A [(oh, .inl (cI, 10000, .inl fh)), (og, .inl (cI, 32, .inl (sw fs a b_))), (on_, .inl (cI, 32, .inl (upd fn a (fn b_)))), (mo, .inr (8, [.int (iZ 0), .int (iZ (np : Int)), .ref ow, .ref om, .ref ok_, .ref oK, .ref og, .ref on_, .ref oh, .ref ox, .int qn, .int qf, .ref op_, .int ql])), (ow, .inl (cI, 108000, .inl fx4)), (om, .inl (cI, 9, .inl fy4)), (ok_, .inl (cI, 166400, .inl fk4)), (oK, .inl (cI, 64, .inl fK4))] := hD
      refine lv_aload_n hx hb d_Mo_swap_127 rfl (lv_at hl 2 rfl) ?_
      refine va_get (D := D) (ci := 8) (v := .ref on_) (C := R_Mo) (T := F_Mo) (N := 14) hx hb hts i_Mo hown hK hP 3 rfl rfl 7 (by decide) (hts _ (big_in mw_1122 rfl)) (fun _ h9 => h9) rfl d_Mo_swap_128 ?_
      refine lv_iload_n hx hb d_Mo_swap_131 rfl (lv_at hl 4 rfl) ?_
      refine lv_iload hx hb d_Mo_swap_132 (lv_at hl 0 rfl) ?_
      refine zz_iast hx hb hK hP hD hS 2 0 rfl rfl (b_) (by omega) (by omega) (by omega) d_Mo_swap_134 (fun H locs hP hD hS => ?_)
      have hP : va_P D cls0 [(oh, .inl (cI, 10000, .inl fh)), (og, .inl (cI, 32, .inl (sw fs a b_))), (on_, .inl (cI, 32, .inl (upd (upd fn a (fn b_)) b_ (fn a)))), (mo, .inr (8, [.int (iZ 0), .int (iZ (np : Int)), .ref ow, .ref om, .ref ok_, .ref oK, .ref og, .ref on_, .ref oh, .ref ox, .int qn, .int qf, .ref op_, .int ql])), (ow, .inl (cI, 108000, .inl fx4)), (om, .inl (cI, 9, .inl fy4)), (ok_, .inl (cI, 166400, .inl fk4)), (oK, .inl (cI, 64, .inl fK4))] H := hP
      have hD : va_D A [(oh, .inl (cI, 10000, .inl fh)), (og, .inl (cI, 32, .inl (sw fs a b_))), (on_, .inl (cI, 32, .inl (upd (upd fn a (fn b_)) b_ (fn a)))), (mo, .inr (8, [.int (iZ 0), .int (iZ (np : Int)), .ref ow, .ref om, .ref ok_, .ref oK, .ref og, .ref on_, .ref oh, .ref ox, .int qn, .int qf, .ref op_, .int ql])), (ow, .inl (cI, 108000, .inl fx4)), (om, .inl (cI, 9, .inl fy4)), (ok_, .inl (cI, 166400, .inl fk4)), (oK, .inl (cI, 64, .inl fK4))] := hD
      rw [upd_sw] at hP hD
      refine lv_aload_n hx hb d_Mo_swap_135 rfl (lv_at hl 2 rfl) ?_
      refine va_get (D := D) (ci := 8) (v := .ref on_) (C := R_Mo) (T := F_Mo) (N := 14) hx hb hts i_Mo hown hK hP 3 rfl rfl 7 (by decide) (hts _ (big_in mw_1122 rfl)) (fun _ h9 => h9) rfl d_Mo_swap_136 ?_
      refine lv_iload_n hx hb d_Mo_swap_139 rfl (lv_at hl 3 rfl) ?_
      refine zz_iald hx hb hK hP 2 0 rfl rfl (a) (by omega) (by omega) (by omega) d_Mo_swap_140 ?_
      rw [show sw fn a b_ a = iZ ((lm (tv b_) + lm (bv b_) : Nat) : Int) by rw [show sw fn a b_ a = fn b_ from if_pos rfl]; exact hMR.2.2 b_ t3_]
      have hP9 : va_P D cls0 [(mo, .inr (8, [.int (iZ 0), .int (iZ (np : Int)), .ref ow, .ref om, .ref ok_, .ref oK, .ref og, .ref on_, .ref oh, .ref ox, .int qn, .int qf, .ref op_, .int ql])), (ow, .inl (cI, 108000, .inl fx4)), (om, .inl (cI, 9, .inl fy4)), (oh, .inl (cI, 10000, .inl fh)), (ok_, .inl (cI, 166400, .inl fk4)), (oK, .inl (cI, 64, .inl fK4)), (og, .inl (cI, 32, .inl (sw fs a b_))), (on_, .inl (cI, 32, .inl (sw fn a b_)))] H := hP.sub [3, 4, 5, 0, 6, 7, 1, 2] rfl
      have hD9 : va_D A [(mo, .inr (8, [.int (iZ 0), .int (iZ (np : Int)), .ref ow, .ref om, .ref ok_, .ref oK, .ref og, .ref on_, .ref oh, .ref ox, .int qn, .int qf, .ref op_, .int ql])), (ow, .inl (cI, 108000, .inl fx4)), (om, .inl (cI, 9, .inl fy4)), (oh, .inl (cI, 10000, .inl fh)), (ok_, .inl (cI, 166400, .inl fk4)), (oK, .inl (cI, 64, .inl fK4)), (og, .inl (cI, 32, .inl (sw fs a b_))), (on_, .inl (cI, 32, .inl (sw fn a b_)))] := hD.sub [3, 4, 5, 0, 6, 7, 1, 2] (by decide) rfl
      rw [hQ, ← hAe]
      refine r_i (v := (iZ ((lm (tv b_) + lm (bv b_) : Nat) : Int))) K (fx4, fy4, fh, fk4, fK4, sw fs a b_, sw fn a b_, v4) hS d_Mo_swap_141 ?_ (fun t ht hv => ?_)
      · try dsimp only
        refine ⟨rfl, w4, kb4, fun q hq => ?_, fun q hq => ?_⟩
        · simp only [sw_I]; exact hMR.2.1 _ (swI_lt t2 t3_ hq)
        · simp only [sw_I]; exact hMR.2.2 _ (swI_lt t2 t3_ hq)
      · exact ⟨by rw [ht]; exact hP9, va_K.moved hv hK, by rw [← hAe]; exact hD9⟩
set_option maxHeartbeats 4000000 in
set_option maxRecDepth 100000 in
/-- Mo_swap refused with 1 -/
theorem r1_Mo_swap (l : Launch) (D : va_G) (mo : Nat) (qc : Int32) (np : Nat) (ow : Nat) (om : Nat) (ok_ : Nat) (oK : Nat) (og : Nat) (on_ : Nat) (oh : Nat) (ox : Nat) (qn : Int32) (qf : Int32) (op_ : Nat) (ql : Int32) (za : Int) (zb : Int) (sz : Nat) (hbad : (za < 0 ∨ 32 ≤ za) ∨ (zb < 0 ∨ 32 ≤ zb)) (hrng : -2147483648 ≤ za ∧ za < 2147483648 ∧ -2147483648 ≤ zb ∧ zb < 2147483648) : Met l y_Mo_swap (wsB y_Mo_swap b_Mo_swap 5 (some .int)) ({ frames := 1, cells := 0, slots := 0, locals := 21 }) (va_Pc [.ref mo, .int (iZ za), .int (iZ zb)] (wPre D [] [(mo, .inr (8, [.int qc, .int (iZ (np : Int)), .ref ow, .ref om, .ref ok_, .ref oK, .ref og, .ref on_, .ref oh, .ref ox, .int qn, .int qf, .ref op_, .int ql]))] sz)) (va_QV (fun (v_9 : Option Value) (u_9 : Unit) => v_9 = some (.int (iZ 0))) (fun u_9 => wPost D [] [(mo, .inr (8, [.int qc, .int (iZ (np : Int)), .ref ow, .ref om, .ref ok_, .ref oK, .ref og, .ref on_, .ref oh, .ref ox, .int qn, .int qf, .ref op_, .int ql]))] [(mo, .inr (8, [.int (iZ 1), .int (iZ (np : Int)), .ref ow, .ref om, .ref ok_, .ref oK, .ref og, .ref on_, .ref oh, .ref ox, .int qn, .int qf, .ref op_, .int ql]))] sz) (va_A [(mo, .inr (8, [.int qc, .int (iZ (np : Int)), .ref ow, .ref om, .ref ok_, .ref oK, .ref og, .ref on_, .ref oh, .ref ox, .int qn, .int qf, .ref op_, .int ql]))] sz)) 0 0 (va_A [(mo, .inr (8, [.int qc, .int (iZ (np : Int)), .ref ow, .ref om, .ref ok_, .ref oK, .ref og, .ref on_, .ref oh, .ref ox, .int qn, .int qf, .ref op_, .int ql]))] sz) := by
  refine met_enter (by decide +kernel) (Nat.le_of_ble_eq_true rfl) ?_
  intro p e s m args below meth c ls A R Q H locs K hin hAe hA hR hQ hP hK hD hS hl
  obtain ⟨hx, hb, hml, hrt, hlk, hts, hown, hno⟩ := id K
  have hl : lv_has ls 5 [(0, .ref mo), (1, .int (iZ za)), (2, .int (iZ zb))] := hl
  refine lv_aload_n hx hb d_Mo_swap_0 rfl (lv_at hl 0 rfl) ?_
  refine lv_iload_n hx hb d_Mo_swap_1 rfl (lv_at hl 1 rfl) ?_
  refine cs (n := 1) (wr := [(mo, .inr (8, [.int qc, .int (iZ (np : Int)), .ref ow, .ref om, .ref ok_, .ref oK, .ref og, .ref on_, .ref oh, .ref ox, .int qn, .int qf, .ref op_, .int ql]))]) (w1 := (fun (u : Int) => [])) (As := [.int (iZ za)]) (rest := [.ref mo]) K hP hD hK hS hA hl.1 (c_Mo_isRegister l D za H.size (by omega)) [] [0] [] rfl rfl rfl (by decide) (by decide) (by decide) (big_in mw_1172 rfl) (big_in mw_10 rfl) (big_in mw_1170 rfl) (big_in mw_1171 rfl) rfl rfl (by decide +kernel) ⟨by rw [hR]; exact Nat.le_of_ble_eq_true rfl, by rw [hR]; exact Nat.le_of_ble_eq_true rfl⟩ rfl (Nat.le_of_ble_eq_true rfl) d_Mo_swap_2 ⟨by rw [hR]; exact Nat.le_of_ble_eq_true rfl, by rw [hR]; exact Nat.le_of_ble_eq_true rfl⟩ rfl (fun v u H locs hp1 hP hD hS _ => ?_)
  obtain ⟨r2, rfl⟩ : ∃ z, z = u := ⟨_, rfl⟩
  obtain ⟨rfl, p2⟩ := hp1
  have hP : va_P D cls0 [(mo, .inr (8, [.int qc, .int (iZ (np : Int)), .ref ow, .ref om, .ref ok_, .ref oK, .ref og, .ref on_, .ref oh, .ref ox, .int qn, .int qf, .ref op_, .int ql]))] H := hP
  have hD : va_D A [(mo, .inr (8, [.int qc, .int (iZ (np : Int)), .ref ow, .ref om, .ref ok_, .ref oK, .ref og, .ref on_, .ref oh, .ref ox, .int qn, .int qf, .ref op_, .int ql]))] := hD
  show W p l e R s m args below meth c H locs _ _ Q (F0 m 5 ls [.int (iZ r2), .ref mo])
  have b2 : 0 ≤ r2 ∧ r2 ≤ 1 := by omega
  refine zz_if_eq (tgt := 19) hx hb d_Mo_swap_5 (by decide) (by omega) (fun c5 => ?_) (fun c5 => ?_)
  · refine lv_iconst (v := iZ (1)) hx hb d_Mo_swap_19 (by decide +kernel) ?_
    refine cv (n := 1) (wr := []) (w1 := (fun (u : Int) => [(mo, .inr (8, [.int (iZ 1), .int (iZ (np : Int)), .ref ow, .ref om, .ref ok_, .ref oK, .ref og, .ref on_, .ref oh, .ref ox, .int qn, .int qf, .ref op_, .int ql]))])) (As := [.int (iZ 1)]) (rest := []) K hP hD hK hS hA hl.1 (c_Mo_refuses l D mo qc np ow om ok_ oK og on_ oh ox qn qf op_ ql 1 H.size (by omega)) [0] [] [] rfl rfl rfl (by decide) (by decide) (by decide) 0 rfl rfl (big_in mw_1176 rfl) (big_in mw_10 rfl) (big_in mw_1173 rfl) (big_in mw_1175 rfl) (big_in sp_18 rfl) rfl rfl (by decide +kernel) ⟨by rw [hR]; exact Nat.le_of_ble_eq_true rfl, by rw [hR]; exact Nat.le_of_ble_eq_true rfl⟩ rfl (Nat.le_of_ble_eq_true rfl) d_Mo_swap_20 ⟨by rw [hR]; exact Nat.le_of_ble_eq_true rfl, by rw [hR]; exact Nat.le_of_ble_eq_true rfl⟩ rfl (fun v u H locs hp2 hP hD hS _ => ?_)
    obtain ⟨rf, rfl⟩ : ∃ z, z = u := ⟨_, rfl⟩
    obtain ⟨rfl, prf⟩ := hp2
    have hP : va_P D cls0 [(mo, .inr (8, [.int (iZ 1), .int (iZ (np : Int)), .ref ow, .ref om, .ref ok_, .ref oK, .ref og, .ref on_, .ref oh, .ref ox, .int qn, .int qf, .ref op_, .int ql]))] H := hP
    have hD : va_D A [(mo, .inr (8, [.int (iZ 1), .int (iZ (np : Int)), .ref ow, .ref om, .ref ok_, .ref oK, .ref og, .ref on_, .ref oh, .ref ox, .int qn, .int qf, .ref op_, .int ql]))] := hD
    show W p l e R s m args below meth c H locs _ _ Q (F0 m 23 ls [.int (iZ rf)])
    refine zz_if_eq (tgt := 28) hx hb d_Mo_swap_23 (by decide) (by omega) (fun c23 => False.elim (by omega)) (fun c23 => ?_)
    refine lv_iconst (v := iZ (0)) hx hb d_Mo_swap_26 (by decide +kernel) ?_
    have hP9 : va_P D cls0 [(mo, .inr (8, [.int (iZ 1), .int (iZ (np : Int)), .ref ow, .ref om, .ref ok_, .ref oK, .ref og, .ref on_, .ref oh, .ref ox, .int qn, .int qf, .ref op_, .int ql]))] H := hP.sub [0] rfl
    have hD9 : va_D A [(mo, .inr (8, [.int (iZ 1), .int (iZ (np : Int)), .ref ow, .ref om, .ref ok_, .ref oK, .ref og, .ref on_, .ref oh, .ref ox, .int qn, .int qf, .ref op_, .int ql]))] := hD.sub [0] (by decide) rfl
    rw [hQ, ← hAe]
    refine r_i (v := (iZ 0)) K () hS d_Mo_swap_27 ?_ (fun t ht hv => ?_)
    · exact rfl
    · exact ⟨by rw [ht]; exact hP9, va_K.moved hv hK, by rw [← hAe]; exact hD9⟩
  · refine lv_iload_n hx hb d_Mo_swap_8 rfl (lv_at hl 2 rfl) ?_
    refine cs (n := 1) (wr := [(mo, .inr (8, [.int qc, .int (iZ (np : Int)), .ref ow, .ref om, .ref ok_, .ref oK, .ref og, .ref on_, .ref oh, .ref ox, .int qn, .int qf, .ref op_, .int ql]))]) (w1 := (fun (u : Int) => [])) (As := [.int (iZ zb)]) (rest := [.ref mo]) K hP hD hK hS hA hl.1 (c_Mo_isRegister l D zb H.size (by omega)) [] [0] [] rfl rfl rfl (by decide) (by decide) (by decide) (big_in mw_1172 rfl) (big_in mw_10 rfl) (big_in mw_1170 rfl) (big_in mw_1171 rfl) rfl rfl (by decide +kernel) ⟨by rw [hR]; exact Nat.le_of_ble_eq_true rfl, by rw [hR]; exact Nat.le_of_ble_eq_true rfl⟩ rfl (Nat.le_of_ble_eq_true rfl) d_Mo_swap_9 ⟨by rw [hR]; exact Nat.le_of_ble_eq_true rfl, by rw [hR]; exact Nat.le_of_ble_eq_true rfl⟩ rfl (fun v u H locs hp3 hP hD hS _ => ?_)
    obtain ⟨r9, rfl⟩ : ∃ z, z = u := ⟨_, rfl⟩
    obtain ⟨rfl, p9⟩ := hp3
    have hP : va_P D cls0 [(mo, .inr (8, [.int qc, .int (iZ (np : Int)), .ref ow, .ref om, .ref ok_, .ref oK, .ref og, .ref on_, .ref oh, .ref ox, .int qn, .int qf, .ref op_, .int ql]))] H := hP
    have hD : va_D A [(mo, .inr (8, [.int qc, .int (iZ (np : Int)), .ref ow, .ref om, .ref ok_, .ref oK, .ref og, .ref on_, .ref oh, .ref ox, .int qn, .int qf, .ref op_, .int ql]))] := hD
    show W p l e R s m args below meth c H locs _ _ Q (F0 m 12 ls [.int (iZ r9), .ref mo])
    have b9 : 0 ≤ r9 ∧ r9 ≤ 1 := by omega
    refine zz_if_eq (tgt := 19) hx hb d_Mo_swap_12 (by decide) (by omega) (fun c12 => ?_) (fun c12 => ?_)
    · refine lv_iconst (v := iZ (1)) hx hb d_Mo_swap_19 (by decide +kernel) ?_
      refine cv (n := 1) (wr := []) (w1 := (fun (u : Int) => [(mo, .inr (8, [.int (iZ 1), .int (iZ (np : Int)), .ref ow, .ref om, .ref ok_, .ref oK, .ref og, .ref on_, .ref oh, .ref ox, .int qn, .int qf, .ref op_, .int ql]))])) (As := [.int (iZ 1)]) (rest := []) K hP hD hK hS hA hl.1 (c_Mo_refuses l D mo qc np ow om ok_ oK og on_ oh ox qn qf op_ ql 1 H.size (by omega)) [0] [] [] rfl rfl rfl (by decide) (by decide) (by decide) 0 rfl rfl (big_in mw_1176 rfl) (big_in mw_10 rfl) (big_in mw_1173 rfl) (big_in mw_1175 rfl) (big_in sp_18 rfl) rfl rfl (by decide +kernel) ⟨by rw [hR]; exact Nat.le_of_ble_eq_true rfl, by rw [hR]; exact Nat.le_of_ble_eq_true rfl⟩ rfl (Nat.le_of_ble_eq_true rfl) d_Mo_swap_20 ⟨by rw [hR]; exact Nat.le_of_ble_eq_true rfl, by rw [hR]; exact Nat.le_of_ble_eq_true rfl⟩ rfl (fun v u H locs hp4 hP hD hS _ => ?_)
      obtain ⟨rf, rfl⟩ : ∃ z, z = u := ⟨_, rfl⟩
      obtain ⟨rfl, prf⟩ := hp4
      have hP : va_P D cls0 [(mo, .inr (8, [.int (iZ 1), .int (iZ (np : Int)), .ref ow, .ref om, .ref ok_, .ref oK, .ref og, .ref on_, .ref oh, .ref ox, .int qn, .int qf, .ref op_, .int ql]))] H := hP
      have hD : va_D A [(mo, .inr (8, [.int (iZ 1), .int (iZ (np : Int)), .ref ow, .ref om, .ref ok_, .ref oK, .ref og, .ref on_, .ref oh, .ref ox, .int qn, .int qf, .ref op_, .int ql]))] := hD
      show W p l e R s m args below meth c H locs _ _ Q (F0 m 23 ls [.int (iZ rf)])
      refine zz_if_eq (tgt := 28) hx hb d_Mo_swap_23 (by decide) (by omega) (fun c23 => False.elim (by omega)) (fun c23 => ?_)
      refine lv_iconst (v := iZ (0)) hx hb d_Mo_swap_26 (by decide +kernel) ?_
      have hP9 : va_P D cls0 [(mo, .inr (8, [.int (iZ 1), .int (iZ (np : Int)), .ref ow, .ref om, .ref ok_, .ref oK, .ref og, .ref on_, .ref oh, .ref ox, .int qn, .int qf, .ref op_, .int ql]))] H := hP.sub [0] rfl
      have hD9 : va_D A [(mo, .inr (8, [.int (iZ 1), .int (iZ (np : Int)), .ref ow, .ref om, .ref ok_, .ref oK, .ref og, .ref on_, .ref oh, .ref ox, .int qn, .int qf, .ref op_, .int ql]))] := hD.sub [0] (by decide) rfl
      rw [hQ, ← hAe]
      refine r_i (v := (iZ 0)) K () hS d_Mo_swap_27 ?_ (fun t ht hv => ?_)
      · exact rfl
      · exact ⟨by rw [ht]; exact hP9, va_K.moved hv hK, by rw [← hAe]; exact hD9⟩
    · refine lv_iconst (v := iZ (0)) hx hb d_Mo_swap_15 (by decide +kernel) ?_
      refine lv_goto (tgt := 20) hx hb d_Mo_swap_16 (by decide) ?_
      exfalso
      omega
set_option maxHeartbeats 4000000 in
set_option maxRecDepth 100000 in
/-- floor(to, a) -/
theorem c_Mo_floor (l : Launch) (D : va_G) (mo : Nat) (qc : Int32) (np : Nat) (ow : Nat) (om : Nat) (ok_ : Nat) (oK : Nat) (og : Nat) (on_ : Nat) (oh : Nat) (ox : Nat) (qn : Int32) (qf : Int32) (op_ : Nat) (ql : Int32) (fw : Nat → Int32) (fm : Nat → Int32) (cI : ClassId) (fh : Nat → Int32) (fk : Nat → Int32) (fK : Nat → Int32) (fs : Nat → Int32) (fn : Nat → Int32) (val : Nat → Nat) (tv : Nat → Nat) (bv : Nat → Nat) (sg : Nat → Int) (to : Nat) (a : Nat) (sz : Nat) (hW : WB fw fm val) (hMR : MoR fk fK fs fn tv bv sg) (hnd : ndS tv bv 32 ≤ np) (hnp : np ≤ 1024) (J : RgC tv bv sg) (hbv : ∀ r, r < 32 → 0 < bv r) (t1 : to < 32) (t2 : a < 32) (hfit : ndS tv bv 32 + (lm (flN (tv a) (bv a) (sg a)) + lm (1)) ≤ np + (lm (tv to) + lm (bv to))) : Met l y_Mo_floor (wsB y_Mo_floor b_Mo_floor 3 (some .int)) ({ frames := 4, cells := 0, slots := 0, locals := 93 }) (va_Pc [.ref mo, .int (iZ (to : Int)), .int (iZ (a : Int))] (wPre D [(cI, .int)] [(mo, .inr (8, [.int qc, .int (iZ (np : Int)), .ref ow, .ref om, .ref ok_, .ref oK, .ref og, .ref on_, .ref oh, .ref ox, .int qn, .int qf, .ref op_, .int ql])), (ow, .inl (cI, 108000, .inl fw)), (om, .inl (cI, 9, .inl fm)), (oh, .inl (cI, 10000, .inl fh)), (ok_, .inl (cI, 166400, .inl fk)), (oK, .inl (cI, 64, .inl fK)), (og, .inl (cI, 32, .inl fs)), (on_, .inl (cI, 32, .inl fn))] sz)) (va_QV (fun (v_9 : Option Value) (u_9 : (Nat → Int32) × (Nat → Int32) × (Nat → Int32) × (Nat → Int32) × (Nat → Int32) × (Nat → Int32) × (Nat → Int32) × (Nat → Nat)) => v_9 = some (.int (iZ ((lm (flN (tv a) (bv a) (sg a)) : Int) + (lm (1) : Int)))) ∧ (WB u_9.1 u_9.2.1 u_9.2.2.2.2.2.2.2) ∧ (MoR u_9.2.2.2.1 u_9.2.2.2.2.1 u_9.2.2.2.2.2.1 u_9.2.2.2.2.2.2.1 (up tv to (flN (tv a) (bv a) (sg a))) (up bv to (1)) (up sg to (if flN (tv a) (bv a) (sg a) = 0 then 0 else sg a)))) (fun u_9 => wPost D [(cI, .int)] [(mo, .inr (8, [.int qc, .int (iZ (np : Int)), .ref ow, .ref om, .ref ok_, .ref oK, .ref og, .ref on_, .ref oh, .ref ox, .int qn, .int qf, .ref op_, .int ql])), (ow, .inl (cI, 108000, .inl fw)), (om, .inl (cI, 9, .inl fm)), (oh, .inl (cI, 10000, .inl fh)), (ok_, .inl (cI, 166400, .inl fk)), (oK, .inl (cI, 64, .inl fK)), (og, .inl (cI, 32, .inl fs)), (on_, .inl (cI, 32, .inl fn))] [(mo, .inr (8, [.int (iZ 0), .int (iZ (np : Int)), .ref ow, .ref om, .ref ok_, .ref oK, .ref og, .ref on_, .ref oh, .ref ox, .int qn, .int qf, .ref op_, .int ql])), (ow, .inl (cI, 108000, .inl u_9.1)), (om, .inl (cI, 9, .inl u_9.2.1)), (oh, .inl (cI, 10000, .inl u_9.2.2.1)), (ok_, .inl (cI, 166400, .inl u_9.2.2.2.1)), (oK, .inl (cI, 64, .inl u_9.2.2.2.2.1)), (og, .inl (cI, 32, .inl u_9.2.2.2.2.2.1)), (on_, .inl (cI, 32, .inl u_9.2.2.2.2.2.2.1))] sz) (va_A [(mo, .inr (8, [.int qc, .int (iZ (np : Int)), .ref ow, .ref om, .ref ok_, .ref oK, .ref og, .ref on_, .ref oh, .ref ox, .int qn, .int qf, .ref op_, .int ql])), (ow, .inl (cI, 108000, .inl fw)), (om, .inl (cI, 9, .inl fm)), (oh, .inl (cI, 10000, .inl fh)), (ok_, .inl (cI, 166400, .inl fk)), (oK, .inl (cI, 64, .inl fK)), (og, .inl (cI, 32, .inl fs)), (on_, .inl (cI, 32, .inl fn))] sz)) 0 0 (va_A [(mo, .inr (8, [.int qc, .int (iZ (np : Int)), .ref ow, .ref om, .ref ok_, .ref oK, .ref og, .ref on_, .ref oh, .ref ox, .int qn, .int qf, .ref op_, .int ql])), (ow, .inl (cI, 108000, .inl fw)), (om, .inl (cI, 9, .inl fm)), (oh, .inl (cI, 10000, .inl fh)), (ok_, .inl (cI, 166400, .inl fk)), (oK, .inl (cI, 64, .inl fK)), (og, .inl (cI, 32, .inl fs)), (on_, .inl (cI, 32, .inl fn))] sz) := by
  refine met_enter (by decide +kernel) (Nat.le_of_ble_eq_true rfl) ?_
  intro p e s m args below meth c ls A R Q H locs K hin hAe hA hR hQ hP hK hD hS hl
  obtain ⟨hx, hb, hml, hrt, hlk, hts, hown, hno⟩ := id K
  have hl : lv_has ls 3 [(0, .ref mo), (1, .int (iZ (to : Int))), (2, .int (iZ (a : Int)))] := hl
  have hlr : ∀ q, q < 32 → lm (tv q) + lm (bv q) ≤ 1024 := fun q hq => by have z := ndS_le (tv := tv) (bv := bv) hq; omega
  have hnt : ∀ q, q < 32 → nd (tv q) ≤ 2600 := fun q hq => by have z := nd_lm (v := tv q) (L := 1024) (by have y := hlr q hq; omega); omega
  have hnb : ∀ q, q < 32 → nd (bv q) ≤ 2600 := fun q hq => by have z := nd_lm (v := bv q) (L := 1024) (by have y := hlr q hq; omega); omega
  obtain ⟨ja1, ja2, ja3⟩ := J a (by omega)
  have pa := hbv a (by omega)
  have la := hlr a (by omega)
  have n1 := hnt a (by omega)
  have n2 := hnb a (by omega)
  refine lv_aload_n hx hb d_Mo_floor_0 rfl (lv_at hl 0 rfl) ?_
  refine lv_iload_n hx hb d_Mo_floor_1 rfl (lv_at hl 1 rfl) ?_
  refine cs (n := 1) (wr := [(mo, .inr (8, [.int qc, .int (iZ (np : Int)), .ref ow, .ref om, .ref ok_, .ref oK, .ref og, .ref on_, .ref oh, .ref ox, .int qn, .int qf, .ref op_, .int ql])), (ow, .inl (cI, 108000, .inl fw)), (om, .inl (cI, 9, .inl fm)), (oh, .inl (cI, 10000, .inl fh)), (ok_, .inl (cI, 166400, .inl fk)), (oK, .inl (cI, 64, .inl fK)), (og, .inl (cI, 32, .inl fs)), (on_, .inl (cI, 32, .inl fn))]) (w1 := (fun (u : Int) => [])) (As := [.int (iZ (to : Int))]) (rest := [.ref mo]) K hP hD hK hS hA hl.1 (c_Mo_isRegister l D (to : Int) H.size (by omega)) [] [0, 1, 2, 3, 4, 5, 6, 7] [] rfl rfl rfl (by decide) (by decide) (by decide) (big_in mw_1172 rfl) (big_in mw_10 rfl) (big_in mw_1170 rfl) (big_in mw_1171 rfl) rfl rfl (by decide +kernel) ⟨by rw [hR]; exact Nat.le_of_ble_eq_true rfl, by rw [hR]; exact Nat.le_of_ble_eq_true rfl⟩ rfl (Nat.le_of_ble_eq_true rfl) d_Mo_floor_2 ⟨by rw [hR]; exact Nat.le_of_ble_eq_true rfl, by rw [hR]; exact Nat.le_of_ble_eq_true rfl⟩ rfl (fun v u H locs hp1 hP hD hS _ => ?_)
  obtain ⟨r2, rfl⟩ : ∃ z, z = u := ⟨_, rfl⟩
  obtain ⟨rfl, p2⟩ := hp1
  have hP : va_P D cls0 [(mo, .inr (8, [.int qc, .int (iZ (np : Int)), .ref ow, .ref om, .ref ok_, .ref oK, .ref og, .ref on_, .ref oh, .ref ox, .int qn, .int qf, .ref op_, .int ql])), (ow, .inl (cI, 108000, .inl fw)), (om, .inl (cI, 9, .inl fm)), (oh, .inl (cI, 10000, .inl fh)), (ok_, .inl (cI, 166400, .inl fk)), (oK, .inl (cI, 64, .inl fK)), (og, .inl (cI, 32, .inl fs)), (on_, .inl (cI, 32, .inl fn))] H := hP
  have hD : va_D A [(mo, .inr (8, [.int qc, .int (iZ (np : Int)), .ref ow, .ref om, .ref ok_, .ref oK, .ref og, .ref on_, .ref oh, .ref ox, .int qn, .int qf, .ref op_, .int ql])), (ow, .inl (cI, 108000, .inl fw)), (om, .inl (cI, 9, .inl fm)), (oh, .inl (cI, 10000, .inl fh)), (ok_, .inl (cI, 166400, .inl fk)), (oK, .inl (cI, 64, .inl fK)), (og, .inl (cI, 32, .inl fs)), (on_, .inl (cI, 32, .inl fn))] := hD
  show W p l e R s m args below meth c H locs _ _ Q (F0 m 5 ls [.int (iZ r2), .ref mo])
  have b2 : 0 ≤ r2 ∧ r2 ≤ 1 := by omega
  refine zz_if_eq (tgt := 19) hx hb d_Mo_floor_5 (by decide) (by omega) (fun c5 => ?_) (fun c5 => ?_)
  · refine lv_iconst (v := iZ (1)) hx hb d_Mo_floor_19 (by decide +kernel) ?_
    exfalso
    omega
  · refine lv_iload_n hx hb d_Mo_floor_8 rfl (lv_at hl 2 rfl) ?_
    refine cs (n := 1) (wr := [(mo, .inr (8, [.int qc, .int (iZ (np : Int)), .ref ow, .ref om, .ref ok_, .ref oK, .ref og, .ref on_, .ref oh, .ref ox, .int qn, .int qf, .ref op_, .int ql])), (ow, .inl (cI, 108000, .inl fw)), (om, .inl (cI, 9, .inl fm)), (oh, .inl (cI, 10000, .inl fh)), (ok_, .inl (cI, 166400, .inl fk)), (oK, .inl (cI, 64, .inl fK)), (og, .inl (cI, 32, .inl fs)), (on_, .inl (cI, 32, .inl fn))]) (w1 := (fun (u : Int) => [])) (As := [.int (iZ (a : Int))]) (rest := [.ref mo]) K hP hD hK hS hA hl.1 (c_Mo_isRegister l D (a : Int) H.size (by omega)) [] [0, 1, 2, 3, 4, 5, 6, 7] [] rfl rfl rfl (by decide) (by decide) (by decide) (big_in mw_1172 rfl) (big_in mw_10 rfl) (big_in mw_1170 rfl) (big_in mw_1171 rfl) rfl rfl (by decide +kernel) ⟨by rw [hR]; exact Nat.le_of_ble_eq_true rfl, by rw [hR]; exact Nat.le_of_ble_eq_true rfl⟩ rfl (Nat.le_of_ble_eq_true rfl) d_Mo_floor_9 ⟨by rw [hR]; exact Nat.le_of_ble_eq_true rfl, by rw [hR]; exact Nat.le_of_ble_eq_true rfl⟩ rfl (fun v u H locs hp2 hP hD hS _ => ?_)
    obtain ⟨r9, rfl⟩ : ∃ z, z = u := ⟨_, rfl⟩
    obtain ⟨rfl, p9⟩ := hp2
    have hP : va_P D cls0 [(mo, .inr (8, [.int qc, .int (iZ (np : Int)), .ref ow, .ref om, .ref ok_, .ref oK, .ref og, .ref on_, .ref oh, .ref ox, .int qn, .int qf, .ref op_, .int ql])), (ow, .inl (cI, 108000, .inl fw)), (om, .inl (cI, 9, .inl fm)), (oh, .inl (cI, 10000, .inl fh)), (ok_, .inl (cI, 166400, .inl fk)), (oK, .inl (cI, 64, .inl fK)), (og, .inl (cI, 32, .inl fs)), (on_, .inl (cI, 32, .inl fn))] H := hP
    have hD : va_D A [(mo, .inr (8, [.int qc, .int (iZ (np : Int)), .ref ow, .ref om, .ref ok_, .ref oK, .ref og, .ref on_, .ref oh, .ref ox, .int qn, .int qf, .ref op_, .int ql])), (ow, .inl (cI, 108000, .inl fw)), (om, .inl (cI, 9, .inl fm)), (oh, .inl (cI, 10000, .inl fh)), (ok_, .inl (cI, 166400, .inl fk)), (oK, .inl (cI, 64, .inl fK)), (og, .inl (cI, 32, .inl fs)), (on_, .inl (cI, 32, .inl fn))] := hD
    show W p l e R s m args below meth c H locs _ _ Q (F0 m 12 ls [.int (iZ r9), .ref mo])
    have b9 : 0 ≤ r9 ∧ r9 ≤ 1 := by omega
    refine zz_if_eq (tgt := 19) hx hb d_Mo_floor_12 (by decide) (by omega) (fun c12 => ?_) (fun c12 => ?_)
    · refine lv_iconst (v := iZ (1)) hx hb d_Mo_floor_19 (by decide +kernel) ?_
      exfalso
      omega
    · refine lv_iconst (v := iZ (0)) hx hb d_Mo_floor_15 (by decide +kernel) ?_
      refine lv_goto (tgt := 20) hx hb d_Mo_floor_16 (by decide) ?_
      refine cv (n := 1) (wr := [(ow, .inl (cI, 108000, .inl fw)), (om, .inl (cI, 9, .inl fm)), (oh, .inl (cI, 10000, .inl fh)), (ok_, .inl (cI, 166400, .inl fk)), (oK, .inl (cI, 64, .inl fK)), (og, .inl (cI, 32, .inl fs)), (on_, .inl (cI, 32, .inl fn))]) (w1 := (fun (u : Int) => [(mo, .inr (8, [.int (iZ 0), .int (iZ (np : Int)), .ref ow, .ref om, .ref ok_, .ref oK, .ref og, .ref on_, .ref oh, .ref ox, .int qn, .int qf, .ref op_, .int ql]))])) (As := [.int (iZ 0)]) (rest := []) K hP hD hK hS hA hl.1 (c_Mo_refuses l D mo qc np ow om ok_ oK og on_ oh ox qn qf op_ ql 0 H.size (by omega)) [0] [1, 2, 3, 4, 5, 6, 7] [] rfl rfl rfl (by decide) (by decide) (by decide) 0 rfl rfl (big_in mw_1176 rfl) (big_in mw_10 rfl) (big_in mw_1173 rfl) (big_in mw_1175 rfl) (big_in sp_18 rfl) rfl rfl (by decide +kernel) ⟨by rw [hR]; exact Nat.le_of_ble_eq_true rfl, by rw [hR]; exact Nat.le_of_ble_eq_true rfl⟩ rfl (Nat.le_of_ble_eq_true rfl) d_Mo_floor_20 ⟨by rw [hR]; exact Nat.le_of_ble_eq_true rfl, by rw [hR]; exact Nat.le_of_ble_eq_true rfl⟩ rfl (fun v u H locs hp3 hP hD hS _ => ?_)
      obtain ⟨rf, rfl⟩ : ∃ z, z = u := ⟨_, rfl⟩
      obtain ⟨rfl, prf⟩ := hp3
      have hP : va_P D cls0 [(ow, .inl (cI, 108000, .inl fw)), (om, .inl (cI, 9, .inl fm)), (oh, .inl (cI, 10000, .inl fh)), (ok_, .inl (cI, 166400, .inl fk)), (oK, .inl (cI, 64, .inl fK)), (og, .inl (cI, 32, .inl fs)), (on_, .inl (cI, 32, .inl fn)), (mo, .inr (8, [.int (iZ 0), .int (iZ (np : Int)), .ref ow, .ref om, .ref ok_, .ref oK, .ref og, .ref on_, .ref oh, .ref ox, .int qn, .int qf, .ref op_, .int ql]))] H := hP
      have hD : va_D A [(ow, .inl (cI, 108000, .inl fw)), (om, .inl (cI, 9, .inl fm)), (oh, .inl (cI, 10000, .inl fh)), (ok_, .inl (cI, 166400, .inl fk)), (oK, .inl (cI, 64, .inl fK)), (og, .inl (cI, 32, .inl fs)), (on_, .inl (cI, 32, .inl fn)), (mo, .inr (8, [.int (iZ 0), .int (iZ (np : Int)), .ref ow, .ref om, .ref ok_, .ref oK, .ref og, .ref on_, .ref oh, .ref ox, .int qn, .int qf, .ref op_, .int ql]))] := hD
      show W p l e R s m args below meth c H locs _ _ Q (F0 m 23 ls [.int (iZ rf)])
      refine zz_if_eq (tgt := 28) hx hb d_Mo_floor_23 (by decide) (by omega) (fun c23 => ?_) (fun c23 => False.elim (by omega))
      refine lv_aload_n hx hb d_Mo_floor_28 rfl (lv_at hl 0 rfl) ?_
      refine lv_iconst (v := iZ (0)) hx hb d_Mo_floor_29 (by decide +kernel) ?_
      refine lv_iconst (v := iZ (2)) hx hb d_Mo_floor_30 (by decide +kernel) ?_
      refine lv_iload_n hx hb d_Mo_floor_31 rfl (lv_at hl 2 rfl) ?_
      refine zz_imul hx hb d_Mo_floor_32 ?_
      rw [show (2 * (a : Int) : Int) = ((2 * a : Nat) : Int) by omega]
      refine cv (n := 2) (wr := [(oh, .inl (cI, 10000, .inl fh)), (og, .inl (cI, 32, .inl fs)), (on_, .inl (cI, 32, .inl fn))]) (w1 := (fun (u : (Nat → Int32) × (Nat → Int32)) => [(mo, .inr (8, [.int (iZ 0), .int (iZ (np : Int)), .ref ow, .ref om, .ref ok_, .ref oK, .ref og, .ref on_, .ref oh, .ref ox, .int qn, .int qf, .ref op_, .int ql])), (ow, .inl (cI, 108000, .inl u.1)), (om, .inl (cI, 9, .inl u.2)), (ok_, .inl (cI, 166400, .inl fk)), (oK, .inl (cI, 64, .inl fK))])) (As := [.int (iZ 0), .int (iZ ((2 * a : Nat) : Int))]) (rest := []) K hP hD hK hS hA hl.1 (c_Mo_load l D mo (iZ 0) np ow om ok_ oK og on_ oh ox qn qf op_ ql fw fm cI fk fK val (kvf tv bv) 0 (2 * a) H.size hW hMR.1 (by decide) (by omega)) [7, 0, 1, 3, 4] [2, 5, 6] [0] rfl rfl rfl (by decide) (by decide) (by decide) 0 rfl rfl (big_in mw_1238 rfl) (big_in mw_10 rfl) (big_in mw_1235 rfl) (big_in mw_1237 rfl) (big_in sp_31 rfl) rfl rfl (by decide +kernel) ⟨by rw [hR]; exact Nat.le_of_ble_eq_true rfl, by rw [hR]; exact Nat.le_of_ble_eq_true rfl⟩ rfl (Nat.le_of_ble_eq_true rfl) d_Mo_floor_33 ⟨by rw [hR]; exact Nat.le_of_ble_eq_true rfl, by rw [hR]; exact Nat.le_of_ble_eq_true rfl⟩ rfl (fun v u H locs hp4 hP hD hS _ => ?_)
      obtain ⟨fx1, fy1⟩ := u
      try dsimp only at hp4
      obtain ⟨rfl, w1⟩ := hp4
      have hP : va_P D cls0 [(oh, .inl (cI, 10000, .inl fh)), (og, .inl (cI, 32, .inl fs)), (on_, .inl (cI, 32, .inl fn)), (mo, .inr (8, [.int (iZ 0), .int (iZ (np : Int)), .ref ow, .ref om, .ref ok_, .ref oK, .ref og, .ref on_, .ref oh, .ref ox, .int qn, .int qf, .ref op_, .int ql])), (ow, .inl (cI, 108000, .inl fx1)), (om, .inl (cI, 9, .inl fy1)), (ok_, .inl (cI, 166400, .inl fk)), (oK, .inl (cI, 64, .inl fK))] H := hP
      have hD : va_D A [(oh, .inl (cI, 10000, .inl fh)), (og, .inl (cI, 32, .inl fs)), (on_, .inl (cI, 32, .inl fn)), (mo, .inr (8, [.int (iZ 0), .int (iZ (np : Int)), .ref ow, .ref om, .ref ok_, .ref oK, .ref og, .ref on_, .ref oh, .ref ox, .int qn, .int qf, .ref op_, .int ql])), (ow, .inl (cI, 108000, .inl fx1)), (om, .inl (cI, 9, .inl fy1)), (ok_, .inl (cI, 166400, .inl fk)), (oK, .inl (cI, 64, .inl fK))] := hD
      show W p l e R s m args below meth c H locs _ _ Q (F0 m 36 ls [])
      rw [kvf_0] at w1
      obtain ⟨v1, hv1⟩ : ∃ z, z = up val 0 (tv a) := ⟨_, rfl⟩
      rw [← hv1] at w1
      refine lv_aload_n hx hb d_Mo_floor_36 rfl (lv_at hl 0 rfl) ?_
      refine lv_iconst (v := iZ (1)) hx hb d_Mo_floor_37 (by decide +kernel) ?_
      refine lv_iconst (v := iZ (2)) hx hb d_Mo_floor_38 (by decide +kernel) ?_
      refine lv_iload_n hx hb d_Mo_floor_39 rfl (lv_at hl 2 rfl) ?_
      refine zz_imul hx hb d_Mo_floor_40 ?_
      refine lv_iconst (v := iZ (1)) hx hb d_Mo_floor_41 (by decide +kernel) ?_
      refine zz_iadd hx hb d_Mo_floor_42 ?_
      rw [show (2 * (a : Int) + 1 : Int) = ((2 * a + 1 : Nat) : Int) by omega]
      refine cv (n := 2) (wr := [(oh, .inl (cI, 10000, .inl fh)), (og, .inl (cI, 32, .inl fs)), (on_, .inl (cI, 32, .inl fn))]) (w1 := (fun (u : (Nat → Int32) × (Nat → Int32)) => [(mo, .inr (8, [.int (iZ 0), .int (iZ (np : Int)), .ref ow, .ref om, .ref ok_, .ref oK, .ref og, .ref on_, .ref oh, .ref ox, .int qn, .int qf, .ref op_, .int ql])), (ow, .inl (cI, 108000, .inl u.1)), (om, .inl (cI, 9, .inl u.2)), (ok_, .inl (cI, 166400, .inl fk)), (oK, .inl (cI, 64, .inl fK))])) (As := [.int (iZ 1), .int (iZ ((2 * a + 1 : Nat) : Int))]) (rest := []) K hP hD hK hS hA hl.1 (c_Mo_load l D mo (iZ 0) np ow om ok_ oK og on_ oh ox qn qf op_ ql fx1 fy1 cI fk fK v1 (kvf tv bv) 1 (2 * a + 1) H.size w1 hMR.1 (by decide) (by omega)) [3, 4, 5, 6, 7] [0, 1, 2] [0] rfl rfl rfl (by decide) (by decide) (by decide) 0 rfl rfl (big_in mw_1238 rfl) (big_in mw_10 rfl) (big_in mw_1235 rfl) (big_in mw_1237 rfl) (big_in sp_31 rfl) rfl rfl (by decide +kernel) ⟨by rw [hR]; exact Nat.le_of_ble_eq_true rfl, by rw [hR]; exact Nat.le_of_ble_eq_true rfl⟩ rfl (Nat.le_of_ble_eq_true rfl) d_Mo_floor_43 ⟨by rw [hR]; exact Nat.le_of_ble_eq_true rfl, by rw [hR]; exact Nat.le_of_ble_eq_true rfl⟩ rfl (fun v u H locs hp5 hP hD hS _ => ?_)
      obtain ⟨fx2, fy2⟩ := u
      try dsimp only at hp5
      obtain ⟨rfl, w2⟩ := hp5
      have hP : va_P D cls0 [(oh, .inl (cI, 10000, .inl fh)), (og, .inl (cI, 32, .inl fs)), (on_, .inl (cI, 32, .inl fn)), (mo, .inr (8, [.int (iZ 0), .int (iZ (np : Int)), .ref ow, .ref om, .ref ok_, .ref oK, .ref og, .ref on_, .ref oh, .ref ox, .int qn, .int qf, .ref op_, .int ql])), (ow, .inl (cI, 108000, .inl fx2)), (om, .inl (cI, 9, .inl fy2)), (ok_, .inl (cI, 166400, .inl fk)), (oK, .inl (cI, 64, .inl fK))] H := hP
      have hD : va_D A [(oh, .inl (cI, 10000, .inl fh)), (og, .inl (cI, 32, .inl fs)), (on_, .inl (cI, 32, .inl fn)), (mo, .inr (8, [.int (iZ 0), .int (iZ (np : Int)), .ref ow, .ref om, .ref ok_, .ref oK, .ref og, .ref on_, .ref oh, .ref ox, .int qn, .int qf, .ref op_, .int ql])), (ow, .inl (cI, 108000, .inl fx2)), (om, .inl (cI, 9, .inl fy2)), (ok_, .inl (cI, 166400, .inl fk)), (oK, .inl (cI, 64, .inl fK))] := hD
      show W p l e R s m args below meth c H locs _ _ Q (F0 m 46 ls [])
      rw [kvf_1] at w2
      obtain ⟨v2, hv2⟩ : ∃ z, z = up v1 1 (bv a) := ⟨_, rfl⟩
      rw [← hv2] at w2
      have e0 : v2 0 = tv a := by rw [hv2, up_n (by decide), hv1, up_s]
      have e1 : v2 1 = bv a := by rw [hv2, up_s]
      have ba := hlr a (by omega)
      refine lv_aload_n hx hb d_Mo_floor_46 rfl (lv_at hl 0 rfl) ?_
      refine lv_iconst (v := iZ (2)) hx hb d_Mo_floor_47 (by decide +kernel) ?_
      refine lv_iconst (v := iZ (0)) hx hb d_Mo_floor_48 (by decide +kernel) ?_
      refine lv_iconst (v := iZ (1)) hx hb d_Mo_floor_49 (by decide +kernel) ?_
      refine cv (n := 3) (wr := [(oh, .inl (cI, 10000, .inl fh)), (og, .inl (cI, 32, .inl fs)), (on_, .inl (cI, 32, .inl fn)), (ok_, .inl (cI, 166400, .inl fk)), (oK, .inl (cI, 64, .inl fK))]) (w1 := (fun (u : (Nat → Int32) × (Nat → Int32)) => [(mo, .inr (8, [.int (iZ 0), .int (iZ (np : Int)), .ref ow, .ref om, .ref ok_, .ref oK, .ref og, .ref on_, .ref oh, .ref ox, .int qn, .int qf, .ref op_, .int ql])), (ow, .inl (cI, 108000, .inl u.1)), (om, .inl (cI, 9, .inl u.2))])) (As := [.int (iZ 2), .int (iZ 0), .int (iZ 1)]) (rest := []) K hP hD hK hS hA hl.1 (c_Mo_divideBy l D mo (iZ 0) np ow om ok_ oK og on_ oh ox qn qf op_ ql fx2 fy2 cI v2 2 0 1 H.size w2 (by decide) (by decide) (by decide) (by decide) (by decide) (by decide) (by rw [e1]; exact pa) (by rw [e0]; omega)) [3, 4, 5] [0, 1, 2, 6, 7] [0] rfl rfl rfl (by decide) (by decide) (by decide) 0 rfl rfl (big_in mw_1201 rfl) (big_in mw_10 rfl) (big_in mw_1198 rfl) (big_in mw_1200 rfl) (big_in sp_24 rfl) rfl rfl (by decide +kernel) ⟨by rw [hR]; exact Nat.le_of_ble_eq_true rfl, by rw [hR]; exact Nat.le_of_ble_eq_true rfl⟩ rfl (Nat.le_of_ble_eq_true rfl) d_Mo_floor_50 ⟨by rw [hR]; exact Nat.le_of_ble_eq_true rfl, by rw [hR]; exact Nat.le_of_ble_eq_true rfl⟩ rfl (fun v u H locs hp6 hP hD hS _ => ?_)
      obtain ⟨fx3, fy3⟩ := u
      try dsimp only at hp6
      obtain ⟨rfl, w3⟩ := hp6
      have hP : va_P D cls0 [(oh, .inl (cI, 10000, .inl fh)), (og, .inl (cI, 32, .inl fs)), (on_, .inl (cI, 32, .inl fn)), (ok_, .inl (cI, 166400, .inl fk)), (oK, .inl (cI, 64, .inl fK)), (mo, .inr (8, [.int (iZ 0), .int (iZ (np : Int)), .ref ow, .ref om, .ref ok_, .ref oK, .ref og, .ref on_, .ref oh, .ref ox, .int qn, .int qf, .ref op_, .int ql])), (ow, .inl (cI, 108000, .inl fx3)), (om, .inl (cI, 9, .inl fy3))] H := hP
      have hD : va_D A [(oh, .inl (cI, 10000, .inl fh)), (og, .inl (cI, 32, .inl fs)), (on_, .inl (cI, 32, .inl fn)), (ok_, .inl (cI, 166400, .inl fk)), (oK, .inl (cI, 64, .inl fK)), (mo, .inr (8, [.int (iZ 0), .int (iZ (np : Int)), .ref ow, .ref om, .ref ok_, .ref oK, .ref og, .ref on_, .ref oh, .ref ox, .int qn, .int qf, .ref op_, .int ql])), (ow, .inl (cI, 108000, .inl fx3)), (om, .inl (cI, 9, .inl fy3))] := hD
      show W p l e R s m args below meth c H locs _ _ Q (F0 m 53 ls [])
      rw [e0, e1] at w3
      obtain ⟨v3, hv3⟩ : ∃ z, z = up (up v2 2 (tv a / bv a)) 0 (tv a % bv a) := ⟨_, rfl⟩
      rw [← hv3] at w3
      have y30 : v3 0 = tv a % bv a := by rw [hv3, up_s]
      have y32 : v3 2 = tv a / bv a := by rw [hv3, up_n (by decide), up_s]
      have nq := nd_mono (Nat.div_le_self (tv a) (bv a))
      have nr := nd_mono (Nat.mod_le (tv a) (bv a))
      refine lv_aload_n hx hb d_Mo_floor_53 rfl (lv_at hl 0 rfl) ?_
      refine va_get (D := D) (ci := 8) (v := .ref og) (C := R_Mo) (T := F_Mo) (N := 14) hx hb hts i_Mo hown hK hP 5 rfl rfl 6 (by decide) (hts _ (big_in mw_1121 rfl)) (fun _ h9 => h9) rfl d_Mo_floor_54 ?_
      refine lv_iload_n hx hb d_Mo_floor_57 rfl (lv_at hl 2 rfl) ?_
      refine zz_iald hx hb hK hP 1 0 rfl rfl (a) (by omega) (by omega) (by omega) d_Mo_floor_58 ?_
      rw [hMR.2.1 a (by omega)]
      refine zz_if_ge (tgt := 83) hx hb d_Mo_floor_59 (by decide) (by omega) (fun c59 => ?_) (fun c59 => ?_)
      · refine lv_aload_n hx hb d_Mo_floor_83 rfl (lv_at hl 0 rfl) ?_
        refine lv_iconst (v := iZ (0)) hx hb d_Mo_floor_84 (by decide +kernel) ?_
        refine lv_iconst (v := iZ (2)) hx hb d_Mo_floor_85 (by decide +kernel) ?_
        have q2 : v3 2 = flN (tv a) (bv a) (sg a) := by unfold flN; rw [if_neg (fun z => by have y := nd_pos.mpr z.2; omega), Nat.add_zero]; exact y32
        refine cv (n := 2) (wr := [(oh, .inl (cI, 10000, .inl fh)), (og, .inl (cI, 32, .inl fs)), (on_, .inl (cI, 32, .inl fn)), (ok_, .inl (cI, 166400, .inl fk)), (oK, .inl (cI, 64, .inl fK))]) (w1 := (fun (u : (Nat → Int32) × (Nat → Int32)) => [(mo, .inr (8, [.int (iZ 0), .int (iZ (np : Int)), .ref ow, .ref om, .ref ok_, .ref oK, .ref og, .ref on_, .ref oh, .ref ox, .int qn, .int qf, .ref op_, .int ql])), (ow, .inl (cI, 108000, .inl u.1)), (om, .inl (cI, 9, .inl u.2))])) (As := [.int (iZ 0), .int (iZ 2)]) (rest := []) K hP hD hK hS hA hl.1 (c_Mo_copyTo l D mo (iZ 0) np ow om ok_ oK og on_ oh ox qn qf op_ ql fx3 fy3 cI v3 0 2 H.size w3 (by omega) (by omega) (by omega)) [5, 6, 7] [0, 1, 2, 3, 4] [0] rfl rfl rfl (by decide) (by decide) (by decide) 0 rfl rfl (big_in mw_1193 rfl) (big_in mw_10 rfl) (big_in mw_1190 rfl) (big_in mw_1192 rfl) (big_in sp_22 rfl) rfl rfl (by decide +kernel) ⟨by rw [hR]; exact Nat.le_of_ble_eq_true rfl, by rw [hR]; exact Nat.le_of_ble_eq_true rfl⟩ rfl (Nat.le_of_ble_eq_true rfl) d_Mo_floor_86 ⟨by rw [hR]; exact Nat.le_of_ble_eq_true rfl, by rw [hR]; exact Nat.le_of_ble_eq_true rfl⟩ rfl (fun v u H locs hp7 hP hD hS _ => ?_)
        obtain ⟨fx6, fy6⟩ := u
        try dsimp only at hp7
        obtain ⟨rfl, w6⟩ := hp7
        have hP : va_P D cls0 [(oh, .inl (cI, 10000, .inl fh)), (og, .inl (cI, 32, .inl fs)), (on_, .inl (cI, 32, .inl fn)), (ok_, .inl (cI, 166400, .inl fk)), (oK, .inl (cI, 64, .inl fK)), (mo, .inr (8, [.int (iZ 0), .int (iZ (np : Int)), .ref ow, .ref om, .ref ok_, .ref oK, .ref og, .ref on_, .ref oh, .ref ox, .int qn, .int qf, .ref op_, .int ql])), (ow, .inl (cI, 108000, .inl fx6)), (om, .inl (cI, 9, .inl fy6))] H := hP
        have hD : va_D A [(oh, .inl (cI, 10000, .inl fh)), (og, .inl (cI, 32, .inl fs)), (on_, .inl (cI, 32, .inl fn)), (ok_, .inl (cI, 166400, .inl fk)), (oK, .inl (cI, 64, .inl fK)), (mo, .inr (8, [.int (iZ 0), .int (iZ (np : Int)), .ref ow, .ref om, .ref ok_, .ref oK, .ref og, .ref on_, .ref oh, .ref ox, .int qn, .int qf, .ref op_, .int ql])), (ow, .inl (cI, 108000, .inl fx6)), (om, .inl (cI, 9, .inl fy6))] := hD
        show W p l e R s m args below meth c H locs _ _ Q (F0 m 89 ls [])
        rw [q2] at w6
        obtain ⟨v6, hv6⟩ : ∃ z, z = up v3 0 (flN (tv a) (bv a) (sg a)) := ⟨_, rfl⟩
        rw [← hv6] at w6
        refine lv_aload_n hx hb d_Mo_floor_89 rfl (lv_at hl 0 rfl) ?_
        refine lv_iconst (v := iZ (1)) hx hb d_Mo_floor_90 (by decide +kernel) ?_
        refine lv_lconst (v := lZ (1)) hx hb d_Mo_floor_91 (by decide +kernel) ?_
        refine cv (n := 2) (wr := [(oh, .inl (cI, 10000, .inl fh)), (og, .inl (cI, 32, .inl fs)), (on_, .inl (cI, 32, .inl fn)), (ok_, .inl (cI, 166400, .inl fk)), (oK, .inl (cI, 64, .inl fK))]) (w1 := (fun (u : (Nat → Int32) × (Nat → Int32)) => [(mo, .inr (8, [.int (iZ 0), .int (iZ (np : Int)), .ref ow, .ref om, .ref ok_, .ref oK, .ref og, .ref on_, .ref oh, .ref ox, .int qn, .int qf, .ref op_, .int ql])), (ow, .inl (cI, 108000, .inl u.1)), (om, .inl (cI, 9, .inl u.2))])) (As := [.int (iZ 1), .long (lZ 1)]) (rest := []) K hP hD hK hS hA hl.1 (c_Mo_setLong l D mo (iZ 0) np ow om ok_ oK og on_ oh ox qn qf op_ ql fx6 fy6 cI v6 1 1 H.size w6 (by omega) (by omega)) [5, 6, 7] [0, 1, 2, 3, 4] [0] rfl rfl rfl (by decide) (by decide) (by decide) 0 rfl rfl (big_in mw_1180 rfl) (big_in mw_10 rfl) (big_in mw_1177 rfl) (big_in mw_1179 rfl) (big_in sp_19 rfl) rfl rfl (by decide +kernel) ⟨by rw [hR]; exact Nat.le_of_ble_eq_true rfl, by rw [hR]; exact Nat.le_of_ble_eq_true rfl⟩ rfl (Nat.le_of_ble_eq_true rfl) d_Mo_floor_92 ⟨by rw [hR]; exact Nat.le_of_ble_eq_true rfl, by rw [hR]; exact Nat.le_of_ble_eq_true rfl⟩ rfl (fun v u H locs hp8 hP hD hS _ => ?_)
        obtain ⟨fx7, fy7⟩ := u
        try dsimp only at hp8
        obtain ⟨rfl, w7⟩ := hp8
        have hP : va_P D cls0 [(oh, .inl (cI, 10000, .inl fh)), (og, .inl (cI, 32, .inl fs)), (on_, .inl (cI, 32, .inl fn)), (ok_, .inl (cI, 166400, .inl fk)), (oK, .inl (cI, 64, .inl fK)), (mo, .inr (8, [.int (iZ 0), .int (iZ (np : Int)), .ref ow, .ref om, .ref ok_, .ref oK, .ref og, .ref on_, .ref oh, .ref ox, .int qn, .int qf, .ref op_, .int ql])), (ow, .inl (cI, 108000, .inl fx7)), (om, .inl (cI, 9, .inl fy7))] H := hP
        have hD : va_D A [(oh, .inl (cI, 10000, .inl fh)), (og, .inl (cI, 32, .inl fs)), (on_, .inl (cI, 32, .inl fn)), (ok_, .inl (cI, 166400, .inl fk)), (oK, .inl (cI, 64, .inl fK)), (mo, .inr (8, [.int (iZ 0), .int (iZ (np : Int)), .ref ow, .ref om, .ref ok_, .ref oK, .ref og, .ref on_, .ref oh, .ref ox, .int qn, .int qf, .ref op_, .int ql])), (ow, .inl (cI, 108000, .inl fx7)), (om, .inl (cI, 9, .inl fy7))] := hD
        show W p l e R s m args below meth c H locs _ _ Q (F0 m 95 ls [])
        obtain ⟨v7, hv7⟩ : ∃ x, x = up v6 1 1 := ⟨_, rfl⟩
        have w7 : WB fx7 fy7 v7 := by rw [hv7]; exact w7
        have y70 : v7 0 = flN (tv a) (bv a) (sg a) := by rw [hv7, up_n (by decide), hv6, up_s]
        have y71 : v7 1 = 1 := by rw [hv7, up_s]
        have fl3 := flN_lm (tv a) (bv a) (sg a)
        have lm1 : lm 1 = 1 := by decide
        refine lv_aload_n hx hb d_Mo_floor_95 rfl (lv_at hl 0 rfl) ?_
        refine lv_iload_n hx hb d_Mo_floor_96 rfl (lv_at hl 1 rfl) ?_
        refine lv_aload_n hx hb d_Mo_floor_97 rfl (lv_at hl 0 rfl) ?_
        refine va_get (D := D) (ci := 8) (v := .ref og) (C := R_Mo) (T := F_Mo) (N := 14) hx hb hts i_Mo hown hK hP 5 rfl rfl 6 (by decide) (hts _ (big_in mw_1121 rfl)) (fun _ h9 => h9) rfl d_Mo_floor_98 ?_
        refine lv_iload_n hx hb d_Mo_floor_101 rfl (lv_at hl 2 rfl) ?_
        refine zz_iald hx hb hK hP 1 0 rfl rfl (a) (by omega) (by omega) (by omega) d_Mo_floor_102 ?_
        rw [hMR.2.1 a (by omega)]
        refine lv_iconst (v := iZ (2)) hx hb d_Mo_floor_103 (by decide +kernel) ?_
        refine cv (n := 3) (wr := []) (w1 := (fun (u : (Nat → Int32) × (Nat → Int32) × (Nat → Int32) × (Nat → Int32) × (Nat → Int32) × (Nat → Int32) × (Nat → Int32) × (Nat → Nat)) => [(mo, .inr (8, [.int (iZ 0), .int (iZ (np : Int)), .ref ow, .ref om, .ref ok_, .ref oK, .ref og, .ref on_, .ref oh, .ref ox, .int qn, .int qf, .ref op_, .int ql])), (ow, .inl (cI, 108000, .inl u.1)), (om, .inl (cI, 9, .inl u.2.1)), (oh, .inl (cI, 10000, .inl u.2.2.1)), (ok_, .inl (cI, 166400, .inl u.2.2.2.1)), (oK, .inl (cI, 64, .inl u.2.2.2.2.1)), (og, .inl (cI, 32, .inl u.2.2.2.2.2.1)), (on_, .inl (cI, 32, .inl u.2.2.2.2.2.2.1))])) (As := [.int (iZ (to : Int)), .int (iZ (sg a)), .int (iZ 2)]) (rest := []) K hP hD hK hS hA hl.1 (c_Mo_store l D mo (iZ 0) np ow om ok_ oK og on_ oh ox qn qf op_ ql fx7 fy7 cI fh fk fK fs fn v7 tv bv sg to (sg a) 2 H.size w7 hMR (by omega) hnd hnp (by omega) (by decide) (by rw [y70]; omega) (by rw [y71]; omega) (by rw [y70, y71]; exact hfit)) [5, 6, 7, 0, 3, 4, 1, 2] [] [0] rfl rfl rfl (by decide) (by decide) (by decide) 0 rfl rfl (big_in mw_1215 rfl) (big_in mw_10 rfl) (big_in mw_1212 rfl) (big_in mw_1214 rfl) (big_in sp_27 rfl) rfl rfl (by decide +kernel) ⟨by rw [hR]; exact Nat.le_of_ble_eq_true rfl, by rw [hR]; exact Nat.le_of_ble_eq_true rfl⟩ rfl (Nat.le_of_ble_eq_true rfl) d_Mo_floor_104 ⟨by rw [hR]; exact Nat.le_of_ble_eq_true rfl, by rw [hR]; exact Nat.le_of_ble_eq_true rfl⟩ rfl (fun v u H locs hp9 hP hD hS _ => ?_)
        obtain ⟨fa, fb, fc, fd, fe, ff, fg, v9⟩ := u
        try dsimp only at hp9
        obtain ⟨rfl, w9, q9⟩ := hp9
        have hP : va_P D cls0 [(mo, .inr (8, [.int (iZ 0), .int (iZ (np : Int)), .ref ow, .ref om, .ref ok_, .ref oK, .ref og, .ref on_, .ref oh, .ref ox, .int qn, .int qf, .ref op_, .int ql])), (ow, .inl (cI, 108000, .inl fa)), (om, .inl (cI, 9, .inl fb)), (oh, .inl (cI, 10000, .inl fc)), (ok_, .inl (cI, 166400, .inl fd)), (oK, .inl (cI, 64, .inl fe)), (og, .inl (cI, 32, .inl ff)), (on_, .inl (cI, 32, .inl fg))] H := hP
        have hD : va_D A [(mo, .inr (8, [.int (iZ 0), .int (iZ (np : Int)), .ref ow, .ref om, .ref ok_, .ref oK, .ref og, .ref on_, .ref oh, .ref ox, .int qn, .int qf, .ref op_, .int ql])), (ow, .inl (cI, 108000, .inl fa)), (om, .inl (cI, 9, .inl fb)), (oh, .inl (cI, 10000, .inl fc)), (ok_, .inl (cI, 166400, .inl fd)), (oK, .inl (cI, 64, .inl fe)), (og, .inl (cI, 32, .inl ff)), (on_, .inl (cI, 32, .inl fg))] := hD
        show W p l e R s m args below meth c H locs _ _ Q (F0 m 107 ls [.int (iZ ((lm (v7 0) : Int) + (lm (v7 1) : Int)))])
        rw [y70, y71]
        rw [y70, y71] at q9
        have hP9 : va_P D cls0 [(mo, .inr (8, [.int (iZ 0), .int (iZ (np : Int)), .ref ow, .ref om, .ref ok_, .ref oK, .ref og, .ref on_, .ref oh, .ref ox, .int qn, .int qf, .ref op_, .int ql])), (ow, .inl (cI, 108000, .inl fa)), (om, .inl (cI, 9, .inl fb)), (oh, .inl (cI, 10000, .inl fc)), (ok_, .inl (cI, 166400, .inl fd)), (oK, .inl (cI, 64, .inl fe)), (og, .inl (cI, 32, .inl ff)), (on_, .inl (cI, 32, .inl fg))] H := hP.sub [0, 1, 2, 3, 4, 5, 6, 7] rfl
        have hD9 : va_D A [(mo, .inr (8, [.int (iZ 0), .int (iZ (np : Int)), .ref ow, .ref om, .ref ok_, .ref oK, .ref og, .ref on_, .ref oh, .ref ox, .int qn, .int qf, .ref op_, .int ql])), (ow, .inl (cI, 108000, .inl fa)), (om, .inl (cI, 9, .inl fb)), (oh, .inl (cI, 10000, .inl fc)), (ok_, .inl (cI, 166400, .inl fd)), (oK, .inl (cI, 64, .inl fe)), (og, .inl (cI, 32, .inl ff)), (on_, .inl (cI, 32, .inl fg))] := hD.sub [0, 1, 2, 3, 4, 5, 6, 7] (by decide) rfl
        rw [hQ, ← hAe]
        refine r_i (v := (iZ ((lm ((flN (tv a) (bv a) (sg a))) : Int) + (lm (1) : Int)))) K (fa, fb, fc, fd, fe, ff, fg, v9) hS d_Mo_floor_107 ?_ (fun t ht hv => ?_)
        · try dsimp only
          refine ⟨rfl, w9, ?_⟩
          exact q9
        · exact ⟨by rw [ht]; exact hP9, va_K.moved hv hK, by rw [← hAe]; exact hD9⟩
      · refine lv_aload_n hx hb d_Mo_floor_62 rfl (lv_at hl 0 rfl) ?_
        refine va_get (D := D) (ci := 8) (v := .ref om) (C := R_Mo) (T := F_Mo) (N := 14) hx hb hts i_Mo hown hK hP 5 rfl rfl 3 (by decide) (hts _ (big_in mw_1118 rfl)) (fun _ h9 => h9) rfl d_Mo_floor_63 ?_
        refine lv_iconst (v := iZ (0)) hx hb d_Mo_floor_66 (by decide +kernel) ?_
        refine zz_iald hx hb hK hP 7 0 rfl rfl (0) (by omega) (by omega) (by omega) d_Mo_floor_67 ?_
        rw [w3.m (by decide), y30]
        refine zz_if_le (tgt := 83) hx hb d_Mo_floor_68 (by decide) (by omega) (fun c68 => ?_) (fun c68 => ?_)
        · refine lv_aload_n hx hb d_Mo_floor_83 rfl (lv_at hl 0 rfl) ?_
          refine lv_iconst (v := iZ (0)) hx hb d_Mo_floor_84 (by decide +kernel) ?_
          refine lv_iconst (v := iZ (2)) hx hb d_Mo_floor_85 (by decide +kernel) ?_
          have q2 : v3 2 = flN (tv a) (bv a) (sg a) := by unfold flN; rw [if_neg (fun z => by have y := nd_pos.mpr z.2; omega), Nat.add_zero]; exact y32
          refine cv (n := 2) (wr := [(oh, .inl (cI, 10000, .inl fh)), (og, .inl (cI, 32, .inl fs)), (on_, .inl (cI, 32, .inl fn)), (ok_, .inl (cI, 166400, .inl fk)), (oK, .inl (cI, 64, .inl fK))]) (w1 := (fun (u : (Nat → Int32) × (Nat → Int32)) => [(mo, .inr (8, [.int (iZ 0), .int (iZ (np : Int)), .ref ow, .ref om, .ref ok_, .ref oK, .ref og, .ref on_, .ref oh, .ref ox, .int qn, .int qf, .ref op_, .int ql])), (ow, .inl (cI, 108000, .inl u.1)), (om, .inl (cI, 9, .inl u.2))])) (As := [.int (iZ 0), .int (iZ 2)]) (rest := []) K hP hD hK hS hA hl.1 (c_Mo_copyTo l D mo (iZ 0) np ow om ok_ oK og on_ oh ox qn qf op_ ql fx3 fy3 cI v3 0 2 H.size w3 (by omega) (by omega) (by omega)) [5, 6, 7] [0, 1, 2, 3, 4] [0] rfl rfl rfl (by decide) (by decide) (by decide) 0 rfl rfl (big_in mw_1193 rfl) (big_in mw_10 rfl) (big_in mw_1190 rfl) (big_in mw_1192 rfl) (big_in sp_22 rfl) rfl rfl (by decide +kernel) ⟨by rw [hR]; exact Nat.le_of_ble_eq_true rfl, by rw [hR]; exact Nat.le_of_ble_eq_true rfl⟩ rfl (Nat.le_of_ble_eq_true rfl) d_Mo_floor_86 ⟨by rw [hR]; exact Nat.le_of_ble_eq_true rfl, by rw [hR]; exact Nat.le_of_ble_eq_true rfl⟩ rfl (fun v u H locs hp10 hP hD hS _ => ?_)
          obtain ⟨fx6, fy6⟩ := u
          try dsimp only at hp10
          obtain ⟨rfl, w6⟩ := hp10
          have hP : va_P D cls0 [(oh, .inl (cI, 10000, .inl fh)), (og, .inl (cI, 32, .inl fs)), (on_, .inl (cI, 32, .inl fn)), (ok_, .inl (cI, 166400, .inl fk)), (oK, .inl (cI, 64, .inl fK)), (mo, .inr (8, [.int (iZ 0), .int (iZ (np : Int)), .ref ow, .ref om, .ref ok_, .ref oK, .ref og, .ref on_, .ref oh, .ref ox, .int qn, .int qf, .ref op_, .int ql])), (ow, .inl (cI, 108000, .inl fx6)), (om, .inl (cI, 9, .inl fy6))] H := hP
          have hD : va_D A [(oh, .inl (cI, 10000, .inl fh)), (og, .inl (cI, 32, .inl fs)), (on_, .inl (cI, 32, .inl fn)), (ok_, .inl (cI, 166400, .inl fk)), (oK, .inl (cI, 64, .inl fK)), (mo, .inr (8, [.int (iZ 0), .int (iZ (np : Int)), .ref ow, .ref om, .ref ok_, .ref oK, .ref og, .ref on_, .ref oh, .ref ox, .int qn, .int qf, .ref op_, .int ql])), (ow, .inl (cI, 108000, .inl fx6)), (om, .inl (cI, 9, .inl fy6))] := hD
          show W p l e R s m args below meth c H locs _ _ Q (F0 m 89 ls [])
          rw [q2] at w6
          obtain ⟨v6, hv6⟩ : ∃ z, z = up v3 0 (flN (tv a) (bv a) (sg a)) := ⟨_, rfl⟩
          rw [← hv6] at w6
          refine lv_aload_n hx hb d_Mo_floor_89 rfl (lv_at hl 0 rfl) ?_
          refine lv_iconst (v := iZ (1)) hx hb d_Mo_floor_90 (by decide +kernel) ?_
          refine lv_lconst (v := lZ (1)) hx hb d_Mo_floor_91 (by decide +kernel) ?_
          refine cv (n := 2) (wr := [(oh, .inl (cI, 10000, .inl fh)), (og, .inl (cI, 32, .inl fs)), (on_, .inl (cI, 32, .inl fn)), (ok_, .inl (cI, 166400, .inl fk)), (oK, .inl (cI, 64, .inl fK))]) (w1 := (fun (u : (Nat → Int32) × (Nat → Int32)) => [(mo, .inr (8, [.int (iZ 0), .int (iZ (np : Int)), .ref ow, .ref om, .ref ok_, .ref oK, .ref og, .ref on_, .ref oh, .ref ox, .int qn, .int qf, .ref op_, .int ql])), (ow, .inl (cI, 108000, .inl u.1)), (om, .inl (cI, 9, .inl u.2))])) (As := [.int (iZ 1), .long (lZ 1)]) (rest := []) K hP hD hK hS hA hl.1 (c_Mo_setLong l D mo (iZ 0) np ow om ok_ oK og on_ oh ox qn qf op_ ql fx6 fy6 cI v6 1 1 H.size w6 (by omega) (by omega)) [5, 6, 7] [0, 1, 2, 3, 4] [0] rfl rfl rfl (by decide) (by decide) (by decide) 0 rfl rfl (big_in mw_1180 rfl) (big_in mw_10 rfl) (big_in mw_1177 rfl) (big_in mw_1179 rfl) (big_in sp_19 rfl) rfl rfl (by decide +kernel) ⟨by rw [hR]; exact Nat.le_of_ble_eq_true rfl, by rw [hR]; exact Nat.le_of_ble_eq_true rfl⟩ rfl (Nat.le_of_ble_eq_true rfl) d_Mo_floor_92 ⟨by rw [hR]; exact Nat.le_of_ble_eq_true rfl, by rw [hR]; exact Nat.le_of_ble_eq_true rfl⟩ rfl (fun v u H locs hp11 hP hD hS _ => ?_)
          obtain ⟨fx7, fy7⟩ := u
          try dsimp only at hp11
          obtain ⟨rfl, w7⟩ := hp11
          have hP : va_P D cls0 [(oh, .inl (cI, 10000, .inl fh)), (og, .inl (cI, 32, .inl fs)), (on_, .inl (cI, 32, .inl fn)), (ok_, .inl (cI, 166400, .inl fk)), (oK, .inl (cI, 64, .inl fK)), (mo, .inr (8, [.int (iZ 0), .int (iZ (np : Int)), .ref ow, .ref om, .ref ok_, .ref oK, .ref og, .ref on_, .ref oh, .ref ox, .int qn, .int qf, .ref op_, .int ql])), (ow, .inl (cI, 108000, .inl fx7)), (om, .inl (cI, 9, .inl fy7))] H := hP
          have hD : va_D A [(oh, .inl (cI, 10000, .inl fh)), (og, .inl (cI, 32, .inl fs)), (on_, .inl (cI, 32, .inl fn)), (ok_, .inl (cI, 166400, .inl fk)), (oK, .inl (cI, 64, .inl fK)), (mo, .inr (8, [.int (iZ 0), .int (iZ (np : Int)), .ref ow, .ref om, .ref ok_, .ref oK, .ref og, .ref on_, .ref oh, .ref ox, .int qn, .int qf, .ref op_, .int ql])), (ow, .inl (cI, 108000, .inl fx7)), (om, .inl (cI, 9, .inl fy7))] := hD
          show W p l e R s m args below meth c H locs _ _ Q (F0 m 95 ls [])
          obtain ⟨v7, hv7⟩ : ∃ x, x = up v6 1 1 := ⟨_, rfl⟩
          have w7 : WB fx7 fy7 v7 := by rw [hv7]; exact w7
          have y70 : v7 0 = flN (tv a) (bv a) (sg a) := by rw [hv7, up_n (by decide), hv6, up_s]
          have y71 : v7 1 = 1 := by rw [hv7, up_s]
          have fl3 := flN_lm (tv a) (bv a) (sg a)
          have lm1 : lm 1 = 1 := by decide
          refine lv_aload_n hx hb d_Mo_floor_95 rfl (lv_at hl 0 rfl) ?_
          refine lv_iload_n hx hb d_Mo_floor_96 rfl (lv_at hl 1 rfl) ?_
          refine lv_aload_n hx hb d_Mo_floor_97 rfl (lv_at hl 0 rfl) ?_
          refine va_get (D := D) (ci := 8) (v := .ref og) (C := R_Mo) (T := F_Mo) (N := 14) hx hb hts i_Mo hown hK hP 5 rfl rfl 6 (by decide) (hts _ (big_in mw_1121 rfl)) (fun _ h9 => h9) rfl d_Mo_floor_98 ?_
          refine lv_iload_n hx hb d_Mo_floor_101 rfl (lv_at hl 2 rfl) ?_
          refine zz_iald hx hb hK hP 1 0 rfl rfl (a) (by omega) (by omega) (by omega) d_Mo_floor_102 ?_
          rw [hMR.2.1 a (by omega)]
          refine lv_iconst (v := iZ (2)) hx hb d_Mo_floor_103 (by decide +kernel) ?_
          refine cv (n := 3) (wr := []) (w1 := (fun (u : (Nat → Int32) × (Nat → Int32) × (Nat → Int32) × (Nat → Int32) × (Nat → Int32) × (Nat → Int32) × (Nat → Int32) × (Nat → Nat)) => [(mo, .inr (8, [.int (iZ 0), .int (iZ (np : Int)), .ref ow, .ref om, .ref ok_, .ref oK, .ref og, .ref on_, .ref oh, .ref ox, .int qn, .int qf, .ref op_, .int ql])), (ow, .inl (cI, 108000, .inl u.1)), (om, .inl (cI, 9, .inl u.2.1)), (oh, .inl (cI, 10000, .inl u.2.2.1)), (ok_, .inl (cI, 166400, .inl u.2.2.2.1)), (oK, .inl (cI, 64, .inl u.2.2.2.2.1)), (og, .inl (cI, 32, .inl u.2.2.2.2.2.1)), (on_, .inl (cI, 32, .inl u.2.2.2.2.2.2.1))])) (As := [.int (iZ (to : Int)), .int (iZ (sg a)), .int (iZ 2)]) (rest := []) K hP hD hK hS hA hl.1 (c_Mo_store l D mo (iZ 0) np ow om ok_ oK og on_ oh ox qn qf op_ ql fx7 fy7 cI fh fk fK fs fn v7 tv bv sg to (sg a) 2 H.size w7 hMR (by omega) hnd hnp (by omega) (by decide) (by rw [y70]; omega) (by rw [y71]; omega) (by rw [y70, y71]; exact hfit)) [5, 6, 7, 0, 3, 4, 1, 2] [] [0] rfl rfl rfl (by decide) (by decide) (by decide) 0 rfl rfl (big_in mw_1215 rfl) (big_in mw_10 rfl) (big_in mw_1212 rfl) (big_in mw_1214 rfl) (big_in sp_27 rfl) rfl rfl (by decide +kernel) ⟨by rw [hR]; exact Nat.le_of_ble_eq_true rfl, by rw [hR]; exact Nat.le_of_ble_eq_true rfl⟩ rfl (Nat.le_of_ble_eq_true rfl) d_Mo_floor_104 ⟨by rw [hR]; exact Nat.le_of_ble_eq_true rfl, by rw [hR]; exact Nat.le_of_ble_eq_true rfl⟩ rfl (fun v u H locs hp12 hP hD hS _ => ?_)
          obtain ⟨fa, fb, fc, fd, fe, ff, fg, v9⟩ := u
          try dsimp only at hp12
          obtain ⟨rfl, w9, q9⟩ := hp12
          have hP : va_P D cls0 [(mo, .inr (8, [.int (iZ 0), .int (iZ (np : Int)), .ref ow, .ref om, .ref ok_, .ref oK, .ref og, .ref on_, .ref oh, .ref ox, .int qn, .int qf, .ref op_, .int ql])), (ow, .inl (cI, 108000, .inl fa)), (om, .inl (cI, 9, .inl fb)), (oh, .inl (cI, 10000, .inl fc)), (ok_, .inl (cI, 166400, .inl fd)), (oK, .inl (cI, 64, .inl fe)), (og, .inl (cI, 32, .inl ff)), (on_, .inl (cI, 32, .inl fg))] H := hP
          have hD : va_D A [(mo, .inr (8, [.int (iZ 0), .int (iZ (np : Int)), .ref ow, .ref om, .ref ok_, .ref oK, .ref og, .ref on_, .ref oh, .ref ox, .int qn, .int qf, .ref op_, .int ql])), (ow, .inl (cI, 108000, .inl fa)), (om, .inl (cI, 9, .inl fb)), (oh, .inl (cI, 10000, .inl fc)), (ok_, .inl (cI, 166400, .inl fd)), (oK, .inl (cI, 64, .inl fe)), (og, .inl (cI, 32, .inl ff)), (on_, .inl (cI, 32, .inl fg))] := hD
          show W p l e R s m args below meth c H locs _ _ Q (F0 m 107 ls [.int (iZ ((lm (v7 0) : Int) + (lm (v7 1) : Int)))])
          rw [y70, y71]
          rw [y70, y71] at q9
          have hP9 : va_P D cls0 [(mo, .inr (8, [.int (iZ 0), .int (iZ (np : Int)), .ref ow, .ref om, .ref ok_, .ref oK, .ref og, .ref on_, .ref oh, .ref ox, .int qn, .int qf, .ref op_, .int ql])), (ow, .inl (cI, 108000, .inl fa)), (om, .inl (cI, 9, .inl fb)), (oh, .inl (cI, 10000, .inl fc)), (ok_, .inl (cI, 166400, .inl fd)), (oK, .inl (cI, 64, .inl fe)), (og, .inl (cI, 32, .inl ff)), (on_, .inl (cI, 32, .inl fg))] H := hP.sub [0, 1, 2, 3, 4, 5, 6, 7] rfl
          have hD9 : va_D A [(mo, .inr (8, [.int (iZ 0), .int (iZ (np : Int)), .ref ow, .ref om, .ref ok_, .ref oK, .ref og, .ref on_, .ref oh, .ref ox, .int qn, .int qf, .ref op_, .int ql])), (ow, .inl (cI, 108000, .inl fa)), (om, .inl (cI, 9, .inl fb)), (oh, .inl (cI, 10000, .inl fc)), (ok_, .inl (cI, 166400, .inl fd)), (oK, .inl (cI, 64, .inl fe)), (og, .inl (cI, 32, .inl ff)), (on_, .inl (cI, 32, .inl fg))] := hD.sub [0, 1, 2, 3, 4, 5, 6, 7] (by decide) rfl
          rw [hQ, ← hAe]
          refine r_i (v := (iZ ((lm ((flN (tv a) (bv a) (sg a))) : Int) + (lm (1) : Int)))) K (fa, fb, fc, fd, fe, ff, fg, v9) hS d_Mo_floor_107 ?_ (fun t ht hv => ?_)
          · try dsimp only
            refine ⟨rfl, w9, ?_⟩
            exact q9
          · exact ⟨by rw [ht]; exact hP9, va_K.moved hv hK, by rw [← hAe]; exact hD9⟩
        · refine lv_aload_n hx hb d_Mo_floor_71 rfl (lv_at hl 0 rfl) ?_
          refine lv_iconst (v := iZ (5)) hx hb d_Mo_floor_72 (by decide +kernel) ?_
          refine lv_lconst (v := lZ (1)) hx hb d_Mo_floor_73 (by decide +kernel) ?_
          refine cv (n := 2) (wr := [(oh, .inl (cI, 10000, .inl fh)), (og, .inl (cI, 32, .inl fs)), (on_, .inl (cI, 32, .inl fn)), (ok_, .inl (cI, 166400, .inl fk)), (oK, .inl (cI, 64, .inl fK))]) (w1 := (fun (u : (Nat → Int32) × (Nat → Int32)) => [(mo, .inr (8, [.int (iZ 0), .int (iZ (np : Int)), .ref ow, .ref om, .ref ok_, .ref oK, .ref og, .ref on_, .ref oh, .ref ox, .int qn, .int qf, .ref op_, .int ql])), (ow, .inl (cI, 108000, .inl u.1)), (om, .inl (cI, 9, .inl u.2))])) (As := [.int (iZ 5), .long (lZ 1)]) (rest := []) K hP hD hK hS hA hl.1 (c_Mo_setLong l D mo (iZ 0) np ow om ok_ oK og on_ oh ox qn qf op_ ql fx3 fy3 cI v3 5 1 H.size w3 (by omega) (by omega)) [5, 6, 7] [0, 1, 2, 3, 4] [0] rfl rfl rfl (by decide) (by decide) (by decide) 0 rfl rfl (big_in mw_1180 rfl) (big_in mw_10 rfl) (big_in mw_1177 rfl) (big_in mw_1179 rfl) (big_in sp_19 rfl) rfl rfl (by decide +kernel) ⟨by rw [hR]; exact Nat.le_of_ble_eq_true rfl, by rw [hR]; exact Nat.le_of_ble_eq_true rfl⟩ rfl (Nat.le_of_ble_eq_true rfl) d_Mo_floor_74 ⟨by rw [hR]; exact Nat.le_of_ble_eq_true rfl, by rw [hR]; exact Nat.le_of_ble_eq_true rfl⟩ rfl (fun v u H locs hp13 hP hD hS _ => ?_)
          obtain ⟨fx4, fy4⟩ := u
          try dsimp only at hp13
          obtain ⟨rfl, w4⟩ := hp13
          have hP : va_P D cls0 [(oh, .inl (cI, 10000, .inl fh)), (og, .inl (cI, 32, .inl fs)), (on_, .inl (cI, 32, .inl fn)), (ok_, .inl (cI, 166400, .inl fk)), (oK, .inl (cI, 64, .inl fK)), (mo, .inr (8, [.int (iZ 0), .int (iZ (np : Int)), .ref ow, .ref om, .ref ok_, .ref oK, .ref og, .ref on_, .ref oh, .ref ox, .int qn, .int qf, .ref op_, .int ql])), (ow, .inl (cI, 108000, .inl fx4)), (om, .inl (cI, 9, .inl fy4))] H := hP
          have hD : va_D A [(oh, .inl (cI, 10000, .inl fh)), (og, .inl (cI, 32, .inl fs)), (on_, .inl (cI, 32, .inl fn)), (ok_, .inl (cI, 166400, .inl fk)), (oK, .inl (cI, 64, .inl fK)), (mo, .inr (8, [.int (iZ 0), .int (iZ (np : Int)), .ref ow, .ref om, .ref ok_, .ref oK, .ref og, .ref on_, .ref oh, .ref ox, .int qn, .int qf, .ref op_, .int ql])), (ow, .inl (cI, 108000, .inl fx4)), (om, .inl (cI, 9, .inl fy4))] := hD
          show W p l e R s m args below meth c H locs _ _ Q (F0 m 77 ls [])
          obtain ⟨v4, hv4⟩ : ∃ x, x = up v3 5 1 := ⟨_, rfl⟩
          have w4 : WB fx4 fy4 v4 := by rw [hv4]; exact w4
          have y42 : v4 2 = tv a / bv a := by rw [hv4, up_n (by decide)]; exact y32
          have y45 : v4 5 = 1 := by rw [hv4, up_s]
          refine lv_aload_n hx hb d_Mo_floor_77 rfl (lv_at hl 0 rfl) ?_
          refine lv_iconst (v := iZ (2)) hx hb d_Mo_floor_78 (by decide +kernel) ?_
          refine lv_iconst (v := iZ (5)) hx hb d_Mo_floor_79 (by decide +kernel) ?_
          refine cv (n := 2) (wr := [(oh, .inl (cI, 10000, .inl fh)), (og, .inl (cI, 32, .inl fs)), (on_, .inl (cI, 32, .inl fn)), (ok_, .inl (cI, 166400, .inl fk)), (oK, .inl (cI, 64, .inl fK))]) (w1 := (fun (u : (Nat → Int32) × (Nat → Int32)) => [(mo, .inr (8, [.int (iZ 0), .int (iZ (np : Int)), .ref ow, .ref om, .ref ok_, .ref oK, .ref og, .ref on_, .ref oh, .ref ox, .int qn, .int qf, .ref op_, .int ql])), (ow, .inl (cI, 108000, .inl u.1)), (om, .inl (cI, 9, .inl u.2))])) (As := [.int (iZ 2), .int (iZ 5)]) (rest := []) K hP hD hK hS hA hl.1 (c_Mo_addTo l D mo (iZ 0) np ow om ok_ oK og on_ oh ox qn qf op_ ql fx4 fy4 cI v4 2 5 H.size w4 (by decide) (by decide) (by decide) (by rw [y42]; omega) (by rw [y45]; decide)) [5, 6, 7] [0, 1, 2, 3, 4] [0] rfl rfl rfl (by decide) (by decide) (by decide) 0 rfl rfl (big_in mw_1262 rfl) (big_in mw_10 rfl) (big_in mw_1259 rfl) (big_in mw_1261 rfl) (big_in sp_35 rfl) rfl rfl (by decide +kernel) ⟨by rw [hR]; exact Nat.le_of_ble_eq_true rfl, by rw [hR]; exact Nat.le_of_ble_eq_true rfl⟩ rfl (Nat.le_of_ble_eq_true rfl) d_Mo_floor_80 ⟨by rw [hR]; exact Nat.le_of_ble_eq_true rfl, by rw [hR]; exact Nat.le_of_ble_eq_true rfl⟩ rfl (fun v u H locs hp14 hP hD hS _ => ?_)
          obtain ⟨fx5, fy5⟩ := u
          try dsimp only at hp14
          obtain ⟨rfl, w5⟩ := hp14
          have hP : va_P D cls0 [(oh, .inl (cI, 10000, .inl fh)), (og, .inl (cI, 32, .inl fs)), (on_, .inl (cI, 32, .inl fn)), (ok_, .inl (cI, 166400, .inl fk)), (oK, .inl (cI, 64, .inl fK)), (mo, .inr (8, [.int (iZ 0), .int (iZ (np : Int)), .ref ow, .ref om, .ref ok_, .ref oK, .ref og, .ref on_, .ref oh, .ref ox, .int qn, .int qf, .ref op_, .int ql])), (ow, .inl (cI, 108000, .inl fx5)), (om, .inl (cI, 9, .inl fy5))] H := hP
          have hD : va_D A [(oh, .inl (cI, 10000, .inl fh)), (og, .inl (cI, 32, .inl fs)), (on_, .inl (cI, 32, .inl fn)), (ok_, .inl (cI, 166400, .inl fk)), (oK, .inl (cI, 64, .inl fK)), (mo, .inr (8, [.int (iZ 0), .int (iZ (np : Int)), .ref ow, .ref om, .ref ok_, .ref oK, .ref og, .ref on_, .ref oh, .ref ox, .int qn, .int qf, .ref op_, .int ql])), (ow, .inl (cI, 108000, .inl fx5)), (om, .inl (cI, 9, .inl fy5))] := hD
          show W p l e R s m args below meth c H locs _ _ Q (F0 m 83 ls [])
          obtain ⟨v5, hv5⟩ : ∃ z, z = up v4 2 (v4 2 + v4 5) := ⟨_, rfl⟩
          rw [← hv5] at w5
          refine lv_aload_n hx hb d_Mo_floor_83 rfl (lv_at hl 0 rfl) ?_
          refine lv_iconst (v := iZ (0)) hx hb d_Mo_floor_84 (by decide +kernel) ?_
          refine lv_iconst (v := iZ (2)) hx hb d_Mo_floor_85 (by decide +kernel) ?_
          have q2 : v5 2 = flN (tv a) (bv a) (sg a) := by unfold flN; rw [if_pos ⟨by omega, nd_pos.mp (by omega)⟩, hv5, up_s, y42, y45]
          refine cv (n := 2) (wr := [(oh, .inl (cI, 10000, .inl fh)), (og, .inl (cI, 32, .inl fs)), (on_, .inl (cI, 32, .inl fn)), (ok_, .inl (cI, 166400, .inl fk)), (oK, .inl (cI, 64, .inl fK))]) (w1 := (fun (u : (Nat → Int32) × (Nat → Int32)) => [(mo, .inr (8, [.int (iZ 0), .int (iZ (np : Int)), .ref ow, .ref om, .ref ok_, .ref oK, .ref og, .ref on_, .ref oh, .ref ox, .int qn, .int qf, .ref op_, .int ql])), (ow, .inl (cI, 108000, .inl u.1)), (om, .inl (cI, 9, .inl u.2))])) (As := [.int (iZ 0), .int (iZ 2)]) (rest := []) K hP hD hK hS hA hl.1 (c_Mo_copyTo l D mo (iZ 0) np ow om ok_ oK og on_ oh ox qn qf op_ ql fx5 fy5 cI v5 0 2 H.size w5 (by omega) (by omega) (by omega)) [5, 6, 7] [0, 1, 2, 3, 4] [0] rfl rfl rfl (by decide) (by decide) (by decide) 0 rfl rfl (big_in mw_1193 rfl) (big_in mw_10 rfl) (big_in mw_1190 rfl) (big_in mw_1192 rfl) (big_in sp_22 rfl) rfl rfl (by decide +kernel) ⟨by rw [hR]; exact Nat.le_of_ble_eq_true rfl, by rw [hR]; exact Nat.le_of_ble_eq_true rfl⟩ rfl (Nat.le_of_ble_eq_true rfl) d_Mo_floor_86 ⟨by rw [hR]; exact Nat.le_of_ble_eq_true rfl, by rw [hR]; exact Nat.le_of_ble_eq_true rfl⟩ rfl (fun v u H locs hp15 hP hD hS _ => ?_)
          obtain ⟨fx6, fy6⟩ := u
          try dsimp only at hp15
          obtain ⟨rfl, w6⟩ := hp15
          have hP : va_P D cls0 [(oh, .inl (cI, 10000, .inl fh)), (og, .inl (cI, 32, .inl fs)), (on_, .inl (cI, 32, .inl fn)), (ok_, .inl (cI, 166400, .inl fk)), (oK, .inl (cI, 64, .inl fK)), (mo, .inr (8, [.int (iZ 0), .int (iZ (np : Int)), .ref ow, .ref om, .ref ok_, .ref oK, .ref og, .ref on_, .ref oh, .ref ox, .int qn, .int qf, .ref op_, .int ql])), (ow, .inl (cI, 108000, .inl fx6)), (om, .inl (cI, 9, .inl fy6))] H := hP
          have hD : va_D A [(oh, .inl (cI, 10000, .inl fh)), (og, .inl (cI, 32, .inl fs)), (on_, .inl (cI, 32, .inl fn)), (ok_, .inl (cI, 166400, .inl fk)), (oK, .inl (cI, 64, .inl fK)), (mo, .inr (8, [.int (iZ 0), .int (iZ (np : Int)), .ref ow, .ref om, .ref ok_, .ref oK, .ref og, .ref on_, .ref oh, .ref ox, .int qn, .int qf, .ref op_, .int ql])), (ow, .inl (cI, 108000, .inl fx6)), (om, .inl (cI, 9, .inl fy6))] := hD
          show W p l e R s m args below meth c H locs _ _ Q (F0 m 89 ls [])
          rw [q2] at w6
          obtain ⟨v6, hv6⟩ : ∃ z, z = up v5 0 (flN (tv a) (bv a) (sg a)) := ⟨_, rfl⟩
          rw [← hv6] at w6
          refine lv_aload_n hx hb d_Mo_floor_89 rfl (lv_at hl 0 rfl) ?_
          refine lv_iconst (v := iZ (1)) hx hb d_Mo_floor_90 (by decide +kernel) ?_
          refine lv_lconst (v := lZ (1)) hx hb d_Mo_floor_91 (by decide +kernel) ?_
          refine cv (n := 2) (wr := [(oh, .inl (cI, 10000, .inl fh)), (og, .inl (cI, 32, .inl fs)), (on_, .inl (cI, 32, .inl fn)), (ok_, .inl (cI, 166400, .inl fk)), (oK, .inl (cI, 64, .inl fK))]) (w1 := (fun (u : (Nat → Int32) × (Nat → Int32)) => [(mo, .inr (8, [.int (iZ 0), .int (iZ (np : Int)), .ref ow, .ref om, .ref ok_, .ref oK, .ref og, .ref on_, .ref oh, .ref ox, .int qn, .int qf, .ref op_, .int ql])), (ow, .inl (cI, 108000, .inl u.1)), (om, .inl (cI, 9, .inl u.2))])) (As := [.int (iZ 1), .long (lZ 1)]) (rest := []) K hP hD hK hS hA hl.1 (c_Mo_setLong l D mo (iZ 0) np ow om ok_ oK og on_ oh ox qn qf op_ ql fx6 fy6 cI v6 1 1 H.size w6 (by omega) (by omega)) [5, 6, 7] [0, 1, 2, 3, 4] [0] rfl rfl rfl (by decide) (by decide) (by decide) 0 rfl rfl (big_in mw_1180 rfl) (big_in mw_10 rfl) (big_in mw_1177 rfl) (big_in mw_1179 rfl) (big_in sp_19 rfl) rfl rfl (by decide +kernel) ⟨by rw [hR]; exact Nat.le_of_ble_eq_true rfl, by rw [hR]; exact Nat.le_of_ble_eq_true rfl⟩ rfl (Nat.le_of_ble_eq_true rfl) d_Mo_floor_92 ⟨by rw [hR]; exact Nat.le_of_ble_eq_true rfl, by rw [hR]; exact Nat.le_of_ble_eq_true rfl⟩ rfl (fun v u H locs hp16 hP hD hS _ => ?_)
          obtain ⟨fx7, fy7⟩ := u
          try dsimp only at hp16
          obtain ⟨rfl, w7⟩ := hp16
          have hP : va_P D cls0 [(oh, .inl (cI, 10000, .inl fh)), (og, .inl (cI, 32, .inl fs)), (on_, .inl (cI, 32, .inl fn)), (ok_, .inl (cI, 166400, .inl fk)), (oK, .inl (cI, 64, .inl fK)), (mo, .inr (8, [.int (iZ 0), .int (iZ (np : Int)), .ref ow, .ref om, .ref ok_, .ref oK, .ref og, .ref on_, .ref oh, .ref ox, .int qn, .int qf, .ref op_, .int ql])), (ow, .inl (cI, 108000, .inl fx7)), (om, .inl (cI, 9, .inl fy7))] H := hP
          have hD : va_D A [(oh, .inl (cI, 10000, .inl fh)), (og, .inl (cI, 32, .inl fs)), (on_, .inl (cI, 32, .inl fn)), (ok_, .inl (cI, 166400, .inl fk)), (oK, .inl (cI, 64, .inl fK)), (mo, .inr (8, [.int (iZ 0), .int (iZ (np : Int)), .ref ow, .ref om, .ref ok_, .ref oK, .ref og, .ref on_, .ref oh, .ref ox, .int qn, .int qf, .ref op_, .int ql])), (ow, .inl (cI, 108000, .inl fx7)), (om, .inl (cI, 9, .inl fy7))] := hD
          show W p l e R s m args below meth c H locs _ _ Q (F0 m 95 ls [])
          obtain ⟨v7, hv7⟩ : ∃ x, x = up v6 1 1 := ⟨_, rfl⟩
          have w7 : WB fx7 fy7 v7 := by rw [hv7]; exact w7
          have y70 : v7 0 = flN (tv a) (bv a) (sg a) := by rw [hv7, up_n (by decide), hv6, up_s]
          have y71 : v7 1 = 1 := by rw [hv7, up_s]
          have fl3 := flN_lm (tv a) (bv a) (sg a)
          have lm1 : lm 1 = 1 := by decide
          refine lv_aload_n hx hb d_Mo_floor_95 rfl (lv_at hl 0 rfl) ?_
          refine lv_iload_n hx hb d_Mo_floor_96 rfl (lv_at hl 1 rfl) ?_
          refine lv_aload_n hx hb d_Mo_floor_97 rfl (lv_at hl 0 rfl) ?_
          refine va_get (D := D) (ci := 8) (v := .ref og) (C := R_Mo) (T := F_Mo) (N := 14) hx hb hts i_Mo hown hK hP 5 rfl rfl 6 (by decide) (hts _ (big_in mw_1121 rfl)) (fun _ h9 => h9) rfl d_Mo_floor_98 ?_
          refine lv_iload_n hx hb d_Mo_floor_101 rfl (lv_at hl 2 rfl) ?_
          refine zz_iald hx hb hK hP 1 0 rfl rfl (a) (by omega) (by omega) (by omega) d_Mo_floor_102 ?_
          rw [hMR.2.1 a (by omega)]
          refine lv_iconst (v := iZ (2)) hx hb d_Mo_floor_103 (by decide +kernel) ?_
          refine cv (n := 3) (wr := []) (w1 := (fun (u : (Nat → Int32) × (Nat → Int32) × (Nat → Int32) × (Nat → Int32) × (Nat → Int32) × (Nat → Int32) × (Nat → Int32) × (Nat → Nat)) => [(mo, .inr (8, [.int (iZ 0), .int (iZ (np : Int)), .ref ow, .ref om, .ref ok_, .ref oK, .ref og, .ref on_, .ref oh, .ref ox, .int qn, .int qf, .ref op_, .int ql])), (ow, .inl (cI, 108000, .inl u.1)), (om, .inl (cI, 9, .inl u.2.1)), (oh, .inl (cI, 10000, .inl u.2.2.1)), (ok_, .inl (cI, 166400, .inl u.2.2.2.1)), (oK, .inl (cI, 64, .inl u.2.2.2.2.1)), (og, .inl (cI, 32, .inl u.2.2.2.2.2.1)), (on_, .inl (cI, 32, .inl u.2.2.2.2.2.2.1))])) (As := [.int (iZ (to : Int)), .int (iZ (sg a)), .int (iZ 2)]) (rest := []) K hP hD hK hS hA hl.1 (c_Mo_store l D mo (iZ 0) np ow om ok_ oK og on_ oh ox qn qf op_ ql fx7 fy7 cI fh fk fK fs fn v7 tv bv sg to (sg a) 2 H.size w7 hMR (by omega) hnd hnp (by omega) (by decide) (by rw [y70]; omega) (by rw [y71]; omega) (by rw [y70, y71]; exact hfit)) [5, 6, 7, 0, 3, 4, 1, 2] [] [0] rfl rfl rfl (by decide) (by decide) (by decide) 0 rfl rfl (big_in mw_1215 rfl) (big_in mw_10 rfl) (big_in mw_1212 rfl) (big_in mw_1214 rfl) (big_in sp_27 rfl) rfl rfl (by decide +kernel) ⟨by rw [hR]; exact Nat.le_of_ble_eq_true rfl, by rw [hR]; exact Nat.le_of_ble_eq_true rfl⟩ rfl (Nat.le_of_ble_eq_true rfl) d_Mo_floor_104 ⟨by rw [hR]; exact Nat.le_of_ble_eq_true rfl, by rw [hR]; exact Nat.le_of_ble_eq_true rfl⟩ rfl (fun v u H locs hp17 hP hD hS _ => ?_)
          obtain ⟨fa, fb, fc, fd, fe, ff, fg, v9⟩ := u
          try dsimp only at hp17
          obtain ⟨rfl, w9, q9⟩ := hp17
          have hP : va_P D cls0 [(mo, .inr (8, [.int (iZ 0), .int (iZ (np : Int)), .ref ow, .ref om, .ref ok_, .ref oK, .ref og, .ref on_, .ref oh, .ref ox, .int qn, .int qf, .ref op_, .int ql])), (ow, .inl (cI, 108000, .inl fa)), (om, .inl (cI, 9, .inl fb)), (oh, .inl (cI, 10000, .inl fc)), (ok_, .inl (cI, 166400, .inl fd)), (oK, .inl (cI, 64, .inl fe)), (og, .inl (cI, 32, .inl ff)), (on_, .inl (cI, 32, .inl fg))] H := hP
          have hD : va_D A [(mo, .inr (8, [.int (iZ 0), .int (iZ (np : Int)), .ref ow, .ref om, .ref ok_, .ref oK, .ref og, .ref on_, .ref oh, .ref ox, .int qn, .int qf, .ref op_, .int ql])), (ow, .inl (cI, 108000, .inl fa)), (om, .inl (cI, 9, .inl fb)), (oh, .inl (cI, 10000, .inl fc)), (ok_, .inl (cI, 166400, .inl fd)), (oK, .inl (cI, 64, .inl fe)), (og, .inl (cI, 32, .inl ff)), (on_, .inl (cI, 32, .inl fg))] := hD
          show W p l e R s m args below meth c H locs _ _ Q (F0 m 107 ls [.int (iZ ((lm (v7 0) : Int) + (lm (v7 1) : Int)))])
          rw [y70, y71]
          rw [y70, y71] at q9
          have hP9 : va_P D cls0 [(mo, .inr (8, [.int (iZ 0), .int (iZ (np : Int)), .ref ow, .ref om, .ref ok_, .ref oK, .ref og, .ref on_, .ref oh, .ref ox, .int qn, .int qf, .ref op_, .int ql])), (ow, .inl (cI, 108000, .inl fa)), (om, .inl (cI, 9, .inl fb)), (oh, .inl (cI, 10000, .inl fc)), (ok_, .inl (cI, 166400, .inl fd)), (oK, .inl (cI, 64, .inl fe)), (og, .inl (cI, 32, .inl ff)), (on_, .inl (cI, 32, .inl fg))] H := hP.sub [0, 1, 2, 3, 4, 5, 6, 7] rfl
          have hD9 : va_D A [(mo, .inr (8, [.int (iZ 0), .int (iZ (np : Int)), .ref ow, .ref om, .ref ok_, .ref oK, .ref og, .ref on_, .ref oh, .ref ox, .int qn, .int qf, .ref op_, .int ql])), (ow, .inl (cI, 108000, .inl fa)), (om, .inl (cI, 9, .inl fb)), (oh, .inl (cI, 10000, .inl fc)), (ok_, .inl (cI, 166400, .inl fd)), (oK, .inl (cI, 64, .inl fe)), (og, .inl (cI, 32, .inl ff)), (on_, .inl (cI, 32, .inl fg))] := hD.sub [0, 1, 2, 3, 4, 5, 6, 7] (by decide) rfl
          rw [hQ, ← hAe]
          refine r_i (v := (iZ ((lm ((flN (tv a) (bv a) (sg a))) : Int) + (lm (1) : Int)))) K (fa, fb, fc, fd, fe, ff, fg, v9) hS d_Mo_floor_107 ?_ (fun t ht hv => ?_)
          · try dsimp only
            refine ⟨rfl, w9, ?_⟩
            exact q9
          · exact ⟨by rw [ht]; exact hP9, va_K.moved hv hK, by rw [← hAe]; exact hD9⟩
set_option maxHeartbeats 4000000 in
set_option maxRecDepth 100000 in
/-- floor(to, a) -/
theorem f_Mo_floor (l : Launch) (D : va_G) (mo : Nat) (qc : Int32) (np : Nat) (ow : Nat) (om : Nat) (ok_ : Nat) (oK : Nat) (og : Nat) (on_ : Nat) (oh : Nat) (ox : Nat) (qn : Int32) (qf : Int32) (op_ : Nat) (ql : Int32) (fw : Nat → Int32) (fm : Nat → Int32) (cI : ClassId) (fh : Nat → Int32) (fk : Nat → Int32) (fK : Nat → Int32) (fs : Nat → Int32) (fn : Nat → Int32) (val : Nat → Nat) (tv : Nat → Nat) (bv : Nat → Nat) (sg : Nat → Int) (to : Nat) (a : Nat) (sz : Nat) (hW : WB fw fm val) (hMR : MoR fk fK fs fn tv bv sg) (hnd : ndS tv bv 32 ≤ np) (hnp : np ≤ 1024) (J : RgC tv bv sg) (hbv : ∀ r, r < 32 → 0 < bv r) (t1 : to < 32) (t2 : a < 32) (hfit : np + (lm (tv to) + lm (bv to)) < ndS tv bv 32 + (lm (flN (tv a) (bv a) (sg a)) + lm (1))) : Met l y_Mo_floor (wsB y_Mo_floor b_Mo_floor 3 (some .int)) ({ frames := 4, cells := 0, slots := 0, locals := 93 }) (va_Pc [.ref mo, .int (iZ (to : Int)), .int (iZ (a : Int))] (wPre D [(cI, .int)] [(mo, .inr (8, [.int qc, .int (iZ (np : Int)), .ref ow, .ref om, .ref ok_, .ref oK, .ref og, .ref on_, .ref oh, .ref ox, .int qn, .int qf, .ref op_, .int ql])), (ow, .inl (cI, 108000, .inl fw)), (om, .inl (cI, 9, .inl fm)), (oh, .inl (cI, 10000, .inl fh)), (ok_, .inl (cI, 166400, .inl fk)), (oK, .inl (cI, 64, .inl fK)), (og, .inl (cI, 32, .inl fs)), (on_, .inl (cI, 32, .inl fn))] sz)) (va_QV (fun (v_9 : Option Value) (u_9 : (Nat → Int32) × (Nat → Int32) × (Nat → Int32) × (Nat → Nat)) => v_9 = some (.int (iZ 0)) ∧ (WB u_9.1 u_9.2.1 u_9.2.2.2)) (fun u_9 => wPost D [(cI, .int)] [(mo, .inr (8, [.int qc, .int (iZ (np : Int)), .ref ow, .ref om, .ref ok_, .ref oK, .ref og, .ref on_, .ref oh, .ref ox, .int qn, .int qf, .ref op_, .int ql])), (ow, .inl (cI, 108000, .inl fw)), (om, .inl (cI, 9, .inl fm)), (oh, .inl (cI, 10000, .inl fh)), (ok_, .inl (cI, 166400, .inl fk)), (oK, .inl (cI, 64, .inl fK)), (og, .inl (cI, 32, .inl fs)), (on_, .inl (cI, 32, .inl fn))] [(mo, .inr (8, [.int (iZ 2), .int (iZ (np : Int)), .ref ow, .ref om, .ref ok_, .ref oK, .ref og, .ref on_, .ref oh, .ref ox, .int qn, .int qf, .ref op_, .int ql])), (ow, .inl (cI, 108000, .inl u_9.1)), (om, .inl (cI, 9, .inl u_9.2.1)), (oh, .inl (cI, 10000, .inl u_9.2.2.1)), (ok_, .inl (cI, 166400, .inl fk)), (oK, .inl (cI, 64, .inl fK)), (og, .inl (cI, 32, .inl fs)), (on_, .inl (cI, 32, .inl fn))] sz) (va_A [(mo, .inr (8, [.int qc, .int (iZ (np : Int)), .ref ow, .ref om, .ref ok_, .ref oK, .ref og, .ref on_, .ref oh, .ref ox, .int qn, .int qf, .ref op_, .int ql])), (ow, .inl (cI, 108000, .inl fw)), (om, .inl (cI, 9, .inl fm)), (oh, .inl (cI, 10000, .inl fh)), (ok_, .inl (cI, 166400, .inl fk)), (oK, .inl (cI, 64, .inl fK)), (og, .inl (cI, 32, .inl fs)), (on_, .inl (cI, 32, .inl fn))] sz)) 0 0 (va_A [(mo, .inr (8, [.int qc, .int (iZ (np : Int)), .ref ow, .ref om, .ref ok_, .ref oK, .ref og, .ref on_, .ref oh, .ref ox, .int qn, .int qf, .ref op_, .int ql])), (ow, .inl (cI, 108000, .inl fw)), (om, .inl (cI, 9, .inl fm)), (oh, .inl (cI, 10000, .inl fh)), (ok_, .inl (cI, 166400, .inl fk)), (oK, .inl (cI, 64, .inl fK)), (og, .inl (cI, 32, .inl fs)), (on_, .inl (cI, 32, .inl fn))] sz) := by
  refine met_enter (by decide +kernel) (Nat.le_of_ble_eq_true rfl) ?_
  intro p e s m args below meth c ls A R Q H locs K hin hAe hA hR hQ hP hK hD hS hl
  obtain ⟨hx, hb, hml, hrt, hlk, hts, hown, hno⟩ := id K
  have hl : lv_has ls 3 [(0, .ref mo), (1, .int (iZ (to : Int))), (2, .int (iZ (a : Int)))] := hl
  have hlr : ∀ q, q < 32 → lm (tv q) + lm (bv q) ≤ 1024 := fun q hq => by have z := ndS_le (tv := tv) (bv := bv) hq; omega
  have hnt : ∀ q, q < 32 → nd (tv q) ≤ 2600 := fun q hq => by have z := nd_lm (v := tv q) (L := 1024) (by have y := hlr q hq; omega); omega
  have hnb : ∀ q, q < 32 → nd (bv q) ≤ 2600 := fun q hq => by have z := nd_lm (v := bv q) (L := 1024) (by have y := hlr q hq; omega); omega
  obtain ⟨ja1, ja2, ja3⟩ := J a (by omega)
  have pa := hbv a (by omega)
  have la := hlr a (by omega)
  have n1 := hnt a (by omega)
  have n2 := hnb a (by omega)
  refine lv_aload_n hx hb d_Mo_floor_0 rfl (lv_at hl 0 rfl) ?_
  refine lv_iload_n hx hb d_Mo_floor_1 rfl (lv_at hl 1 rfl) ?_
  refine cs (n := 1) (wr := [(mo, .inr (8, [.int qc, .int (iZ (np : Int)), .ref ow, .ref om, .ref ok_, .ref oK, .ref og, .ref on_, .ref oh, .ref ox, .int qn, .int qf, .ref op_, .int ql])), (ow, .inl (cI, 108000, .inl fw)), (om, .inl (cI, 9, .inl fm)), (oh, .inl (cI, 10000, .inl fh)), (ok_, .inl (cI, 166400, .inl fk)), (oK, .inl (cI, 64, .inl fK)), (og, .inl (cI, 32, .inl fs)), (on_, .inl (cI, 32, .inl fn))]) (w1 := (fun (u : Int) => [])) (As := [.int (iZ (to : Int))]) (rest := [.ref mo]) K hP hD hK hS hA hl.1 (c_Mo_isRegister l D (to : Int) H.size (by omega)) [] [0, 1, 2, 3, 4, 5, 6, 7] [] rfl rfl rfl (by decide) (by decide) (by decide) (big_in mw_1172 rfl) (big_in mw_10 rfl) (big_in mw_1170 rfl) (big_in mw_1171 rfl) rfl rfl (by decide +kernel) ⟨by rw [hR]; exact Nat.le_of_ble_eq_true rfl, by rw [hR]; exact Nat.le_of_ble_eq_true rfl⟩ rfl (Nat.le_of_ble_eq_true rfl) d_Mo_floor_2 ⟨by rw [hR]; exact Nat.le_of_ble_eq_true rfl, by rw [hR]; exact Nat.le_of_ble_eq_true rfl⟩ rfl (fun v u H locs hp1 hP hD hS _ => ?_)
  obtain ⟨r2, rfl⟩ : ∃ z, z = u := ⟨_, rfl⟩
  obtain ⟨rfl, p2⟩ := hp1
  have hP : va_P D cls0 [(mo, .inr (8, [.int qc, .int (iZ (np : Int)), .ref ow, .ref om, .ref ok_, .ref oK, .ref og, .ref on_, .ref oh, .ref ox, .int qn, .int qf, .ref op_, .int ql])), (ow, .inl (cI, 108000, .inl fw)), (om, .inl (cI, 9, .inl fm)), (oh, .inl (cI, 10000, .inl fh)), (ok_, .inl (cI, 166400, .inl fk)), (oK, .inl (cI, 64, .inl fK)), (og, .inl (cI, 32, .inl fs)), (on_, .inl (cI, 32, .inl fn))] H := hP
  have hD : va_D A [(mo, .inr (8, [.int qc, .int (iZ (np : Int)), .ref ow, .ref om, .ref ok_, .ref oK, .ref og, .ref on_, .ref oh, .ref ox, .int qn, .int qf, .ref op_, .int ql])), (ow, .inl (cI, 108000, .inl fw)), (om, .inl (cI, 9, .inl fm)), (oh, .inl (cI, 10000, .inl fh)), (ok_, .inl (cI, 166400, .inl fk)), (oK, .inl (cI, 64, .inl fK)), (og, .inl (cI, 32, .inl fs)), (on_, .inl (cI, 32, .inl fn))] := hD
  show W p l e R s m args below meth c H locs _ _ Q (F0 m 5 ls [.int (iZ r2), .ref mo])
  have b2 : 0 ≤ r2 ∧ r2 ≤ 1 := by omega
  refine zz_if_eq (tgt := 19) hx hb d_Mo_floor_5 (by decide) (by omega) (fun c5 => ?_) (fun c5 => ?_)
  · refine lv_iconst (v := iZ (1)) hx hb d_Mo_floor_19 (by decide +kernel) ?_
    exfalso
    omega
  · refine lv_iload_n hx hb d_Mo_floor_8 rfl (lv_at hl 2 rfl) ?_
    refine cs (n := 1) (wr := [(mo, .inr (8, [.int qc, .int (iZ (np : Int)), .ref ow, .ref om, .ref ok_, .ref oK, .ref og, .ref on_, .ref oh, .ref ox, .int qn, .int qf, .ref op_, .int ql])), (ow, .inl (cI, 108000, .inl fw)), (om, .inl (cI, 9, .inl fm)), (oh, .inl (cI, 10000, .inl fh)), (ok_, .inl (cI, 166400, .inl fk)), (oK, .inl (cI, 64, .inl fK)), (og, .inl (cI, 32, .inl fs)), (on_, .inl (cI, 32, .inl fn))]) (w1 := (fun (u : Int) => [])) (As := [.int (iZ (a : Int))]) (rest := [.ref mo]) K hP hD hK hS hA hl.1 (c_Mo_isRegister l D (a : Int) H.size (by omega)) [] [0, 1, 2, 3, 4, 5, 6, 7] [] rfl rfl rfl (by decide) (by decide) (by decide) (big_in mw_1172 rfl) (big_in mw_10 rfl) (big_in mw_1170 rfl) (big_in mw_1171 rfl) rfl rfl (by decide +kernel) ⟨by rw [hR]; exact Nat.le_of_ble_eq_true rfl, by rw [hR]; exact Nat.le_of_ble_eq_true rfl⟩ rfl (Nat.le_of_ble_eq_true rfl) d_Mo_floor_9 ⟨by rw [hR]; exact Nat.le_of_ble_eq_true rfl, by rw [hR]; exact Nat.le_of_ble_eq_true rfl⟩ rfl (fun v u H locs hp2 hP hD hS _ => ?_)
    obtain ⟨r9, rfl⟩ : ∃ z, z = u := ⟨_, rfl⟩
    obtain ⟨rfl, p9⟩ := hp2
    have hP : va_P D cls0 [(mo, .inr (8, [.int qc, .int (iZ (np : Int)), .ref ow, .ref om, .ref ok_, .ref oK, .ref og, .ref on_, .ref oh, .ref ox, .int qn, .int qf, .ref op_, .int ql])), (ow, .inl (cI, 108000, .inl fw)), (om, .inl (cI, 9, .inl fm)), (oh, .inl (cI, 10000, .inl fh)), (ok_, .inl (cI, 166400, .inl fk)), (oK, .inl (cI, 64, .inl fK)), (og, .inl (cI, 32, .inl fs)), (on_, .inl (cI, 32, .inl fn))] H := hP
    have hD : va_D A [(mo, .inr (8, [.int qc, .int (iZ (np : Int)), .ref ow, .ref om, .ref ok_, .ref oK, .ref og, .ref on_, .ref oh, .ref ox, .int qn, .int qf, .ref op_, .int ql])), (ow, .inl (cI, 108000, .inl fw)), (om, .inl (cI, 9, .inl fm)), (oh, .inl (cI, 10000, .inl fh)), (ok_, .inl (cI, 166400, .inl fk)), (oK, .inl (cI, 64, .inl fK)), (og, .inl (cI, 32, .inl fs)), (on_, .inl (cI, 32, .inl fn))] := hD
    show W p l e R s m args below meth c H locs _ _ Q (F0 m 12 ls [.int (iZ r9), .ref mo])
    have b9 : 0 ≤ r9 ∧ r9 ≤ 1 := by omega
    refine zz_if_eq (tgt := 19) hx hb d_Mo_floor_12 (by decide) (by omega) (fun c12 => ?_) (fun c12 => ?_)
    · refine lv_iconst (v := iZ (1)) hx hb d_Mo_floor_19 (by decide +kernel) ?_
      exfalso
      omega
    · refine lv_iconst (v := iZ (0)) hx hb d_Mo_floor_15 (by decide +kernel) ?_
      refine lv_goto (tgt := 20) hx hb d_Mo_floor_16 (by decide) ?_
      refine cv (n := 1) (wr := [(ow, .inl (cI, 108000, .inl fw)), (om, .inl (cI, 9, .inl fm)), (oh, .inl (cI, 10000, .inl fh)), (ok_, .inl (cI, 166400, .inl fk)), (oK, .inl (cI, 64, .inl fK)), (og, .inl (cI, 32, .inl fs)), (on_, .inl (cI, 32, .inl fn))]) (w1 := (fun (u : Int) => [(mo, .inr (8, [.int (iZ 0), .int (iZ (np : Int)), .ref ow, .ref om, .ref ok_, .ref oK, .ref og, .ref on_, .ref oh, .ref ox, .int qn, .int qf, .ref op_, .int ql]))])) (As := [.int (iZ 0)]) (rest := []) K hP hD hK hS hA hl.1 (c_Mo_refuses l D mo qc np ow om ok_ oK og on_ oh ox qn qf op_ ql 0 H.size (by omega)) [0] [1, 2, 3, 4, 5, 6, 7] [] rfl rfl rfl (by decide) (by decide) (by decide) 0 rfl rfl (big_in mw_1176 rfl) (big_in mw_10 rfl) (big_in mw_1173 rfl) (big_in mw_1175 rfl) (big_in sp_18 rfl) rfl rfl (by decide +kernel) ⟨by rw [hR]; exact Nat.le_of_ble_eq_true rfl, by rw [hR]; exact Nat.le_of_ble_eq_true rfl⟩ rfl (Nat.le_of_ble_eq_true rfl) d_Mo_floor_20 ⟨by rw [hR]; exact Nat.le_of_ble_eq_true rfl, by rw [hR]; exact Nat.le_of_ble_eq_true rfl⟩ rfl (fun v u H locs hp3 hP hD hS _ => ?_)
      obtain ⟨rf, rfl⟩ : ∃ z, z = u := ⟨_, rfl⟩
      obtain ⟨rfl, prf⟩ := hp3
      have hP : va_P D cls0 [(ow, .inl (cI, 108000, .inl fw)), (om, .inl (cI, 9, .inl fm)), (oh, .inl (cI, 10000, .inl fh)), (ok_, .inl (cI, 166400, .inl fk)), (oK, .inl (cI, 64, .inl fK)), (og, .inl (cI, 32, .inl fs)), (on_, .inl (cI, 32, .inl fn)), (mo, .inr (8, [.int (iZ 0), .int (iZ (np : Int)), .ref ow, .ref om, .ref ok_, .ref oK, .ref og, .ref on_, .ref oh, .ref ox, .int qn, .int qf, .ref op_, .int ql]))] H := hP
      have hD : va_D A [(ow, .inl (cI, 108000, .inl fw)), (om, .inl (cI, 9, .inl fm)), (oh, .inl (cI, 10000, .inl fh)), (ok_, .inl (cI, 166400, .inl fk)), (oK, .inl (cI, 64, .inl fK)), (og, .inl (cI, 32, .inl fs)), (on_, .inl (cI, 32, .inl fn)), (mo, .inr (8, [.int (iZ 0), .int (iZ (np : Int)), .ref ow, .ref om, .ref ok_, .ref oK, .ref og, .ref on_, .ref oh, .ref ox, .int qn, .int qf, .ref op_, .int ql]))] := hD
      show W p l e R s m args below meth c H locs _ _ Q (F0 m 23 ls [.int (iZ rf)])
      refine zz_if_eq (tgt := 28) hx hb d_Mo_floor_23 (by decide) (by omega) (fun c23 => ?_) (fun c23 => False.elim (by omega))
      refine lv_aload_n hx hb d_Mo_floor_28 rfl (lv_at hl 0 rfl) ?_
      refine lv_iconst (v := iZ (0)) hx hb d_Mo_floor_29 (by decide +kernel) ?_
      refine lv_iconst (v := iZ (2)) hx hb d_Mo_floor_30 (by decide +kernel) ?_
      refine lv_iload_n hx hb d_Mo_floor_31 rfl (lv_at hl 2 rfl) ?_
      refine zz_imul hx hb d_Mo_floor_32 ?_
      rw [show (2 * (a : Int) : Int) = ((2 * a : Nat) : Int) by omega]
      refine cv (n := 2) (wr := [(oh, .inl (cI, 10000, .inl fh)), (og, .inl (cI, 32, .inl fs)), (on_, .inl (cI, 32, .inl fn))]) (w1 := (fun (u : (Nat → Int32) × (Nat → Int32)) => [(mo, .inr (8, [.int (iZ 0), .int (iZ (np : Int)), .ref ow, .ref om, .ref ok_, .ref oK, .ref og, .ref on_, .ref oh, .ref ox, .int qn, .int qf, .ref op_, .int ql])), (ow, .inl (cI, 108000, .inl u.1)), (om, .inl (cI, 9, .inl u.2)), (ok_, .inl (cI, 166400, .inl fk)), (oK, .inl (cI, 64, .inl fK))])) (As := [.int (iZ 0), .int (iZ ((2 * a : Nat) : Int))]) (rest := []) K hP hD hK hS hA hl.1 (c_Mo_load l D mo (iZ 0) np ow om ok_ oK og on_ oh ox qn qf op_ ql fw fm cI fk fK val (kvf tv bv) 0 (2 * a) H.size hW hMR.1 (by decide) (by omega)) [7, 0, 1, 3, 4] [2, 5, 6] [0] rfl rfl rfl (by decide) (by decide) (by decide) 0 rfl rfl (big_in mw_1238 rfl) (big_in mw_10 rfl) (big_in mw_1235 rfl) (big_in mw_1237 rfl) (big_in sp_31 rfl) rfl rfl (by decide +kernel) ⟨by rw [hR]; exact Nat.le_of_ble_eq_true rfl, by rw [hR]; exact Nat.le_of_ble_eq_true rfl⟩ rfl (Nat.le_of_ble_eq_true rfl) d_Mo_floor_33 ⟨by rw [hR]; exact Nat.le_of_ble_eq_true rfl, by rw [hR]; exact Nat.le_of_ble_eq_true rfl⟩ rfl (fun v u H locs hp4 hP hD hS _ => ?_)
      obtain ⟨fx1, fy1⟩ := u
      try dsimp only at hp4
      obtain ⟨rfl, w1⟩ := hp4
      have hP : va_P D cls0 [(oh, .inl (cI, 10000, .inl fh)), (og, .inl (cI, 32, .inl fs)), (on_, .inl (cI, 32, .inl fn)), (mo, .inr (8, [.int (iZ 0), .int (iZ (np : Int)), .ref ow, .ref om, .ref ok_, .ref oK, .ref og, .ref on_, .ref oh, .ref ox, .int qn, .int qf, .ref op_, .int ql])), (ow, .inl (cI, 108000, .inl fx1)), (om, .inl (cI, 9, .inl fy1)), (ok_, .inl (cI, 166400, .inl fk)), (oK, .inl (cI, 64, .inl fK))] H := hP
      have hD : va_D A [(oh, .inl (cI, 10000, .inl fh)), (og, .inl (cI, 32, .inl fs)), (on_, .inl (cI, 32, .inl fn)), (mo, .inr (8, [.int (iZ 0), .int (iZ (np : Int)), .ref ow, .ref om, .ref ok_, .ref oK, .ref og, .ref on_, .ref oh, .ref ox, .int qn, .int qf, .ref op_, .int ql])), (ow, .inl (cI, 108000, .inl fx1)), (om, .inl (cI, 9, .inl fy1)), (ok_, .inl (cI, 166400, .inl fk)), (oK, .inl (cI, 64, .inl fK))] := hD
      show W p l e R s m args below meth c H locs _ _ Q (F0 m 36 ls [])
      rw [kvf_0] at w1
      obtain ⟨v1, hv1⟩ : ∃ z, z = up val 0 (tv a) := ⟨_, rfl⟩
      rw [← hv1] at w1
      refine lv_aload_n hx hb d_Mo_floor_36 rfl (lv_at hl 0 rfl) ?_
      refine lv_iconst (v := iZ (1)) hx hb d_Mo_floor_37 (by decide +kernel) ?_
      refine lv_iconst (v := iZ (2)) hx hb d_Mo_floor_38 (by decide +kernel) ?_
      refine lv_iload_n hx hb d_Mo_floor_39 rfl (lv_at hl 2 rfl) ?_
      refine zz_imul hx hb d_Mo_floor_40 ?_
      refine lv_iconst (v := iZ (1)) hx hb d_Mo_floor_41 (by decide +kernel) ?_
      refine zz_iadd hx hb d_Mo_floor_42 ?_
      rw [show (2 * (a : Int) + 1 : Int) = ((2 * a + 1 : Nat) : Int) by omega]
      refine cv (n := 2) (wr := [(oh, .inl (cI, 10000, .inl fh)), (og, .inl (cI, 32, .inl fs)), (on_, .inl (cI, 32, .inl fn))]) (w1 := (fun (u : (Nat → Int32) × (Nat → Int32)) => [(mo, .inr (8, [.int (iZ 0), .int (iZ (np : Int)), .ref ow, .ref om, .ref ok_, .ref oK, .ref og, .ref on_, .ref oh, .ref ox, .int qn, .int qf, .ref op_, .int ql])), (ow, .inl (cI, 108000, .inl u.1)), (om, .inl (cI, 9, .inl u.2)), (ok_, .inl (cI, 166400, .inl fk)), (oK, .inl (cI, 64, .inl fK))])) (As := [.int (iZ 1), .int (iZ ((2 * a + 1 : Nat) : Int))]) (rest := []) K hP hD hK hS hA hl.1 (c_Mo_load l D mo (iZ 0) np ow om ok_ oK og on_ oh ox qn qf op_ ql fx1 fy1 cI fk fK v1 (kvf tv bv) 1 (2 * a + 1) H.size w1 hMR.1 (by decide) (by omega)) [3, 4, 5, 6, 7] [0, 1, 2] [0] rfl rfl rfl (by decide) (by decide) (by decide) 0 rfl rfl (big_in mw_1238 rfl) (big_in mw_10 rfl) (big_in mw_1235 rfl) (big_in mw_1237 rfl) (big_in sp_31 rfl) rfl rfl (by decide +kernel) ⟨by rw [hR]; exact Nat.le_of_ble_eq_true rfl, by rw [hR]; exact Nat.le_of_ble_eq_true rfl⟩ rfl (Nat.le_of_ble_eq_true rfl) d_Mo_floor_43 ⟨by rw [hR]; exact Nat.le_of_ble_eq_true rfl, by rw [hR]; exact Nat.le_of_ble_eq_true rfl⟩ rfl (fun v u H locs hp5 hP hD hS _ => ?_)
      obtain ⟨fx2, fy2⟩ := u
      try dsimp only at hp5
      obtain ⟨rfl, w2⟩ := hp5
      have hP : va_P D cls0 [(oh, .inl (cI, 10000, .inl fh)), (og, .inl (cI, 32, .inl fs)), (on_, .inl (cI, 32, .inl fn)), (mo, .inr (8, [.int (iZ 0), .int (iZ (np : Int)), .ref ow, .ref om, .ref ok_, .ref oK, .ref og, .ref on_, .ref oh, .ref ox, .int qn, .int qf, .ref op_, .int ql])), (ow, .inl (cI, 108000, .inl fx2)), (om, .inl (cI, 9, .inl fy2)), (ok_, .inl (cI, 166400, .inl fk)), (oK, .inl (cI, 64, .inl fK))] H := hP
      have hD : va_D A [(oh, .inl (cI, 10000, .inl fh)), (og, .inl (cI, 32, .inl fs)), (on_, .inl (cI, 32, .inl fn)), (mo, .inr (8, [.int (iZ 0), .int (iZ (np : Int)), .ref ow, .ref om, .ref ok_, .ref oK, .ref og, .ref on_, .ref oh, .ref ox, .int qn, .int qf, .ref op_, .int ql])), (ow, .inl (cI, 108000, .inl fx2)), (om, .inl (cI, 9, .inl fy2)), (ok_, .inl (cI, 166400, .inl fk)), (oK, .inl (cI, 64, .inl fK))] := hD
      show W p l e R s m args below meth c H locs _ _ Q (F0 m 46 ls [])
      rw [kvf_1] at w2
      obtain ⟨v2, hv2⟩ : ∃ z, z = up v1 1 (bv a) := ⟨_, rfl⟩
      rw [← hv2] at w2
      have e0 : v2 0 = tv a := by rw [hv2, up_n (by decide), hv1, up_s]
      have e1 : v2 1 = bv a := by rw [hv2, up_s]
      have ba := hlr a (by omega)
      refine lv_aload_n hx hb d_Mo_floor_46 rfl (lv_at hl 0 rfl) ?_
      refine lv_iconst (v := iZ (2)) hx hb d_Mo_floor_47 (by decide +kernel) ?_
      refine lv_iconst (v := iZ (0)) hx hb d_Mo_floor_48 (by decide +kernel) ?_
      refine lv_iconst (v := iZ (1)) hx hb d_Mo_floor_49 (by decide +kernel) ?_
      refine cv (n := 3) (wr := [(oh, .inl (cI, 10000, .inl fh)), (og, .inl (cI, 32, .inl fs)), (on_, .inl (cI, 32, .inl fn)), (ok_, .inl (cI, 166400, .inl fk)), (oK, .inl (cI, 64, .inl fK))]) (w1 := (fun (u : (Nat → Int32) × (Nat → Int32)) => [(mo, .inr (8, [.int (iZ 0), .int (iZ (np : Int)), .ref ow, .ref om, .ref ok_, .ref oK, .ref og, .ref on_, .ref oh, .ref ox, .int qn, .int qf, .ref op_, .int ql])), (ow, .inl (cI, 108000, .inl u.1)), (om, .inl (cI, 9, .inl u.2))])) (As := [.int (iZ 2), .int (iZ 0), .int (iZ 1)]) (rest := []) K hP hD hK hS hA hl.1 (c_Mo_divideBy l D mo (iZ 0) np ow om ok_ oK og on_ oh ox qn qf op_ ql fx2 fy2 cI v2 2 0 1 H.size w2 (by decide) (by decide) (by decide) (by decide) (by decide) (by decide) (by rw [e1]; exact pa) (by rw [e0]; omega)) [3, 4, 5] [0, 1, 2, 6, 7] [0] rfl rfl rfl (by decide) (by decide) (by decide) 0 rfl rfl (big_in mw_1201 rfl) (big_in mw_10 rfl) (big_in mw_1198 rfl) (big_in mw_1200 rfl) (big_in sp_24 rfl) rfl rfl (by decide +kernel) ⟨by rw [hR]; exact Nat.le_of_ble_eq_true rfl, by rw [hR]; exact Nat.le_of_ble_eq_true rfl⟩ rfl (Nat.le_of_ble_eq_true rfl) d_Mo_floor_50 ⟨by rw [hR]; exact Nat.le_of_ble_eq_true rfl, by rw [hR]; exact Nat.le_of_ble_eq_true rfl⟩ rfl (fun v u H locs hp6 hP hD hS _ => ?_)
      obtain ⟨fx3, fy3⟩ := u
      try dsimp only at hp6
      obtain ⟨rfl, w3⟩ := hp6
      have hP : va_P D cls0 [(oh, .inl (cI, 10000, .inl fh)), (og, .inl (cI, 32, .inl fs)), (on_, .inl (cI, 32, .inl fn)), (ok_, .inl (cI, 166400, .inl fk)), (oK, .inl (cI, 64, .inl fK)), (mo, .inr (8, [.int (iZ 0), .int (iZ (np : Int)), .ref ow, .ref om, .ref ok_, .ref oK, .ref og, .ref on_, .ref oh, .ref ox, .int qn, .int qf, .ref op_, .int ql])), (ow, .inl (cI, 108000, .inl fx3)), (om, .inl (cI, 9, .inl fy3))] H := hP
      have hD : va_D A [(oh, .inl (cI, 10000, .inl fh)), (og, .inl (cI, 32, .inl fs)), (on_, .inl (cI, 32, .inl fn)), (ok_, .inl (cI, 166400, .inl fk)), (oK, .inl (cI, 64, .inl fK)), (mo, .inr (8, [.int (iZ 0), .int (iZ (np : Int)), .ref ow, .ref om, .ref ok_, .ref oK, .ref og, .ref on_, .ref oh, .ref ox, .int qn, .int qf, .ref op_, .int ql])), (ow, .inl (cI, 108000, .inl fx3)), (om, .inl (cI, 9, .inl fy3))] := hD
      show W p l e R s m args below meth c H locs _ _ Q (F0 m 53 ls [])
      rw [e0, e1] at w3
      obtain ⟨v3, hv3⟩ : ∃ z, z = up (up v2 2 (tv a / bv a)) 0 (tv a % bv a) := ⟨_, rfl⟩
      rw [← hv3] at w3
      have y30 : v3 0 = tv a % bv a := by rw [hv3, up_s]
      have y32 : v3 2 = tv a / bv a := by rw [hv3, up_n (by decide), up_s]
      have nq := nd_mono (Nat.div_le_self (tv a) (bv a))
      have nr := nd_mono (Nat.mod_le (tv a) (bv a))
      refine lv_aload_n hx hb d_Mo_floor_53 rfl (lv_at hl 0 rfl) ?_
      refine va_get (D := D) (ci := 8) (v := .ref og) (C := R_Mo) (T := F_Mo) (N := 14) hx hb hts i_Mo hown hK hP 5 rfl rfl 6 (by decide) (hts _ (big_in mw_1121 rfl)) (fun _ h9 => h9) rfl d_Mo_floor_54 ?_
      refine lv_iload_n hx hb d_Mo_floor_57 rfl (lv_at hl 2 rfl) ?_
      refine zz_iald hx hb hK hP 1 0 rfl rfl (a) (by omega) (by omega) (by omega) d_Mo_floor_58 ?_
      rw [hMR.2.1 a (by omega)]
      refine zz_if_ge (tgt := 83) hx hb d_Mo_floor_59 (by decide) (by omega) (fun c59 => ?_) (fun c59 => ?_)
      · refine lv_aload_n hx hb d_Mo_floor_83 rfl (lv_at hl 0 rfl) ?_
        refine lv_iconst (v := iZ (0)) hx hb d_Mo_floor_84 (by decide +kernel) ?_
        refine lv_iconst (v := iZ (2)) hx hb d_Mo_floor_85 (by decide +kernel) ?_
        have q2 : v3 2 = flN (tv a) (bv a) (sg a) := by unfold flN; rw [if_neg (fun z => by have y := nd_pos.mpr z.2; omega), Nat.add_zero]; exact y32
        refine cv (n := 2) (wr := [(oh, .inl (cI, 10000, .inl fh)), (og, .inl (cI, 32, .inl fs)), (on_, .inl (cI, 32, .inl fn)), (ok_, .inl (cI, 166400, .inl fk)), (oK, .inl (cI, 64, .inl fK))]) (w1 := (fun (u : (Nat → Int32) × (Nat → Int32)) => [(mo, .inr (8, [.int (iZ 0), .int (iZ (np : Int)), .ref ow, .ref om, .ref ok_, .ref oK, .ref og, .ref on_, .ref oh, .ref ox, .int qn, .int qf, .ref op_, .int ql])), (ow, .inl (cI, 108000, .inl u.1)), (om, .inl (cI, 9, .inl u.2))])) (As := [.int (iZ 0), .int (iZ 2)]) (rest := []) K hP hD hK hS hA hl.1 (c_Mo_copyTo l D mo (iZ 0) np ow om ok_ oK og on_ oh ox qn qf op_ ql fx3 fy3 cI v3 0 2 H.size w3 (by omega) (by omega) (by omega)) [5, 6, 7] [0, 1, 2, 3, 4] [0] rfl rfl rfl (by decide) (by decide) (by decide) 0 rfl rfl (big_in mw_1193 rfl) (big_in mw_10 rfl) (big_in mw_1190 rfl) (big_in mw_1192 rfl) (big_in sp_22 rfl) rfl rfl (by decide +kernel) ⟨by rw [hR]; exact Nat.le_of_ble_eq_true rfl, by rw [hR]; exact Nat.le_of_ble_eq_true rfl⟩ rfl (Nat.le_of_ble_eq_true rfl) d_Mo_floor_86 ⟨by rw [hR]; exact Nat.le_of_ble_eq_true rfl, by rw [hR]; exact Nat.le_of_ble_eq_true rfl⟩ rfl (fun v u H locs hp7 hP hD hS _ => ?_)
        obtain ⟨fx6, fy6⟩ := u
        try dsimp only at hp7
        obtain ⟨rfl, w6⟩ := hp7
        have hP : va_P D cls0 [(oh, .inl (cI, 10000, .inl fh)), (og, .inl (cI, 32, .inl fs)), (on_, .inl (cI, 32, .inl fn)), (ok_, .inl (cI, 166400, .inl fk)), (oK, .inl (cI, 64, .inl fK)), (mo, .inr (8, [.int (iZ 0), .int (iZ (np : Int)), .ref ow, .ref om, .ref ok_, .ref oK, .ref og, .ref on_, .ref oh, .ref ox, .int qn, .int qf, .ref op_, .int ql])), (ow, .inl (cI, 108000, .inl fx6)), (om, .inl (cI, 9, .inl fy6))] H := hP
        have hD : va_D A [(oh, .inl (cI, 10000, .inl fh)), (og, .inl (cI, 32, .inl fs)), (on_, .inl (cI, 32, .inl fn)), (ok_, .inl (cI, 166400, .inl fk)), (oK, .inl (cI, 64, .inl fK)), (mo, .inr (8, [.int (iZ 0), .int (iZ (np : Int)), .ref ow, .ref om, .ref ok_, .ref oK, .ref og, .ref on_, .ref oh, .ref ox, .int qn, .int qf, .ref op_, .int ql])), (ow, .inl (cI, 108000, .inl fx6)), (om, .inl (cI, 9, .inl fy6))] := hD
        show W p l e R s m args below meth c H locs _ _ Q (F0 m 89 ls [])
        rw [q2] at w6
        obtain ⟨v6, hv6⟩ : ∃ z, z = up v3 0 (flN (tv a) (bv a) (sg a)) := ⟨_, rfl⟩
        rw [← hv6] at w6
        refine lv_aload_n hx hb d_Mo_floor_89 rfl (lv_at hl 0 rfl) ?_
        refine lv_iconst (v := iZ (1)) hx hb d_Mo_floor_90 (by decide +kernel) ?_
        refine lv_lconst (v := lZ (1)) hx hb d_Mo_floor_91 (by decide +kernel) ?_
        refine cv (n := 2) (wr := [(oh, .inl (cI, 10000, .inl fh)), (og, .inl (cI, 32, .inl fs)), (on_, .inl (cI, 32, .inl fn)), (ok_, .inl (cI, 166400, .inl fk)), (oK, .inl (cI, 64, .inl fK))]) (w1 := (fun (u : (Nat → Int32) × (Nat → Int32)) => [(mo, .inr (8, [.int (iZ 0), .int (iZ (np : Int)), .ref ow, .ref om, .ref ok_, .ref oK, .ref og, .ref on_, .ref oh, .ref ox, .int qn, .int qf, .ref op_, .int ql])), (ow, .inl (cI, 108000, .inl u.1)), (om, .inl (cI, 9, .inl u.2))])) (As := [.int (iZ 1), .long (lZ 1)]) (rest := []) K hP hD hK hS hA hl.1 (c_Mo_setLong l D mo (iZ 0) np ow om ok_ oK og on_ oh ox qn qf op_ ql fx6 fy6 cI v6 1 1 H.size w6 (by omega) (by omega)) [5, 6, 7] [0, 1, 2, 3, 4] [0] rfl rfl rfl (by decide) (by decide) (by decide) 0 rfl rfl (big_in mw_1180 rfl) (big_in mw_10 rfl) (big_in mw_1177 rfl) (big_in mw_1179 rfl) (big_in sp_19 rfl) rfl rfl (by decide +kernel) ⟨by rw [hR]; exact Nat.le_of_ble_eq_true rfl, by rw [hR]; exact Nat.le_of_ble_eq_true rfl⟩ rfl (Nat.le_of_ble_eq_true rfl) d_Mo_floor_92 ⟨by rw [hR]; exact Nat.le_of_ble_eq_true rfl, by rw [hR]; exact Nat.le_of_ble_eq_true rfl⟩ rfl (fun v u H locs hp8 hP hD hS _ => ?_)
        obtain ⟨fx7, fy7⟩ := u
        try dsimp only at hp8
        obtain ⟨rfl, w7⟩ := hp8
        have hP : va_P D cls0 [(oh, .inl (cI, 10000, .inl fh)), (og, .inl (cI, 32, .inl fs)), (on_, .inl (cI, 32, .inl fn)), (ok_, .inl (cI, 166400, .inl fk)), (oK, .inl (cI, 64, .inl fK)), (mo, .inr (8, [.int (iZ 0), .int (iZ (np : Int)), .ref ow, .ref om, .ref ok_, .ref oK, .ref og, .ref on_, .ref oh, .ref ox, .int qn, .int qf, .ref op_, .int ql])), (ow, .inl (cI, 108000, .inl fx7)), (om, .inl (cI, 9, .inl fy7))] H := hP
        have hD : va_D A [(oh, .inl (cI, 10000, .inl fh)), (og, .inl (cI, 32, .inl fs)), (on_, .inl (cI, 32, .inl fn)), (ok_, .inl (cI, 166400, .inl fk)), (oK, .inl (cI, 64, .inl fK)), (mo, .inr (8, [.int (iZ 0), .int (iZ (np : Int)), .ref ow, .ref om, .ref ok_, .ref oK, .ref og, .ref on_, .ref oh, .ref ox, .int qn, .int qf, .ref op_, .int ql])), (ow, .inl (cI, 108000, .inl fx7)), (om, .inl (cI, 9, .inl fy7))] := hD
        show W p l e R s m args below meth c H locs _ _ Q (F0 m 95 ls [])
        obtain ⟨v7, hv7⟩ : ∃ x, x = up v6 1 1 := ⟨_, rfl⟩
        have w7 : WB fx7 fy7 v7 := by rw [hv7]; exact w7
        have y70 : v7 0 = flN (tv a) (bv a) (sg a) := by rw [hv7, up_n (by decide), hv6, up_s]
        have y71 : v7 1 = 1 := by rw [hv7, up_s]
        have fl3 := flN_lm (tv a) (bv a) (sg a)
        have lm1 : lm 1 = 1 := by decide
        refine lv_aload_n hx hb d_Mo_floor_95 rfl (lv_at hl 0 rfl) ?_
        refine lv_iload_n hx hb d_Mo_floor_96 rfl (lv_at hl 1 rfl) ?_
        refine lv_aload_n hx hb d_Mo_floor_97 rfl (lv_at hl 0 rfl) ?_
        refine va_get (D := D) (ci := 8) (v := .ref og) (C := R_Mo) (T := F_Mo) (N := 14) hx hb hts i_Mo hown hK hP 5 rfl rfl 6 (by decide) (hts _ (big_in mw_1121 rfl)) (fun _ h9 => h9) rfl d_Mo_floor_98 ?_
        refine lv_iload_n hx hb d_Mo_floor_101 rfl (lv_at hl 2 rfl) ?_
        refine zz_iald hx hb hK hP 1 0 rfl rfl (a) (by omega) (by omega) (by omega) d_Mo_floor_102 ?_
        rw [hMR.2.1 a (by omega)]
        refine lv_iconst (v := iZ (2)) hx hb d_Mo_floor_103 (by decide +kernel) ?_
        refine cv (n := 3) (wr := []) (w1 := (fun (u : (Nat → Int32) × (Nat → Int32) × (Nat → Int32) × (Nat → Nat)) => [(mo, .inr (8, [.int (iZ 2), .int (iZ (np : Int)), .ref ow, .ref om, .ref ok_, .ref oK, .ref og, .ref on_, .ref oh, .ref ox, .int qn, .int qf, .ref op_, .int ql])), (ow, .inl (cI, 108000, .inl u.1)), (om, .inl (cI, 9, .inl u.2.1)), (oh, .inl (cI, 10000, .inl u.2.2.1)), (ok_, .inl (cI, 166400, .inl fk)), (oK, .inl (cI, 64, .inl fK)), (og, .inl (cI, 32, .inl fs)), (on_, .inl (cI, 32, .inl fn))])) (As := [.int (iZ (to : Int)), .int (iZ (sg a)), .int (iZ 2)]) (rest := []) K hP hD hK hS hA hl.1 (c_Mo_storeX l D mo (iZ 0) np ow om ok_ oK og on_ oh ox qn qf op_ ql fx7 fy7 cI fh fk fK fs fn v7 tv bv sg to (sg a) 2 H.size w7 hMR (by omega) hnd hnp (by omega) (by decide) (by rw [y70]; omega) (by rw [y71]; omega) (by rw [y70, y71]; exact hfit)) [5, 6, 7, 0, 3, 4, 1, 2] [] [0] rfl rfl rfl (by decide) (by decide) (by decide) 0 rfl rfl (big_in mw_1215 rfl) (big_in mw_10 rfl) (big_in mw_1212 rfl) (big_in mw_1214 rfl) (big_in sp_27 rfl) rfl rfl (by decide +kernel) ⟨by rw [hR]; exact Nat.le_of_ble_eq_true rfl, by rw [hR]; exact Nat.le_of_ble_eq_true rfl⟩ rfl (Nat.le_of_ble_eq_true rfl) d_Mo_floor_104 ⟨by rw [hR]; exact Nat.le_of_ble_eq_true rfl, by rw [hR]; exact Nat.le_of_ble_eq_true rfl⟩ rfl (fun v u H locs hp9 hP hD hS _ => ?_)
        obtain ⟨fa, fb, fc, v9⟩ := u
        try dsimp only at hp9
        obtain ⟨rfl, w9⟩ := hp9
        have hP : va_P D cls0 [(mo, .inr (8, [.int (iZ 2), .int (iZ (np : Int)), .ref ow, .ref om, .ref ok_, .ref oK, .ref og, .ref on_, .ref oh, .ref ox, .int qn, .int qf, .ref op_, .int ql])), (ow, .inl (cI, 108000, .inl fa)), (om, .inl (cI, 9, .inl fb)), (oh, .inl (cI, 10000, .inl fc)), (ok_, .inl (cI, 166400, .inl fk)), (oK, .inl (cI, 64, .inl fK)), (og, .inl (cI, 32, .inl fs)), (on_, .inl (cI, 32, .inl fn))] H := hP
        have hD : va_D A [(mo, .inr (8, [.int (iZ 2), .int (iZ (np : Int)), .ref ow, .ref om, .ref ok_, .ref oK, .ref og, .ref on_, .ref oh, .ref ox, .int qn, .int qf, .ref op_, .int ql])), (ow, .inl (cI, 108000, .inl fa)), (om, .inl (cI, 9, .inl fb)), (oh, .inl (cI, 10000, .inl fc)), (ok_, .inl (cI, 166400, .inl fk)), (oK, .inl (cI, 64, .inl fK)), (og, .inl (cI, 32, .inl fs)), (on_, .inl (cI, 32, .inl fn))] := hD
        show W p l e R s m args below meth c H locs _ _ Q (F0 m 107 ls [.int (iZ 0)])
        have hP9 : va_P D cls0 [(mo, .inr (8, [.int (iZ 2), .int (iZ (np : Int)), .ref ow, .ref om, .ref ok_, .ref oK, .ref og, .ref on_, .ref oh, .ref ox, .int qn, .int qf, .ref op_, .int ql])), (ow, .inl (cI, 108000, .inl fa)), (om, .inl (cI, 9, .inl fb)), (oh, .inl (cI, 10000, .inl fc)), (ok_, .inl (cI, 166400, .inl fk)), (oK, .inl (cI, 64, .inl fK)), (og, .inl (cI, 32, .inl fs)), (on_, .inl (cI, 32, .inl fn))] H := hP.sub [0, 1, 2, 3, 4, 5, 6, 7] rfl
        have hD9 : va_D A [(mo, .inr (8, [.int (iZ 2), .int (iZ (np : Int)), .ref ow, .ref om, .ref ok_, .ref oK, .ref og, .ref on_, .ref oh, .ref ox, .int qn, .int qf, .ref op_, .int ql])), (ow, .inl (cI, 108000, .inl fa)), (om, .inl (cI, 9, .inl fb)), (oh, .inl (cI, 10000, .inl fc)), (ok_, .inl (cI, 166400, .inl fk)), (oK, .inl (cI, 64, .inl fK)), (og, .inl (cI, 32, .inl fs)), (on_, .inl (cI, 32, .inl fn))] := hD.sub [0, 1, 2, 3, 4, 5, 6, 7] (by decide) rfl
        rw [hQ, ← hAe]
        refine r_i (v := (iZ 0)) K (fa, fb, fc, v9) hS d_Mo_floor_107 ?_ (fun t ht hv => ?_)
        · exact ⟨rfl, w9⟩
        · exact ⟨by rw [ht]; exact hP9, va_K.moved hv hK, by rw [← hAe]; exact hD9⟩
      · refine lv_aload_n hx hb d_Mo_floor_62 rfl (lv_at hl 0 rfl) ?_
        refine va_get (D := D) (ci := 8) (v := .ref om) (C := R_Mo) (T := F_Mo) (N := 14) hx hb hts i_Mo hown hK hP 5 rfl rfl 3 (by decide) (hts _ (big_in mw_1118 rfl)) (fun _ h9 => h9) rfl d_Mo_floor_63 ?_
        refine lv_iconst (v := iZ (0)) hx hb d_Mo_floor_66 (by decide +kernel) ?_
        refine zz_iald hx hb hK hP 7 0 rfl rfl (0) (by omega) (by omega) (by omega) d_Mo_floor_67 ?_
        rw [w3.m (by decide), y30]
        refine zz_if_le (tgt := 83) hx hb d_Mo_floor_68 (by decide) (by omega) (fun c68 => ?_) (fun c68 => ?_)
        · refine lv_aload_n hx hb d_Mo_floor_83 rfl (lv_at hl 0 rfl) ?_
          refine lv_iconst (v := iZ (0)) hx hb d_Mo_floor_84 (by decide +kernel) ?_
          refine lv_iconst (v := iZ (2)) hx hb d_Mo_floor_85 (by decide +kernel) ?_
          have q2 : v3 2 = flN (tv a) (bv a) (sg a) := by unfold flN; rw [if_neg (fun z => by have y := nd_pos.mpr z.2; omega), Nat.add_zero]; exact y32
          refine cv (n := 2) (wr := [(oh, .inl (cI, 10000, .inl fh)), (og, .inl (cI, 32, .inl fs)), (on_, .inl (cI, 32, .inl fn)), (ok_, .inl (cI, 166400, .inl fk)), (oK, .inl (cI, 64, .inl fK))]) (w1 := (fun (u : (Nat → Int32) × (Nat → Int32)) => [(mo, .inr (8, [.int (iZ 0), .int (iZ (np : Int)), .ref ow, .ref om, .ref ok_, .ref oK, .ref og, .ref on_, .ref oh, .ref ox, .int qn, .int qf, .ref op_, .int ql])), (ow, .inl (cI, 108000, .inl u.1)), (om, .inl (cI, 9, .inl u.2))])) (As := [.int (iZ 0), .int (iZ 2)]) (rest := []) K hP hD hK hS hA hl.1 (c_Mo_copyTo l D mo (iZ 0) np ow om ok_ oK og on_ oh ox qn qf op_ ql fx3 fy3 cI v3 0 2 H.size w3 (by omega) (by omega) (by omega)) [5, 6, 7] [0, 1, 2, 3, 4] [0] rfl rfl rfl (by decide) (by decide) (by decide) 0 rfl rfl (big_in mw_1193 rfl) (big_in mw_10 rfl) (big_in mw_1190 rfl) (big_in mw_1192 rfl) (big_in sp_22 rfl) rfl rfl (by decide +kernel) ⟨by rw [hR]; exact Nat.le_of_ble_eq_true rfl, by rw [hR]; exact Nat.le_of_ble_eq_true rfl⟩ rfl (Nat.le_of_ble_eq_true rfl) d_Mo_floor_86 ⟨by rw [hR]; exact Nat.le_of_ble_eq_true rfl, by rw [hR]; exact Nat.le_of_ble_eq_true rfl⟩ rfl (fun v u H locs hp10 hP hD hS _ => ?_)
          obtain ⟨fx6, fy6⟩ := u
          try dsimp only at hp10
          obtain ⟨rfl, w6⟩ := hp10
          have hP : va_P D cls0 [(oh, .inl (cI, 10000, .inl fh)), (og, .inl (cI, 32, .inl fs)), (on_, .inl (cI, 32, .inl fn)), (ok_, .inl (cI, 166400, .inl fk)), (oK, .inl (cI, 64, .inl fK)), (mo, .inr (8, [.int (iZ 0), .int (iZ (np : Int)), .ref ow, .ref om, .ref ok_, .ref oK, .ref og, .ref on_, .ref oh, .ref ox, .int qn, .int qf, .ref op_, .int ql])), (ow, .inl (cI, 108000, .inl fx6)), (om, .inl (cI, 9, .inl fy6))] H := hP
          have hD : va_D A [(oh, .inl (cI, 10000, .inl fh)), (og, .inl (cI, 32, .inl fs)), (on_, .inl (cI, 32, .inl fn)), (ok_, .inl (cI, 166400, .inl fk)), (oK, .inl (cI, 64, .inl fK)), (mo, .inr (8, [.int (iZ 0), .int (iZ (np : Int)), .ref ow, .ref om, .ref ok_, .ref oK, .ref og, .ref on_, .ref oh, .ref ox, .int qn, .int qf, .ref op_, .int ql])), (ow, .inl (cI, 108000, .inl fx6)), (om, .inl (cI, 9, .inl fy6))] := hD
          show W p l e R s m args below meth c H locs _ _ Q (F0 m 89 ls [])
          rw [q2] at w6
          obtain ⟨v6, hv6⟩ : ∃ z, z = up v3 0 (flN (tv a) (bv a) (sg a)) := ⟨_, rfl⟩
          rw [← hv6] at w6
          refine lv_aload_n hx hb d_Mo_floor_89 rfl (lv_at hl 0 rfl) ?_
          refine lv_iconst (v := iZ (1)) hx hb d_Mo_floor_90 (by decide +kernel) ?_
          refine lv_lconst (v := lZ (1)) hx hb d_Mo_floor_91 (by decide +kernel) ?_
          refine cv (n := 2) (wr := [(oh, .inl (cI, 10000, .inl fh)), (og, .inl (cI, 32, .inl fs)), (on_, .inl (cI, 32, .inl fn)), (ok_, .inl (cI, 166400, .inl fk)), (oK, .inl (cI, 64, .inl fK))]) (w1 := (fun (u : (Nat → Int32) × (Nat → Int32)) => [(mo, .inr (8, [.int (iZ 0), .int (iZ (np : Int)), .ref ow, .ref om, .ref ok_, .ref oK, .ref og, .ref on_, .ref oh, .ref ox, .int qn, .int qf, .ref op_, .int ql])), (ow, .inl (cI, 108000, .inl u.1)), (om, .inl (cI, 9, .inl u.2))])) (As := [.int (iZ 1), .long (lZ 1)]) (rest := []) K hP hD hK hS hA hl.1 (c_Mo_setLong l D mo (iZ 0) np ow om ok_ oK og on_ oh ox qn qf op_ ql fx6 fy6 cI v6 1 1 H.size w6 (by omega) (by omega)) [5, 6, 7] [0, 1, 2, 3, 4] [0] rfl rfl rfl (by decide) (by decide) (by decide) 0 rfl rfl (big_in mw_1180 rfl) (big_in mw_10 rfl) (big_in mw_1177 rfl) (big_in mw_1179 rfl) (big_in sp_19 rfl) rfl rfl (by decide +kernel) ⟨by rw [hR]; exact Nat.le_of_ble_eq_true rfl, by rw [hR]; exact Nat.le_of_ble_eq_true rfl⟩ rfl (Nat.le_of_ble_eq_true rfl) d_Mo_floor_92 ⟨by rw [hR]; exact Nat.le_of_ble_eq_true rfl, by rw [hR]; exact Nat.le_of_ble_eq_true rfl⟩ rfl (fun v u H locs hp11 hP hD hS _ => ?_)
          obtain ⟨fx7, fy7⟩ := u
          try dsimp only at hp11
          obtain ⟨rfl, w7⟩ := hp11
          have hP : va_P D cls0 [(oh, .inl (cI, 10000, .inl fh)), (og, .inl (cI, 32, .inl fs)), (on_, .inl (cI, 32, .inl fn)), (ok_, .inl (cI, 166400, .inl fk)), (oK, .inl (cI, 64, .inl fK)), (mo, .inr (8, [.int (iZ 0), .int (iZ (np : Int)), .ref ow, .ref om, .ref ok_, .ref oK, .ref og, .ref on_, .ref oh, .ref ox, .int qn, .int qf, .ref op_, .int ql])), (ow, .inl (cI, 108000, .inl fx7)), (om, .inl (cI, 9, .inl fy7))] H := hP
          have hD : va_D A [(oh, .inl (cI, 10000, .inl fh)), (og, .inl (cI, 32, .inl fs)), (on_, .inl (cI, 32, .inl fn)), (ok_, .inl (cI, 166400, .inl fk)), (oK, .inl (cI, 64, .inl fK)), (mo, .inr (8, [.int (iZ 0), .int (iZ (np : Int)), .ref ow, .ref om, .ref ok_, .ref oK, .ref og, .ref on_, .ref oh, .ref ox, .int qn, .int qf, .ref op_, .int ql])), (ow, .inl (cI, 108000, .inl fx7)), (om, .inl (cI, 9, .inl fy7))] := hD
          show W p l e R s m args below meth c H locs _ _ Q (F0 m 95 ls [])
          obtain ⟨v7, hv7⟩ : ∃ x, x = up v6 1 1 := ⟨_, rfl⟩
          have w7 : WB fx7 fy7 v7 := by rw [hv7]; exact w7
          have y70 : v7 0 = flN (tv a) (bv a) (sg a) := by rw [hv7, up_n (by decide), hv6, up_s]
          have y71 : v7 1 = 1 := by rw [hv7, up_s]
          have fl3 := flN_lm (tv a) (bv a) (sg a)
          have lm1 : lm 1 = 1 := by decide
          refine lv_aload_n hx hb d_Mo_floor_95 rfl (lv_at hl 0 rfl) ?_
          refine lv_iload_n hx hb d_Mo_floor_96 rfl (lv_at hl 1 rfl) ?_
          refine lv_aload_n hx hb d_Mo_floor_97 rfl (lv_at hl 0 rfl) ?_
          refine va_get (D := D) (ci := 8) (v := .ref og) (C := R_Mo) (T := F_Mo) (N := 14) hx hb hts i_Mo hown hK hP 5 rfl rfl 6 (by decide) (hts _ (big_in mw_1121 rfl)) (fun _ h9 => h9) rfl d_Mo_floor_98 ?_
          refine lv_iload_n hx hb d_Mo_floor_101 rfl (lv_at hl 2 rfl) ?_
          refine zz_iald hx hb hK hP 1 0 rfl rfl (a) (by omega) (by omega) (by omega) d_Mo_floor_102 ?_
          rw [hMR.2.1 a (by omega)]
          refine lv_iconst (v := iZ (2)) hx hb d_Mo_floor_103 (by decide +kernel) ?_
          refine cv (n := 3) (wr := []) (w1 := (fun (u : (Nat → Int32) × (Nat → Int32) × (Nat → Int32) × (Nat → Nat)) => [(mo, .inr (8, [.int (iZ 2), .int (iZ (np : Int)), .ref ow, .ref om, .ref ok_, .ref oK, .ref og, .ref on_, .ref oh, .ref ox, .int qn, .int qf, .ref op_, .int ql])), (ow, .inl (cI, 108000, .inl u.1)), (om, .inl (cI, 9, .inl u.2.1)), (oh, .inl (cI, 10000, .inl u.2.2.1)), (ok_, .inl (cI, 166400, .inl fk)), (oK, .inl (cI, 64, .inl fK)), (og, .inl (cI, 32, .inl fs)), (on_, .inl (cI, 32, .inl fn))])) (As := [.int (iZ (to : Int)), .int (iZ (sg a)), .int (iZ 2)]) (rest := []) K hP hD hK hS hA hl.1 (c_Mo_storeX l D mo (iZ 0) np ow om ok_ oK og on_ oh ox qn qf op_ ql fx7 fy7 cI fh fk fK fs fn v7 tv bv sg to (sg a) 2 H.size w7 hMR (by omega) hnd hnp (by omega) (by decide) (by rw [y70]; omega) (by rw [y71]; omega) (by rw [y70, y71]; exact hfit)) [5, 6, 7, 0, 3, 4, 1, 2] [] [0] rfl rfl rfl (by decide) (by decide) (by decide) 0 rfl rfl (big_in mw_1215 rfl) (big_in mw_10 rfl) (big_in mw_1212 rfl) (big_in mw_1214 rfl) (big_in sp_27 rfl) rfl rfl (by decide +kernel) ⟨by rw [hR]; exact Nat.le_of_ble_eq_true rfl, by rw [hR]; exact Nat.le_of_ble_eq_true rfl⟩ rfl (Nat.le_of_ble_eq_true rfl) d_Mo_floor_104 ⟨by rw [hR]; exact Nat.le_of_ble_eq_true rfl, by rw [hR]; exact Nat.le_of_ble_eq_true rfl⟩ rfl (fun v u H locs hp12 hP hD hS _ => ?_)
          obtain ⟨fa, fb, fc, v9⟩ := u
          try dsimp only at hp12
          obtain ⟨rfl, w9⟩ := hp12
          have hP : va_P D cls0 [(mo, .inr (8, [.int (iZ 2), .int (iZ (np : Int)), .ref ow, .ref om, .ref ok_, .ref oK, .ref og, .ref on_, .ref oh, .ref ox, .int qn, .int qf, .ref op_, .int ql])), (ow, .inl (cI, 108000, .inl fa)), (om, .inl (cI, 9, .inl fb)), (oh, .inl (cI, 10000, .inl fc)), (ok_, .inl (cI, 166400, .inl fk)), (oK, .inl (cI, 64, .inl fK)), (og, .inl (cI, 32, .inl fs)), (on_, .inl (cI, 32, .inl fn))] H := hP
          have hD : va_D A [(mo, .inr (8, [.int (iZ 2), .int (iZ (np : Int)), .ref ow, .ref om, .ref ok_, .ref oK, .ref og, .ref on_, .ref oh, .ref ox, .int qn, .int qf, .ref op_, .int ql])), (ow, .inl (cI, 108000, .inl fa)), (om, .inl (cI, 9, .inl fb)), (oh, .inl (cI, 10000, .inl fc)), (ok_, .inl (cI, 166400, .inl fk)), (oK, .inl (cI, 64, .inl fK)), (og, .inl (cI, 32, .inl fs)), (on_, .inl (cI, 32, .inl fn))] := hD
          show W p l e R s m args below meth c H locs _ _ Q (F0 m 107 ls [.int (iZ 0)])
          have hP9 : va_P D cls0 [(mo, .inr (8, [.int (iZ 2), .int (iZ (np : Int)), .ref ow, .ref om, .ref ok_, .ref oK, .ref og, .ref on_, .ref oh, .ref ox, .int qn, .int qf, .ref op_, .int ql])), (ow, .inl (cI, 108000, .inl fa)), (om, .inl (cI, 9, .inl fb)), (oh, .inl (cI, 10000, .inl fc)), (ok_, .inl (cI, 166400, .inl fk)), (oK, .inl (cI, 64, .inl fK)), (og, .inl (cI, 32, .inl fs)), (on_, .inl (cI, 32, .inl fn))] H := hP.sub [0, 1, 2, 3, 4, 5, 6, 7] rfl
          have hD9 : va_D A [(mo, .inr (8, [.int (iZ 2), .int (iZ (np : Int)), .ref ow, .ref om, .ref ok_, .ref oK, .ref og, .ref on_, .ref oh, .ref ox, .int qn, .int qf, .ref op_, .int ql])), (ow, .inl (cI, 108000, .inl fa)), (om, .inl (cI, 9, .inl fb)), (oh, .inl (cI, 10000, .inl fc)), (ok_, .inl (cI, 166400, .inl fk)), (oK, .inl (cI, 64, .inl fK)), (og, .inl (cI, 32, .inl fs)), (on_, .inl (cI, 32, .inl fn))] := hD.sub [0, 1, 2, 3, 4, 5, 6, 7] (by decide) rfl
          rw [hQ, ← hAe]
          refine r_i (v := (iZ 0)) K (fa, fb, fc, v9) hS d_Mo_floor_107 ?_ (fun t ht hv => ?_)
          · exact ⟨rfl, w9⟩
          · exact ⟨by rw [ht]; exact hP9, va_K.moved hv hK, by rw [← hAe]; exact hD9⟩
        · refine lv_aload_n hx hb d_Mo_floor_71 rfl (lv_at hl 0 rfl) ?_
          refine lv_iconst (v := iZ (5)) hx hb d_Mo_floor_72 (by decide +kernel) ?_
          refine lv_lconst (v := lZ (1)) hx hb d_Mo_floor_73 (by decide +kernel) ?_
          refine cv (n := 2) (wr := [(oh, .inl (cI, 10000, .inl fh)), (og, .inl (cI, 32, .inl fs)), (on_, .inl (cI, 32, .inl fn)), (ok_, .inl (cI, 166400, .inl fk)), (oK, .inl (cI, 64, .inl fK))]) (w1 := (fun (u : (Nat → Int32) × (Nat → Int32)) => [(mo, .inr (8, [.int (iZ 0), .int (iZ (np : Int)), .ref ow, .ref om, .ref ok_, .ref oK, .ref og, .ref on_, .ref oh, .ref ox, .int qn, .int qf, .ref op_, .int ql])), (ow, .inl (cI, 108000, .inl u.1)), (om, .inl (cI, 9, .inl u.2))])) (As := [.int (iZ 5), .long (lZ 1)]) (rest := []) K hP hD hK hS hA hl.1 (c_Mo_setLong l D mo (iZ 0) np ow om ok_ oK og on_ oh ox qn qf op_ ql fx3 fy3 cI v3 5 1 H.size w3 (by omega) (by omega)) [5, 6, 7] [0, 1, 2, 3, 4] [0] rfl rfl rfl (by decide) (by decide) (by decide) 0 rfl rfl (big_in mw_1180 rfl) (big_in mw_10 rfl) (big_in mw_1177 rfl) (big_in mw_1179 rfl) (big_in sp_19 rfl) rfl rfl (by decide +kernel) ⟨by rw [hR]; exact Nat.le_of_ble_eq_true rfl, by rw [hR]; exact Nat.le_of_ble_eq_true rfl⟩ rfl (Nat.le_of_ble_eq_true rfl) d_Mo_floor_74 ⟨by rw [hR]; exact Nat.le_of_ble_eq_true rfl, by rw [hR]; exact Nat.le_of_ble_eq_true rfl⟩ rfl (fun v u H locs hp13 hP hD hS _ => ?_)
          obtain ⟨fx4, fy4⟩ := u
          try dsimp only at hp13
          obtain ⟨rfl, w4⟩ := hp13
          have hP : va_P D cls0 [(oh, .inl (cI, 10000, .inl fh)), (og, .inl (cI, 32, .inl fs)), (on_, .inl (cI, 32, .inl fn)), (ok_, .inl (cI, 166400, .inl fk)), (oK, .inl (cI, 64, .inl fK)), (mo, .inr (8, [.int (iZ 0), .int (iZ (np : Int)), .ref ow, .ref om, .ref ok_, .ref oK, .ref og, .ref on_, .ref oh, .ref ox, .int qn, .int qf, .ref op_, .int ql])), (ow, .inl (cI, 108000, .inl fx4)), (om, .inl (cI, 9, .inl fy4))] H := hP
          have hD : va_D A [(oh, .inl (cI, 10000, .inl fh)), (og, .inl (cI, 32, .inl fs)), (on_, .inl (cI, 32, .inl fn)), (ok_, .inl (cI, 166400, .inl fk)), (oK, .inl (cI, 64, .inl fK)), (mo, .inr (8, [.int (iZ 0), .int (iZ (np : Int)), .ref ow, .ref om, .ref ok_, .ref oK, .ref og, .ref on_, .ref oh, .ref ox, .int qn, .int qf, .ref op_, .int ql])), (ow, .inl (cI, 108000, .inl fx4)), (om, .inl (cI, 9, .inl fy4))] := hD
          show W p l e R s m args below meth c H locs _ _ Q (F0 m 77 ls [])
          obtain ⟨v4, hv4⟩ : ∃ x, x = up v3 5 1 := ⟨_, rfl⟩
          have w4 : WB fx4 fy4 v4 := by rw [hv4]; exact w4
          have y42 : v4 2 = tv a / bv a := by rw [hv4, up_n (by decide)]; exact y32
          have y45 : v4 5 = 1 := by rw [hv4, up_s]
          refine lv_aload_n hx hb d_Mo_floor_77 rfl (lv_at hl 0 rfl) ?_
          refine lv_iconst (v := iZ (2)) hx hb d_Mo_floor_78 (by decide +kernel) ?_
          refine lv_iconst (v := iZ (5)) hx hb d_Mo_floor_79 (by decide +kernel) ?_
          refine cv (n := 2) (wr := [(oh, .inl (cI, 10000, .inl fh)), (og, .inl (cI, 32, .inl fs)), (on_, .inl (cI, 32, .inl fn)), (ok_, .inl (cI, 166400, .inl fk)), (oK, .inl (cI, 64, .inl fK))]) (w1 := (fun (u : (Nat → Int32) × (Nat → Int32)) => [(mo, .inr (8, [.int (iZ 0), .int (iZ (np : Int)), .ref ow, .ref om, .ref ok_, .ref oK, .ref og, .ref on_, .ref oh, .ref ox, .int qn, .int qf, .ref op_, .int ql])), (ow, .inl (cI, 108000, .inl u.1)), (om, .inl (cI, 9, .inl u.2))])) (As := [.int (iZ 2), .int (iZ 5)]) (rest := []) K hP hD hK hS hA hl.1 (c_Mo_addTo l D mo (iZ 0) np ow om ok_ oK og on_ oh ox qn qf op_ ql fx4 fy4 cI v4 2 5 H.size w4 (by decide) (by decide) (by decide) (by rw [y42]; omega) (by rw [y45]; decide)) [5, 6, 7] [0, 1, 2, 3, 4] [0] rfl rfl rfl (by decide) (by decide) (by decide) 0 rfl rfl (big_in mw_1262 rfl) (big_in mw_10 rfl) (big_in mw_1259 rfl) (big_in mw_1261 rfl) (big_in sp_35 rfl) rfl rfl (by decide +kernel) ⟨by rw [hR]; exact Nat.le_of_ble_eq_true rfl, by rw [hR]; exact Nat.le_of_ble_eq_true rfl⟩ rfl (Nat.le_of_ble_eq_true rfl) d_Mo_floor_80 ⟨by rw [hR]; exact Nat.le_of_ble_eq_true rfl, by rw [hR]; exact Nat.le_of_ble_eq_true rfl⟩ rfl (fun v u H locs hp14 hP hD hS _ => ?_)
          obtain ⟨fx5, fy5⟩ := u
          try dsimp only at hp14
          obtain ⟨rfl, w5⟩ := hp14
          have hP : va_P D cls0 [(oh, .inl (cI, 10000, .inl fh)), (og, .inl (cI, 32, .inl fs)), (on_, .inl (cI, 32, .inl fn)), (ok_, .inl (cI, 166400, .inl fk)), (oK, .inl (cI, 64, .inl fK)), (mo, .inr (8, [.int (iZ 0), .int (iZ (np : Int)), .ref ow, .ref om, .ref ok_, .ref oK, .ref og, .ref on_, .ref oh, .ref ox, .int qn, .int qf, .ref op_, .int ql])), (ow, .inl (cI, 108000, .inl fx5)), (om, .inl (cI, 9, .inl fy5))] H := hP
          have hD : va_D A [(oh, .inl (cI, 10000, .inl fh)), (og, .inl (cI, 32, .inl fs)), (on_, .inl (cI, 32, .inl fn)), (ok_, .inl (cI, 166400, .inl fk)), (oK, .inl (cI, 64, .inl fK)), (mo, .inr (8, [.int (iZ 0), .int (iZ (np : Int)), .ref ow, .ref om, .ref ok_, .ref oK, .ref og, .ref on_, .ref oh, .ref ox, .int qn, .int qf, .ref op_, .int ql])), (ow, .inl (cI, 108000, .inl fx5)), (om, .inl (cI, 9, .inl fy5))] := hD
          show W p l e R s m args below meth c H locs _ _ Q (F0 m 83 ls [])
          obtain ⟨v5, hv5⟩ : ∃ z, z = up v4 2 (v4 2 + v4 5) := ⟨_, rfl⟩
          rw [← hv5] at w5
          refine lv_aload_n hx hb d_Mo_floor_83 rfl (lv_at hl 0 rfl) ?_
          refine lv_iconst (v := iZ (0)) hx hb d_Mo_floor_84 (by decide +kernel) ?_
          refine lv_iconst (v := iZ (2)) hx hb d_Mo_floor_85 (by decide +kernel) ?_
          have q2 : v5 2 = flN (tv a) (bv a) (sg a) := by unfold flN; rw [if_pos ⟨by omega, nd_pos.mp (by omega)⟩, hv5, up_s, y42, y45]
          refine cv (n := 2) (wr := [(oh, .inl (cI, 10000, .inl fh)), (og, .inl (cI, 32, .inl fs)), (on_, .inl (cI, 32, .inl fn)), (ok_, .inl (cI, 166400, .inl fk)), (oK, .inl (cI, 64, .inl fK))]) (w1 := (fun (u : (Nat → Int32) × (Nat → Int32)) => [(mo, .inr (8, [.int (iZ 0), .int (iZ (np : Int)), .ref ow, .ref om, .ref ok_, .ref oK, .ref og, .ref on_, .ref oh, .ref ox, .int qn, .int qf, .ref op_, .int ql])), (ow, .inl (cI, 108000, .inl u.1)), (om, .inl (cI, 9, .inl u.2))])) (As := [.int (iZ 0), .int (iZ 2)]) (rest := []) K hP hD hK hS hA hl.1 (c_Mo_copyTo l D mo (iZ 0) np ow om ok_ oK og on_ oh ox qn qf op_ ql fx5 fy5 cI v5 0 2 H.size w5 (by omega) (by omega) (by omega)) [5, 6, 7] [0, 1, 2, 3, 4] [0] rfl rfl rfl (by decide) (by decide) (by decide) 0 rfl rfl (big_in mw_1193 rfl) (big_in mw_10 rfl) (big_in mw_1190 rfl) (big_in mw_1192 rfl) (big_in sp_22 rfl) rfl rfl (by decide +kernel) ⟨by rw [hR]; exact Nat.le_of_ble_eq_true rfl, by rw [hR]; exact Nat.le_of_ble_eq_true rfl⟩ rfl (Nat.le_of_ble_eq_true rfl) d_Mo_floor_86 ⟨by rw [hR]; exact Nat.le_of_ble_eq_true rfl, by rw [hR]; exact Nat.le_of_ble_eq_true rfl⟩ rfl (fun v u H locs hp15 hP hD hS _ => ?_)
          obtain ⟨fx6, fy6⟩ := u
          try dsimp only at hp15
          obtain ⟨rfl, w6⟩ := hp15
          have hP : va_P D cls0 [(oh, .inl (cI, 10000, .inl fh)), (og, .inl (cI, 32, .inl fs)), (on_, .inl (cI, 32, .inl fn)), (ok_, .inl (cI, 166400, .inl fk)), (oK, .inl (cI, 64, .inl fK)), (mo, .inr (8, [.int (iZ 0), .int (iZ (np : Int)), .ref ow, .ref om, .ref ok_, .ref oK, .ref og, .ref on_, .ref oh, .ref ox, .int qn, .int qf, .ref op_, .int ql])), (ow, .inl (cI, 108000, .inl fx6)), (om, .inl (cI, 9, .inl fy6))] H := hP
          have hD : va_D A [(oh, .inl (cI, 10000, .inl fh)), (og, .inl (cI, 32, .inl fs)), (on_, .inl (cI, 32, .inl fn)), (ok_, .inl (cI, 166400, .inl fk)), (oK, .inl (cI, 64, .inl fK)), (mo, .inr (8, [.int (iZ 0), .int (iZ (np : Int)), .ref ow, .ref om, .ref ok_, .ref oK, .ref og, .ref on_, .ref oh, .ref ox, .int qn, .int qf, .ref op_, .int ql])), (ow, .inl (cI, 108000, .inl fx6)), (om, .inl (cI, 9, .inl fy6))] := hD
          show W p l e R s m args below meth c H locs _ _ Q (F0 m 89 ls [])
          rw [q2] at w6
          obtain ⟨v6, hv6⟩ : ∃ z, z = up v5 0 (flN (tv a) (bv a) (sg a)) := ⟨_, rfl⟩
          rw [← hv6] at w6
          refine lv_aload_n hx hb d_Mo_floor_89 rfl (lv_at hl 0 rfl) ?_
          refine lv_iconst (v := iZ (1)) hx hb d_Mo_floor_90 (by decide +kernel) ?_
          refine lv_lconst (v := lZ (1)) hx hb d_Mo_floor_91 (by decide +kernel) ?_
          refine cv (n := 2) (wr := [(oh, .inl (cI, 10000, .inl fh)), (og, .inl (cI, 32, .inl fs)), (on_, .inl (cI, 32, .inl fn)), (ok_, .inl (cI, 166400, .inl fk)), (oK, .inl (cI, 64, .inl fK))]) (w1 := (fun (u : (Nat → Int32) × (Nat → Int32)) => [(mo, .inr (8, [.int (iZ 0), .int (iZ (np : Int)), .ref ow, .ref om, .ref ok_, .ref oK, .ref og, .ref on_, .ref oh, .ref ox, .int qn, .int qf, .ref op_, .int ql])), (ow, .inl (cI, 108000, .inl u.1)), (om, .inl (cI, 9, .inl u.2))])) (As := [.int (iZ 1), .long (lZ 1)]) (rest := []) K hP hD hK hS hA hl.1 (c_Mo_setLong l D mo (iZ 0) np ow om ok_ oK og on_ oh ox qn qf op_ ql fx6 fy6 cI v6 1 1 H.size w6 (by omega) (by omega)) [5, 6, 7] [0, 1, 2, 3, 4] [0] rfl rfl rfl (by decide) (by decide) (by decide) 0 rfl rfl (big_in mw_1180 rfl) (big_in mw_10 rfl) (big_in mw_1177 rfl) (big_in mw_1179 rfl) (big_in sp_19 rfl) rfl rfl (by decide +kernel) ⟨by rw [hR]; exact Nat.le_of_ble_eq_true rfl, by rw [hR]; exact Nat.le_of_ble_eq_true rfl⟩ rfl (Nat.le_of_ble_eq_true rfl) d_Mo_floor_92 ⟨by rw [hR]; exact Nat.le_of_ble_eq_true rfl, by rw [hR]; exact Nat.le_of_ble_eq_true rfl⟩ rfl (fun v u H locs hp16 hP hD hS _ => ?_)
          obtain ⟨fx7, fy7⟩ := u
          try dsimp only at hp16
          obtain ⟨rfl, w7⟩ := hp16
          have hP : va_P D cls0 [(oh, .inl (cI, 10000, .inl fh)), (og, .inl (cI, 32, .inl fs)), (on_, .inl (cI, 32, .inl fn)), (ok_, .inl (cI, 166400, .inl fk)), (oK, .inl (cI, 64, .inl fK)), (mo, .inr (8, [.int (iZ 0), .int (iZ (np : Int)), .ref ow, .ref om, .ref ok_, .ref oK, .ref og, .ref on_, .ref oh, .ref ox, .int qn, .int qf, .ref op_, .int ql])), (ow, .inl (cI, 108000, .inl fx7)), (om, .inl (cI, 9, .inl fy7))] H := hP
          have hD : va_D A [(oh, .inl (cI, 10000, .inl fh)), (og, .inl (cI, 32, .inl fs)), (on_, .inl (cI, 32, .inl fn)), (ok_, .inl (cI, 166400, .inl fk)), (oK, .inl (cI, 64, .inl fK)), (mo, .inr (8, [.int (iZ 0), .int (iZ (np : Int)), .ref ow, .ref om, .ref ok_, .ref oK, .ref og, .ref on_, .ref oh, .ref ox, .int qn, .int qf, .ref op_, .int ql])), (ow, .inl (cI, 108000, .inl fx7)), (om, .inl (cI, 9, .inl fy7))] := hD
          show W p l e R s m args below meth c H locs _ _ Q (F0 m 95 ls [])
          obtain ⟨v7, hv7⟩ : ∃ x, x = up v6 1 1 := ⟨_, rfl⟩
          have w7 : WB fx7 fy7 v7 := by rw [hv7]; exact w7
          have y70 : v7 0 = flN (tv a) (bv a) (sg a) := by rw [hv7, up_n (by decide), hv6, up_s]
          have y71 : v7 1 = 1 := by rw [hv7, up_s]
          have fl3 := flN_lm (tv a) (bv a) (sg a)
          have lm1 : lm 1 = 1 := by decide
          refine lv_aload_n hx hb d_Mo_floor_95 rfl (lv_at hl 0 rfl) ?_
          refine lv_iload_n hx hb d_Mo_floor_96 rfl (lv_at hl 1 rfl) ?_
          refine lv_aload_n hx hb d_Mo_floor_97 rfl (lv_at hl 0 rfl) ?_
          refine va_get (D := D) (ci := 8) (v := .ref og) (C := R_Mo) (T := F_Mo) (N := 14) hx hb hts i_Mo hown hK hP 5 rfl rfl 6 (by decide) (hts _ (big_in mw_1121 rfl)) (fun _ h9 => h9) rfl d_Mo_floor_98 ?_
          refine lv_iload_n hx hb d_Mo_floor_101 rfl (lv_at hl 2 rfl) ?_
          refine zz_iald hx hb hK hP 1 0 rfl rfl (a) (by omega) (by omega) (by omega) d_Mo_floor_102 ?_
          rw [hMR.2.1 a (by omega)]
          refine lv_iconst (v := iZ (2)) hx hb d_Mo_floor_103 (by decide +kernel) ?_
          refine cv (n := 3) (wr := []) (w1 := (fun (u : (Nat → Int32) × (Nat → Int32) × (Nat → Int32) × (Nat → Nat)) => [(mo, .inr (8, [.int (iZ 2), .int (iZ (np : Int)), .ref ow, .ref om, .ref ok_, .ref oK, .ref og, .ref on_, .ref oh, .ref ox, .int qn, .int qf, .ref op_, .int ql])), (ow, .inl (cI, 108000, .inl u.1)), (om, .inl (cI, 9, .inl u.2.1)), (oh, .inl (cI, 10000, .inl u.2.2.1)), (ok_, .inl (cI, 166400, .inl fk)), (oK, .inl (cI, 64, .inl fK)), (og, .inl (cI, 32, .inl fs)), (on_, .inl (cI, 32, .inl fn))])) (As := [.int (iZ (to : Int)), .int (iZ (sg a)), .int (iZ 2)]) (rest := []) K hP hD hK hS hA hl.1 (c_Mo_storeX l D mo (iZ 0) np ow om ok_ oK og on_ oh ox qn qf op_ ql fx7 fy7 cI fh fk fK fs fn v7 tv bv sg to (sg a) 2 H.size w7 hMR (by omega) hnd hnp (by omega) (by decide) (by rw [y70]; omega) (by rw [y71]; omega) (by rw [y70, y71]; exact hfit)) [5, 6, 7, 0, 3, 4, 1, 2] [] [0] rfl rfl rfl (by decide) (by decide) (by decide) 0 rfl rfl (big_in mw_1215 rfl) (big_in mw_10 rfl) (big_in mw_1212 rfl) (big_in mw_1214 rfl) (big_in sp_27 rfl) rfl rfl (by decide +kernel) ⟨by rw [hR]; exact Nat.le_of_ble_eq_true rfl, by rw [hR]; exact Nat.le_of_ble_eq_true rfl⟩ rfl (Nat.le_of_ble_eq_true rfl) d_Mo_floor_104 ⟨by rw [hR]; exact Nat.le_of_ble_eq_true rfl, by rw [hR]; exact Nat.le_of_ble_eq_true rfl⟩ rfl (fun v u H locs hp17 hP hD hS _ => ?_)
          obtain ⟨fa, fb, fc, v9⟩ := u
          try dsimp only at hp17
          obtain ⟨rfl, w9⟩ := hp17
          have hP : va_P D cls0 [(mo, .inr (8, [.int (iZ 2), .int (iZ (np : Int)), .ref ow, .ref om, .ref ok_, .ref oK, .ref og, .ref on_, .ref oh, .ref ox, .int qn, .int qf, .ref op_, .int ql])), (ow, .inl (cI, 108000, .inl fa)), (om, .inl (cI, 9, .inl fb)), (oh, .inl (cI, 10000, .inl fc)), (ok_, .inl (cI, 166400, .inl fk)), (oK, .inl (cI, 64, .inl fK)), (og, .inl (cI, 32, .inl fs)), (on_, .inl (cI, 32, .inl fn))] H := hP
          have hD : va_D A [(mo, .inr (8, [.int (iZ 2), .int (iZ (np : Int)), .ref ow, .ref om, .ref ok_, .ref oK, .ref og, .ref on_, .ref oh, .ref ox, .int qn, .int qf, .ref op_, .int ql])), (ow, .inl (cI, 108000, .inl fa)), (om, .inl (cI, 9, .inl fb)), (oh, .inl (cI, 10000, .inl fc)), (ok_, .inl (cI, 166400, .inl fk)), (oK, .inl (cI, 64, .inl fK)), (og, .inl (cI, 32, .inl fs)), (on_, .inl (cI, 32, .inl fn))] := hD
          show W p l e R s m args below meth c H locs _ _ Q (F0 m 107 ls [.int (iZ 0)])
          have hP9 : va_P D cls0 [(mo, .inr (8, [.int (iZ 2), .int (iZ (np : Int)), .ref ow, .ref om, .ref ok_, .ref oK, .ref og, .ref on_, .ref oh, .ref ox, .int qn, .int qf, .ref op_, .int ql])), (ow, .inl (cI, 108000, .inl fa)), (om, .inl (cI, 9, .inl fb)), (oh, .inl (cI, 10000, .inl fc)), (ok_, .inl (cI, 166400, .inl fk)), (oK, .inl (cI, 64, .inl fK)), (og, .inl (cI, 32, .inl fs)), (on_, .inl (cI, 32, .inl fn))] H := hP.sub [0, 1, 2, 3, 4, 5, 6, 7] rfl
          have hD9 : va_D A [(mo, .inr (8, [.int (iZ 2), .int (iZ (np : Int)), .ref ow, .ref om, .ref ok_, .ref oK, .ref og, .ref on_, .ref oh, .ref ox, .int qn, .int qf, .ref op_, .int ql])), (ow, .inl (cI, 108000, .inl fa)), (om, .inl (cI, 9, .inl fb)), (oh, .inl (cI, 10000, .inl fc)), (ok_, .inl (cI, 166400, .inl fk)), (oK, .inl (cI, 64, .inl fK)), (og, .inl (cI, 32, .inl fs)), (on_, .inl (cI, 32, .inl fn))] := hD.sub [0, 1, 2, 3, 4, 5, 6, 7] (by decide) rfl
          rw [hQ, ← hAe]
          refine r_i (v := (iZ 0)) K (fa, fb, fc, v9) hS d_Mo_floor_107 ?_ (fun t ht hv => ?_)
          · exact ⟨rfl, w9⟩
          · exact ⟨by rw [ht]; exact hP9, va_K.moved hv hK, by rw [← hAe]; exact hD9⟩
set_option maxHeartbeats 4000000 in
set_option maxRecDepth 100000 in
/-- Mo_floor refused with 1 -/
theorem r1_Mo_floor (l : Launch) (D : va_G) (mo : Nat) (qc : Int32) (np : Nat) (ow : Nat) (om : Nat) (ok_ : Nat) (oK : Nat) (og : Nat) (on_ : Nat) (oh : Nat) (ox : Nat) (qn : Int32) (qf : Int32) (op_ : Nat) (ql : Int32) (zt : Int) (za : Int) (sz : Nat) (hbad : (zt < 0 ∨ 32 ≤ zt) ∨ (za < 0 ∨ 32 ≤ za)) (hrng : -2147483648 ≤ zt ∧ zt < 2147483648 ∧ -2147483648 ≤ za ∧ za < 2147483648) : Met l y_Mo_floor (wsB y_Mo_floor b_Mo_floor 3 (some .int)) ({ frames := 1, cells := 0, slots := 0, locals := 21 }) (va_Pc [.ref mo, .int (iZ zt), .int (iZ za)] (wPre D [] [(mo, .inr (8, [.int qc, .int (iZ (np : Int)), .ref ow, .ref om, .ref ok_, .ref oK, .ref og, .ref on_, .ref oh, .ref ox, .int qn, .int qf, .ref op_, .int ql]))] sz)) (va_QV (fun (v_9 : Option Value) (u_9 : Unit) => v_9 = some (.int (iZ 0))) (fun u_9 => wPost D [] [(mo, .inr (8, [.int qc, .int (iZ (np : Int)), .ref ow, .ref om, .ref ok_, .ref oK, .ref og, .ref on_, .ref oh, .ref ox, .int qn, .int qf, .ref op_, .int ql]))] [(mo, .inr (8, [.int (iZ 1), .int (iZ (np : Int)), .ref ow, .ref om, .ref ok_, .ref oK, .ref og, .ref on_, .ref oh, .ref ox, .int qn, .int qf, .ref op_, .int ql]))] sz) (va_A [(mo, .inr (8, [.int qc, .int (iZ (np : Int)), .ref ow, .ref om, .ref ok_, .ref oK, .ref og, .ref on_, .ref oh, .ref ox, .int qn, .int qf, .ref op_, .int ql]))] sz)) 0 0 (va_A [(mo, .inr (8, [.int qc, .int (iZ (np : Int)), .ref ow, .ref om, .ref ok_, .ref oK, .ref og, .ref on_, .ref oh, .ref ox, .int qn, .int qf, .ref op_, .int ql]))] sz) := by
  refine met_enter (by decide +kernel) (Nat.le_of_ble_eq_true rfl) ?_
  intro p e s m args below meth c ls A R Q H locs K hin hAe hA hR hQ hP hK hD hS hl
  obtain ⟨hx, hb, hml, hrt, hlk, hts, hown, hno⟩ := id K
  have hl : lv_has ls 3 [(0, .ref mo), (1, .int (iZ zt)), (2, .int (iZ za))] := hl
  refine lv_aload_n hx hb d_Mo_floor_0 rfl (lv_at hl 0 rfl) ?_
  refine lv_iload_n hx hb d_Mo_floor_1 rfl (lv_at hl 1 rfl) ?_
  refine cs (n := 1) (wr := [(mo, .inr (8, [.int qc, .int (iZ (np : Int)), .ref ow, .ref om, .ref ok_, .ref oK, .ref og, .ref on_, .ref oh, .ref ox, .int qn, .int qf, .ref op_, .int ql]))]) (w1 := (fun (u : Int) => [])) (As := [.int (iZ zt)]) (rest := [.ref mo]) K hP hD hK hS hA hl.1 (c_Mo_isRegister l D zt H.size (by omega)) [] [0] [] rfl rfl rfl (by decide) (by decide) (by decide) (big_in mw_1172 rfl) (big_in mw_10 rfl) (big_in mw_1170 rfl) (big_in mw_1171 rfl) rfl rfl (by decide +kernel) ⟨by rw [hR]; exact Nat.le_of_ble_eq_true rfl, by rw [hR]; exact Nat.le_of_ble_eq_true rfl⟩ rfl (Nat.le_of_ble_eq_true rfl) d_Mo_floor_2 ⟨by rw [hR]; exact Nat.le_of_ble_eq_true rfl, by rw [hR]; exact Nat.le_of_ble_eq_true rfl⟩ rfl (fun v u H locs hp1 hP hD hS _ => ?_)
  obtain ⟨r2, rfl⟩ : ∃ z, z = u := ⟨_, rfl⟩
  obtain ⟨rfl, p2⟩ := hp1
  have hP : va_P D cls0 [(mo, .inr (8, [.int qc, .int (iZ (np : Int)), .ref ow, .ref om, .ref ok_, .ref oK, .ref og, .ref on_, .ref oh, .ref ox, .int qn, .int qf, .ref op_, .int ql]))] H := hP
  have hD : va_D A [(mo, .inr (8, [.int qc, .int (iZ (np : Int)), .ref ow, .ref om, .ref ok_, .ref oK, .ref og, .ref on_, .ref oh, .ref ox, .int qn, .int qf, .ref op_, .int ql]))] := hD
  show W p l e R s m args below meth c H locs _ _ Q (F0 m 5 ls [.int (iZ r2), .ref mo])
  have b2 : 0 ≤ r2 ∧ r2 ≤ 1 := by omega
  refine zz_if_eq (tgt := 19) hx hb d_Mo_floor_5 (by decide) (by omega) (fun c5 => ?_) (fun c5 => ?_)
  · refine lv_iconst (v := iZ (1)) hx hb d_Mo_floor_19 (by decide +kernel) ?_
    refine cv (n := 1) (wr := []) (w1 := (fun (u : Int) => [(mo, .inr (8, [.int (iZ 1), .int (iZ (np : Int)), .ref ow, .ref om, .ref ok_, .ref oK, .ref og, .ref on_, .ref oh, .ref ox, .int qn, .int qf, .ref op_, .int ql]))])) (As := [.int (iZ 1)]) (rest := []) K hP hD hK hS hA hl.1 (c_Mo_refuses l D mo qc np ow om ok_ oK og on_ oh ox qn qf op_ ql 1 H.size (by omega)) [0] [] [] rfl rfl rfl (by decide) (by decide) (by decide) 0 rfl rfl (big_in mw_1176 rfl) (big_in mw_10 rfl) (big_in mw_1173 rfl) (big_in mw_1175 rfl) (big_in sp_18 rfl) rfl rfl (by decide +kernel) ⟨by rw [hR]; exact Nat.le_of_ble_eq_true rfl, by rw [hR]; exact Nat.le_of_ble_eq_true rfl⟩ rfl (Nat.le_of_ble_eq_true rfl) d_Mo_floor_20 ⟨by rw [hR]; exact Nat.le_of_ble_eq_true rfl, by rw [hR]; exact Nat.le_of_ble_eq_true rfl⟩ rfl (fun v u H locs hp2 hP hD hS _ => ?_)
    obtain ⟨rf, rfl⟩ : ∃ z, z = u := ⟨_, rfl⟩
    obtain ⟨rfl, prf⟩ := hp2
    have hP : va_P D cls0 [(mo, .inr (8, [.int (iZ 1), .int (iZ (np : Int)), .ref ow, .ref om, .ref ok_, .ref oK, .ref og, .ref on_, .ref oh, .ref ox, .int qn, .int qf, .ref op_, .int ql]))] H := hP
    have hD : va_D A [(mo, .inr (8, [.int (iZ 1), .int (iZ (np : Int)), .ref ow, .ref om, .ref ok_, .ref oK, .ref og, .ref on_, .ref oh, .ref ox, .int qn, .int qf, .ref op_, .int ql]))] := hD
    show W p l e R s m args below meth c H locs _ _ Q (F0 m 23 ls [.int (iZ rf)])
    refine zz_if_eq (tgt := 28) hx hb d_Mo_floor_23 (by decide) (by omega) (fun c23 => False.elim (by omega)) (fun c23 => ?_)
    refine lv_iconst (v := iZ (0)) hx hb d_Mo_floor_26 (by decide +kernel) ?_
    have hP9 : va_P D cls0 [(mo, .inr (8, [.int (iZ 1), .int (iZ (np : Int)), .ref ow, .ref om, .ref ok_, .ref oK, .ref og, .ref on_, .ref oh, .ref ox, .int qn, .int qf, .ref op_, .int ql]))] H := hP.sub [0] rfl
    have hD9 : va_D A [(mo, .inr (8, [.int (iZ 1), .int (iZ (np : Int)), .ref ow, .ref om, .ref ok_, .ref oK, .ref og, .ref on_, .ref oh, .ref ox, .int qn, .int qf, .ref op_, .int ql]))] := hD.sub [0] (by decide) rfl
    rw [hQ, ← hAe]
    refine r_i (v := (iZ 0)) K () hS d_Mo_floor_27 ?_ (fun t ht hv => ?_)
    · exact rfl
    · exact ⟨by rw [ht]; exact hP9, va_K.moved hv hK, by rw [← hAe]; exact hD9⟩
  · refine lv_iload_n hx hb d_Mo_floor_8 rfl (lv_at hl 2 rfl) ?_
    refine cs (n := 1) (wr := [(mo, .inr (8, [.int qc, .int (iZ (np : Int)), .ref ow, .ref om, .ref ok_, .ref oK, .ref og, .ref on_, .ref oh, .ref ox, .int qn, .int qf, .ref op_, .int ql]))]) (w1 := (fun (u : Int) => [])) (As := [.int (iZ za)]) (rest := [.ref mo]) K hP hD hK hS hA hl.1 (c_Mo_isRegister l D za H.size (by omega)) [] [0] [] rfl rfl rfl (by decide) (by decide) (by decide) (big_in mw_1172 rfl) (big_in mw_10 rfl) (big_in mw_1170 rfl) (big_in mw_1171 rfl) rfl rfl (by decide +kernel) ⟨by rw [hR]; exact Nat.le_of_ble_eq_true rfl, by rw [hR]; exact Nat.le_of_ble_eq_true rfl⟩ rfl (Nat.le_of_ble_eq_true rfl) d_Mo_floor_9 ⟨by rw [hR]; exact Nat.le_of_ble_eq_true rfl, by rw [hR]; exact Nat.le_of_ble_eq_true rfl⟩ rfl (fun v u H locs hp3 hP hD hS _ => ?_)
    obtain ⟨r9, rfl⟩ : ∃ z, z = u := ⟨_, rfl⟩
    obtain ⟨rfl, p9⟩ := hp3
    have hP : va_P D cls0 [(mo, .inr (8, [.int qc, .int (iZ (np : Int)), .ref ow, .ref om, .ref ok_, .ref oK, .ref og, .ref on_, .ref oh, .ref ox, .int qn, .int qf, .ref op_, .int ql]))] H := hP
    have hD : va_D A [(mo, .inr (8, [.int qc, .int (iZ (np : Int)), .ref ow, .ref om, .ref ok_, .ref oK, .ref og, .ref on_, .ref oh, .ref ox, .int qn, .int qf, .ref op_, .int ql]))] := hD
    show W p l e R s m args below meth c H locs _ _ Q (F0 m 12 ls [.int (iZ r9), .ref mo])
    have b9 : 0 ≤ r9 ∧ r9 ≤ 1 := by omega
    refine zz_if_eq (tgt := 19) hx hb d_Mo_floor_12 (by decide) (by omega) (fun c12 => ?_) (fun c12 => ?_)
    · refine lv_iconst (v := iZ (1)) hx hb d_Mo_floor_19 (by decide +kernel) ?_
      refine cv (n := 1) (wr := []) (w1 := (fun (u : Int) => [(mo, .inr (8, [.int (iZ 1), .int (iZ (np : Int)), .ref ow, .ref om, .ref ok_, .ref oK, .ref og, .ref on_, .ref oh, .ref ox, .int qn, .int qf, .ref op_, .int ql]))])) (As := [.int (iZ 1)]) (rest := []) K hP hD hK hS hA hl.1 (c_Mo_refuses l D mo qc np ow om ok_ oK og on_ oh ox qn qf op_ ql 1 H.size (by omega)) [0] [] [] rfl rfl rfl (by decide) (by decide) (by decide) 0 rfl rfl (big_in mw_1176 rfl) (big_in mw_10 rfl) (big_in mw_1173 rfl) (big_in mw_1175 rfl) (big_in sp_18 rfl) rfl rfl (by decide +kernel) ⟨by rw [hR]; exact Nat.le_of_ble_eq_true rfl, by rw [hR]; exact Nat.le_of_ble_eq_true rfl⟩ rfl (Nat.le_of_ble_eq_true rfl) d_Mo_floor_20 ⟨by rw [hR]; exact Nat.le_of_ble_eq_true rfl, by rw [hR]; exact Nat.le_of_ble_eq_true rfl⟩ rfl (fun v u H locs hp4 hP hD hS _ => ?_)
      obtain ⟨rf, rfl⟩ : ∃ z, z = u := ⟨_, rfl⟩
      obtain ⟨rfl, prf⟩ := hp4
      have hP : va_P D cls0 [(mo, .inr (8, [.int (iZ 1), .int (iZ (np : Int)), .ref ow, .ref om, .ref ok_, .ref oK, .ref og, .ref on_, .ref oh, .ref ox, .int qn, .int qf, .ref op_, .int ql]))] H := hP
      have hD : va_D A [(mo, .inr (8, [.int (iZ 1), .int (iZ (np : Int)), .ref ow, .ref om, .ref ok_, .ref oK, .ref og, .ref on_, .ref oh, .ref ox, .int qn, .int qf, .ref op_, .int ql]))] := hD
      show W p l e R s m args below meth c H locs _ _ Q (F0 m 23 ls [.int (iZ rf)])
      refine zz_if_eq (tgt := 28) hx hb d_Mo_floor_23 (by decide) (by omega) (fun c23 => False.elim (by omega)) (fun c23 => ?_)
      refine lv_iconst (v := iZ (0)) hx hb d_Mo_floor_26 (by decide +kernel) ?_
      have hP9 : va_P D cls0 [(mo, .inr (8, [.int (iZ 1), .int (iZ (np : Int)), .ref ow, .ref om, .ref ok_, .ref oK, .ref og, .ref on_, .ref oh, .ref ox, .int qn, .int qf, .ref op_, .int ql]))] H := hP.sub [0] rfl
      have hD9 : va_D A [(mo, .inr (8, [.int (iZ 1), .int (iZ (np : Int)), .ref ow, .ref om, .ref ok_, .ref oK, .ref og, .ref on_, .ref oh, .ref ox, .int qn, .int qf, .ref op_, .int ql]))] := hD.sub [0] (by decide) rfl
      rw [hQ, ← hAe]
      refine r_i (v := (iZ 0)) K () hS d_Mo_floor_27 ?_ (fun t ht hv => ?_)
      · exact rfl
      · exact ⟨by rw [ht]; exact hP9, va_K.moved hv hK, by rw [← hAe]; exact hD9⟩
    · refine lv_iconst (v := iZ (0)) hx hb d_Mo_floor_15 (by decide +kernel) ?_
      refine lv_goto (tgt := 20) hx hb d_Mo_floor_16 (by decide) ?_
      exfalso
      omega
theorem dz0_odd (q : Nat) : dz q 0 % 2 = q % 2 := by unfold dz; rw [tB_0, Nat.div_one]; omega
set_option maxHeartbeats 4000000 in
set_option maxRecDepth 100000 in
/-- nearest() -/
theorem c_Mo_nearest (l : Launch) (D : va_G) (mo : Nat) (qc : Int32) (np : Nat) (ow : Nat) (om : Nat) (ok_ : Nat) (oK : Nat) (og : Nat) (on_ : Nat) (oh : Nat) (ox : Nat) (qn : Int32) (qf : Int32) (op_ : Nat) (ql : Int32) (fw : Nat → Int32) (fm : Nat → Int32) (cI : ClassId) (val : Nat → Nat) (sz : Nat) (hW : WB fw fm val) (h10 : 0 < val 1) (k0 : nd (val 0) < 11990) (k1 : nd (val 1) < 11990) : Met l y_Mo_nearest (wsB y_Mo_nearest b_Mo_nearest 3 none) ({ frames := 2, cells := 0, slots := 0, locals := 60 }) (va_Pc [.ref mo] (wPre D [(cI, .int)] [(mo, .inr (8, [.int qc, .int (iZ (np : Int)), .ref ow, .ref om, .ref ok_, .ref oK, .ref og, .ref on_, .ref oh, .ref ox, .int qn, .int qf, .ref op_, .int ql])), (ow, .inl (cI, 108000, .inl fw)), (om, .inl (cI, 9, .inl fm))] sz)) (va_QV (fun (v_9 : Option Value) (u_9 : (Nat → Int32) × (Nat → Int32) × (Nat → Nat)) => v_9 = none ∧ (WB u_9.1 u_9.2.1 u_9.2.2) ∧ (u_9.2.2 2 = nmQ (val 0) (val 1))) (fun u_9 => wPost D [(cI, .int)] [(mo, .inr (8, [.int qc, .int (iZ (np : Int)), .ref ow, .ref om, .ref ok_, .ref oK, .ref og, .ref on_, .ref oh, .ref ox, .int qn, .int qf, .ref op_, .int ql])), (ow, .inl (cI, 108000, .inl fw)), (om, .inl (cI, 9, .inl fm))] [(mo, .inr (8, [.int qc, .int (iZ (np : Int)), .ref ow, .ref om, .ref ok_, .ref oK, .ref og, .ref on_, .ref oh, .ref ox, .int qn, .int qf, .ref op_, .int ql])), (ow, .inl (cI, 108000, .inl u_9.1)), (om, .inl (cI, 9, .inl u_9.2.1))] sz) (va_A [(mo, .inr (8, [.int qc, .int (iZ (np : Int)), .ref ow, .ref om, .ref ok_, .ref oK, .ref og, .ref on_, .ref oh, .ref ox, .int qn, .int qf, .ref op_, .int ql])), (ow, .inl (cI, 108000, .inl fw)), (om, .inl (cI, 9, .inl fm))] sz)) 0 0 (va_A [(mo, .inr (8, [.int qc, .int (iZ (np : Int)), .ref ow, .ref om, .ref ok_, .ref oK, .ref og, .ref on_, .ref oh, .ref ox, .int qn, .int qf, .ref op_, .int ql])), (ow, .inl (cI, 108000, .inl fw)), (om, .inl (cI, 9, .inl fm))] sz) := by
  refine met_enter (by decide +kernel) (Nat.le_of_ble_eq_true rfl) ?_
  intro p e s m args below meth c ls A R Q H locs K hin hAe hA hR hQ hP hK hD hS hl
  obtain ⟨hx, hb, hml, hrt, hlk, hts, hown, hno⟩ := id K
  have hl : lv_has ls 3 [(0, .ref mo)] := hl
  refine lv_aload_n hx hb d_Mo_nearest_0 rfl (lv_at hl 0 rfl) ?_
  refine lv_iconst (v := iZ (2)) hx hb d_Mo_nearest_1 (by decide +kernel) ?_
  refine lv_iconst (v := iZ (0)) hx hb d_Mo_nearest_2 (by decide +kernel) ?_
  refine lv_iconst (v := iZ (1)) hx hb d_Mo_nearest_3 (by decide +kernel) ?_
  refine cv (n := 3) (wr := []) (w1 := (fun (u : (Nat → Int32) × (Nat → Int32)) => [(mo, .inr (8, [.int qc, .int (iZ (np : Int)), .ref ow, .ref om, .ref ok_, .ref oK, .ref og, .ref on_, .ref oh, .ref ox, .int qn, .int qf, .ref op_, .int ql])), (ow, .inl (cI, 108000, .inl u.1)), (om, .inl (cI, 9, .inl u.2))])) (As := [.int (iZ 2), .int (iZ 0), .int (iZ 1)]) (rest := []) K hP hD hK hS hA hl.1 (c_Mo_divideBy l D mo qc np ow om ok_ oK og on_ oh ox qn qf op_ ql fw fm cI val 2 0 1 H.size hW (by decide) (by decide) (by decide) (by decide) (by decide) (by decide) h10 (by omega)) [0, 1, 2] [] [0] rfl rfl rfl (by decide) (by decide) (by decide) 0 rfl rfl (big_in mw_1201 rfl) (big_in mw_10 rfl) (big_in mw_1198 rfl) (big_in mw_1200 rfl) (big_in sp_24 rfl) rfl rfl (by decide +kernel) ⟨by rw [hR]; exact Nat.le_of_ble_eq_true rfl, by rw [hR]; exact Nat.le_of_ble_eq_true rfl⟩ rfl (Nat.le_of_ble_eq_true rfl) d_Mo_nearest_4 ⟨by rw [hR]; exact Nat.le_of_ble_eq_true rfl, by rw [hR]; exact Nat.le_of_ble_eq_true rfl⟩ rfl (fun v u H locs hp1 hP hD hS _ => ?_)
  obtain ⟨fx1, fy1⟩ := u
  try dsimp only at hp1
  obtain ⟨rfl, w1⟩ := hp1
  have hP : va_P D cls0 [(mo, .inr (8, [.int qc, .int (iZ (np : Int)), .ref ow, .ref om, .ref ok_, .ref oK, .ref og, .ref on_, .ref oh, .ref ox, .int qn, .int qf, .ref op_, .int ql])), (ow, .inl (cI, 108000, .inl fx1)), (om, .inl (cI, 9, .inl fy1))] H := hP
  have hD : va_D A [(mo, .inr (8, [.int qc, .int (iZ (np : Int)), .ref ow, .ref om, .ref ok_, .ref oK, .ref og, .ref on_, .ref oh, .ref ox, .int qn, .int qf, .ref op_, .int ql])), (ow, .inl (cI, 108000, .inl fx1)), (om, .inl (cI, 9, .inl fy1))] := hD
  show W p l e R s m args below meth c H locs _ _ Q (F0 m 7 ls [])
  obtain ⟨v1, hv1⟩ : ∃ z, z = up (up val 2 (val 0 / val 1)) 0 (val 0 % val 1) := ⟨_, rfl⟩
  rw [← hv1] at w1
  have y10 : v1 0 = (val 0 % val 1) := by rw [hv1, up_s]
  have y12 : v1 2 = (val 0 / val 1) := by rw [hv1, up_n (by decide), up_s]
  have y11 : v1 1 = val 1 := by rw [hv1, up_n (by decide), up_n (by decide)]
  have nq := nd_mono (Nat.div_le_self (val 0) (val 1))
  have nr := nd_mono (Nat.mod_le (val 0) (val 1))
  have n2 := nd_mul (val 0 % val 1) 2
  have nd2 : nd 2 = 1 := by decide
  have nd1 : nd 1 = 1 := by decide
  refine lv_aload_n hx hb d_Mo_nearest_7 rfl (lv_at hl 0 rfl) ?_
  refine lv_iconst (v := iZ (0)) hx hb d_Mo_nearest_8 (by decide +kernel) ?_
  refine lv_iconst (v := iZ (2)) hx hb d_Mo_nearest_9 (by decide +kernel) ?_
  refine cv (n := 2) (wr := []) (w1 := (fun (u : (Nat → Int32) × (Nat → Int32)) => [(mo, .inr (8, [.int qc, .int (iZ (np : Int)), .ref ow, .ref om, .ref ok_, .ref oK, .ref og, .ref on_, .ref oh, .ref ox, .int qn, .int qf, .ref op_, .int ql])), (ow, .inl (cI, 108000, .inl u.1)), (om, .inl (cI, 9, .inl u.2))])) (As := [.int (iZ 0), .int (iZ 2)]) (rest := []) K hP hD hK hS hA hl.1 (c_Mo_small l D mo qc np ow om ok_ oK og on_ oh ox qn qf op_ ql fx1 fy1 cI v1 0 2 H.size w1 (by decide) (by decide) (by rw [y10]; omega)) [0, 1, 2] [] [0] rfl rfl rfl (by decide) (by decide) (by decide) 0 rfl rfl (big_in mw_1325 rfl) (big_in mw_10 rfl) (big_in mw_1322 rfl) (big_in mw_1324 rfl) (big_in sp_43 rfl) rfl rfl (by decide +kernel) ⟨by rw [hR]; exact Nat.le_of_ble_eq_true rfl, by rw [hR]; exact Nat.le_of_ble_eq_true rfl⟩ rfl (Nat.le_of_ble_eq_true rfl) d_Mo_nearest_10 ⟨by rw [hR]; exact Nat.le_of_ble_eq_true rfl, by rw [hR]; exact Nat.le_of_ble_eq_true rfl⟩ rfl (fun v u H locs hp2 hP hD hS _ => ?_)
  obtain ⟨fx2, fy2⟩ := u
  try dsimp only at hp2
  obtain ⟨rfl, w2⟩ := hp2
  have hP : va_P D cls0 [(mo, .inr (8, [.int qc, .int (iZ (np : Int)), .ref ow, .ref om, .ref ok_, .ref oK, .ref og, .ref on_, .ref oh, .ref ox, .int qn, .int qf, .ref op_, .int ql])), (ow, .inl (cI, 108000, .inl fx2)), (om, .inl (cI, 9, .inl fy2))] H := hP
  have hD : va_D A [(mo, .inr (8, [.int qc, .int (iZ (np : Int)), .ref ow, .ref om, .ref ok_, .ref oK, .ref og, .ref on_, .ref oh, .ref ox, .int qn, .int qf, .ref op_, .int ql])), (ow, .inl (cI, 108000, .inl fx2)), (om, .inl (cI, 9, .inl fy2))] := hD
  show W p l e R s m args below meth c H locs _ _ Q (F0 m 13 ls [])
  rw [y10] at w2
  obtain ⟨v2, hv2⟩ : ∃ z, z = up v1 0 ((val 0 % val 1) * 2) := ⟨_, rfl⟩
  rw [← hv2] at w2
  have y20 : v2 0 = (val 0 % val 1) * 2 := by rw [hv2, up_s]
  have y21 : v2 1 = val 1 := by rw [hv2, up_n (by decide)]; exact y11
  have y22 : v2 2 = (val 0 / val 1) := by rw [hv2, up_n (by decide)]; exact y12
  refine lv_aload_n hx hb d_Mo_nearest_13 rfl (lv_at hl 0 rfl) ?_
  refine lv_iconst (v := iZ (0)) hx hb d_Mo_nearest_14 (by decide +kernel) ?_
  refine lv_iconst (v := iZ (1)) hx hb d_Mo_nearest_15 (by decide +kernel) ?_
  refine cv (n := 2) (wr := []) (w1 := (fun (u : Int) => [(mo, .inr (8, [.int qc, .int (iZ (np : Int)), .ref ow, .ref om, .ref ok_, .ref oK, .ref og, .ref on_, .ref oh, .ref ox, .int qn, .int qf, .ref op_, .int ql])), (ow, .inl (cI, 108000, .inl fx2)), (om, .inl (cI, 9, .inl fy2))])) (As := [.int (iZ 0), .int (iZ 1)]) (rest := []) K hP hD hK hS hA hl.1 (c_Mo_order l D mo qc np ow om ok_ oK og on_ oh ox qn qf op_ ql fx2 fy2 cI v2 0 1 H.size w2 (by omega) (by omega)) [0, 1, 2] [] [0] rfl rfl rfl (by decide) (by decide) (by decide) 0 rfl rfl (big_in mw_1270 rfl) (big_in mw_10 rfl) (big_in mw_1267 rfl) (big_in mw_1269 rfl) (big_in sp_37 rfl) rfl rfl (by decide +kernel) ⟨by rw [hR]; exact Nat.le_of_ble_eq_true rfl, by rw [hR]; exact Nat.le_of_ble_eq_true rfl⟩ rfl (Nat.le_of_ble_eq_true rfl) d_Mo_nearest_16 ⟨by rw [hR]; exact Nat.le_of_ble_eq_true rfl, by rw [hR]; exact Nat.le_of_ble_eq_true rfl⟩ rfl (fun v u H locs hp3 hP hD hS _ => ?_)
  obtain ⟨rc, rfl⟩ : ∃ z, z = u := ⟨_, rfl⟩
  obtain ⟨rfl, gq⟩ := hp3
  have hP : va_P D cls0 [(mo, .inr (8, [.int qc, .int (iZ (np : Int)), .ref ow, .ref om, .ref ok_, .ref oK, .ref og, .ref on_, .ref oh, .ref ox, .int qn, .int qf, .ref op_, .int ql])), (ow, .inl (cI, 108000, .inl fx2)), (om, .inl (cI, 9, .inl fy2))] H := hP
  have hD : va_D A [(mo, .inr (8, [.int qc, .int (iZ (np : Int)), .ref ow, .ref om, .ref ok_, .ref oK, .ref og, .ref on_, .ref oh, .ref ox, .int qn, .int qf, .ref op_, .int ql])), (ow, .inl (cI, 108000, .inl fx2)), (om, .inl (cI, 9, .inl fy2))] := hD
  show W p l e R s m args below meth c H locs _ _ Q (F0 m 19 ls [.int (iZ rc)])
  rw [y20, y21] at gq
  obtain ⟨t0, t1, t2⟩ : (0 < rc ↔ (val 1 : Int) < (((val 0 % val 1) * 2 : Nat) : Int)) ∧ (rc = 0 ↔ (((val 0 % val 1) * 2 : Nat) : Int) = (val 1 : Int)) ∧ (-1 ≤ rc ∧ rc ≤ 1) := by rw [gq]; exact ⟨cmpZ_gt, cmpZ_eq, cmpZ_r _ _⟩
  clear gq
  refine lv_istore_n (lv' := [(1, .int (iZ rc)), (0, .ref mo)]) hx hb d_Mo_nearest_19 rfl hl (by decide) rfl (fun ls hl => ?_)
  refine lv_aload_n hx hb d_Mo_nearest_20 rfl (lv_at hl 1 rfl) ?_
  refine va_get (D := D) (ci := 8) (v := .ref om) (C := R_Mo) (T := F_Mo) (N := 14) hx hb hts i_Mo hown hK hP 0 rfl rfl 3 (by decide) (hts _ (big_in mw_1118 rfl)) (fun _ h9 => h9) rfl d_Mo_nearest_21 ?_
  refine lv_iconst (v := iZ (2)) hx hb d_Mo_nearest_24 (by decide +kernel) ?_
  refine zz_iald hx hb hK hP 2 0 rfl rfl (2) (by omega) (by omega) (by omega) d_Mo_nearest_25 ?_
  rw [w2.m (by decide), y22]
  refine zz_if_le (tgt := 47) hx hb d_Mo_nearest_26 (by decide) (by omega) (fun c26 => ?_) (fun c26 => ?_)
  · have ev : (val 0 / val 1) % 2 = 0 := by first | omega | (have z : (val 0 / val 1) = 0 := Nat.eq_zero_of_not_pos (fun y => by have x := nd_pos.mpr y; omega)); omega
    refine lv_iconst (v := iZ (0)) hx hb d_Mo_nearest_47 (by decide +kernel) ?_
    refine lv_istore_n (lv' := [(2, .int (iZ 0)), (1, .int (iZ rc)), (0, .ref mo)]) hx hb d_Mo_nearest_48 rfl hl (by decide) rfl (fun ls hl => ?_)
    refine lv_iload_n hx hb d_Mo_nearest_49 rfl (lv_at hl 1 rfl) ?_
    refine zz_if_gt (tgt := 61) hx hb d_Mo_nearest_50 (by decide) (by omega) (fun c50 => ?_) (fun c50 => ?_)
    · refine lv_aload_n hx hb d_Mo_nearest_61 rfl (lv_at hl 2 rfl) ?_
      refine lv_iconst (v := iZ (5)) hx hb d_Mo_nearest_62 (by decide +kernel) ?_
      refine lv_lconst (v := lZ (1)) hx hb d_Mo_nearest_63 (by decide +kernel) ?_
      refine cv (n := 2) (wr := []) (w1 := (fun (u : (Nat → Int32) × (Nat → Int32)) => [(mo, .inr (8, [.int qc, .int (iZ (np : Int)), .ref ow, .ref om, .ref ok_, .ref oK, .ref og, .ref on_, .ref oh, .ref ox, .int qn, .int qf, .ref op_, .int ql])), (ow, .inl (cI, 108000, .inl u.1)), (om, .inl (cI, 9, .inl u.2))])) (As := [.int (iZ 5), .long (lZ 1)]) (rest := []) K hP hD hK hS hA hl.1 (c_Mo_setLong l D mo qc np ow om ok_ oK og on_ oh ox qn qf op_ ql fx2 fy2 cI v2 5 1 H.size w2 (by omega) (by omega)) [0, 1, 2] [] [0] rfl rfl rfl (by decide) (by decide) (by decide) 0 rfl rfl (big_in mw_1180 rfl) (big_in mw_10 rfl) (big_in mw_1177 rfl) (big_in mw_1179 rfl) (big_in sp_19 rfl) rfl rfl (by decide +kernel) ⟨by rw [hR]; exact Nat.le_of_ble_eq_true rfl, by rw [hR]; exact Nat.le_of_ble_eq_true rfl⟩ rfl (Nat.le_of_ble_eq_true rfl) d_Mo_nearest_64 ⟨by rw [hR]; exact Nat.le_of_ble_eq_true rfl, by rw [hR]; exact Nat.le_of_ble_eq_true rfl⟩ rfl (fun v u H locs hp4 hP hD hS _ => ?_)
      obtain ⟨fx3, fy3⟩ := u
      try dsimp only at hp4
      obtain ⟨rfl, w3⟩ := hp4
      have hP : va_P D cls0 [(mo, .inr (8, [.int qc, .int (iZ (np : Int)), .ref ow, .ref om, .ref ok_, .ref oK, .ref og, .ref on_, .ref oh, .ref ox, .int qn, .int qf, .ref op_, .int ql])), (ow, .inl (cI, 108000, .inl fx3)), (om, .inl (cI, 9, .inl fy3))] H := hP
      have hD : va_D A [(mo, .inr (8, [.int qc, .int (iZ (np : Int)), .ref ow, .ref om, .ref ok_, .ref oK, .ref og, .ref on_, .ref oh, .ref ox, .int qn, .int qf, .ref op_, .int ql])), (ow, .inl (cI, 108000, .inl fx3)), (om, .inl (cI, 9, .inl fy3))] := hD
      show W p l e R s m args below meth c H locs _ _ Q (F0 m 67 ls [])
      obtain ⟨v3, hv3⟩ : ∃ x, x = up v2 5 1 := ⟨_, rfl⟩
      have w3 : WB fx3 fy3 v3 := by rw [hv3]; exact w3
      have y32 : v3 2 = (val 0 / val 1) := by rw [hv3, up_n (by decide)]; exact y22
      have y35 : v3 5 = 1 := by rw [hv3, up_s]
      refine lv_aload_n hx hb d_Mo_nearest_67 rfl (lv_at hl 2 rfl) ?_
      refine lv_iconst (v := iZ (2)) hx hb d_Mo_nearest_68 (by decide +kernel) ?_
      refine lv_iconst (v := iZ (5)) hx hb d_Mo_nearest_69 (by decide +kernel) ?_
      refine cv (n := 2) (wr := []) (w1 := (fun (u : (Nat → Int32) × (Nat → Int32)) => [(mo, .inr (8, [.int qc, .int (iZ (np : Int)), .ref ow, .ref om, .ref ok_, .ref oK, .ref og, .ref on_, .ref oh, .ref ox, .int qn, .int qf, .ref op_, .int ql])), (ow, .inl (cI, 108000, .inl u.1)), (om, .inl (cI, 9, .inl u.2))])) (As := [.int (iZ 2), .int (iZ 5)]) (rest := []) K hP hD hK hS hA hl.1 (c_Mo_addTo l D mo qc np ow om ok_ oK og on_ oh ox qn qf op_ ql fx3 fy3 cI v3 2 5 H.size w3 (by decide) (by decide) (by decide) (by rw [y32]; omega) (by rw [y35]; omega)) [0, 1, 2] [] [0] rfl rfl rfl (by decide) (by decide) (by decide) 0 rfl rfl (big_in mw_1262 rfl) (big_in mw_10 rfl) (big_in mw_1259 rfl) (big_in mw_1261 rfl) (big_in sp_35 rfl) rfl rfl (by decide +kernel) ⟨by rw [hR]; exact Nat.le_of_ble_eq_true rfl, by rw [hR]; exact Nat.le_of_ble_eq_true rfl⟩ rfl (Nat.le_of_ble_eq_true rfl) d_Mo_nearest_70 ⟨by rw [hR]; exact Nat.le_of_ble_eq_true rfl, by rw [hR]; exact Nat.le_of_ble_eq_true rfl⟩ rfl (fun v u H locs hp5 hP hD hS _ => ?_)
      obtain ⟨fx4, fy4⟩ := u
      try dsimp only at hp5
      obtain ⟨rfl, w4⟩ := hp5
      have hP : va_P D cls0 [(mo, .inr (8, [.int qc, .int (iZ (np : Int)), .ref ow, .ref om, .ref ok_, .ref oK, .ref og, .ref on_, .ref oh, .ref ox, .int qn, .int qf, .ref op_, .int ql])), (ow, .inl (cI, 108000, .inl fx4)), (om, .inl (cI, 9, .inl fy4))] H := hP
      have hD : va_D A [(mo, .inr (8, [.int qc, .int (iZ (np : Int)), .ref ow, .ref om, .ref ok_, .ref oK, .ref og, .ref on_, .ref oh, .ref ox, .int qn, .int qf, .ref op_, .int ql])), (ow, .inl (cI, 108000, .inl fx4)), (om, .inl (cI, 9, .inl fy4))] := hD
      show W p l e R s m args below meth c H locs _ _ Q (F0 m 73 ls [])
      obtain ⟨v4, hv4⟩ : ∃ z, z = up v3 2 (v3 2 + v3 5) := ⟨_, rfl⟩
      rw [← hv4] at w4
      have hP9 : va_P D cls0 [(mo, .inr (8, [.int qc, .int (iZ (np : Int)), .ref ow, .ref om, .ref ok_, .ref oK, .ref og, .ref on_, .ref oh, .ref ox, .int qn, .int qf, .ref op_, .int ql])), (ow, .inl (cI, 108000, .inl fx4)), (om, .inl (cI, 9, .inl fy4))] H := hP.sub [0, 1, 2] rfl
      have hD9 : va_D A [(mo, .inr (8, [.int qc, .int (iZ (np : Int)), .ref ow, .ref om, .ref ok_, .ref oK, .ref og, .ref on_, .ref oh, .ref ox, .int qn, .int qf, .ref op_, .int ql])), (ow, .inl (cI, 108000, .inl fx4)), (om, .inl (cI, 9, .inl fy4))] := hD.sub [0, 1, 2] (by decide) rfl
      rw [hQ, ← hAe]
      refine r_v K (fx4, fy4, v4) hS d_Mo_nearest_73 ?_ (fun t ht hv => ?_)
      · try dsimp only
        refine ⟨rfl, w4, ?_⟩
        rw [hv4, up_s, y32, y35]
        unfold nmQ
        rw [if_pos (by omega)]
      · exact ⟨by rw [ht]; exact hP9, va_K.moved hv hK, by rw [← hAe]; exact hD9⟩
    · refine lv_iload_n hx hb d_Mo_nearest_53 rfl (lv_at hl 1 rfl) ?_
      refine zz_if_ne (tgt := 73) hx hb d_Mo_nearest_54 (by decide) (by omega) (fun c54 => ?_) (fun c54 => ?_)
      · have hP9 : va_P D cls0 [(mo, .inr (8, [.int qc, .int (iZ (np : Int)), .ref ow, .ref om, .ref ok_, .ref oK, .ref og, .ref on_, .ref oh, .ref ox, .int qn, .int qf, .ref op_, .int ql])), (ow, .inl (cI, 108000, .inl fx2)), (om, .inl (cI, 9, .inl fy2))] H := hP.sub [0, 1, 2] rfl
        have hD9 : va_D A [(mo, .inr (8, [.int qc, .int (iZ (np : Int)), .ref ow, .ref om, .ref ok_, .ref oK, .ref og, .ref on_, .ref oh, .ref ox, .int qn, .int qf, .ref op_, .int ql])), (ow, .inl (cI, 108000, .inl fx2)), (om, .inl (cI, 9, .inl fy2))] := hD.sub [0, 1, 2] (by decide) rfl
        rw [hQ, ← hAe]
        refine r_v K (fx2, fy2, v2) hS d_Mo_nearest_73 ?_ (fun t ht hv => ?_)
        · try dsimp only
          refine ⟨rfl, w2, ?_⟩
          rw [y22]
          unfold nmQ
          rw [if_neg (by omega)]
        · exact ⟨by rw [ht]; exact hP9, va_K.moved hv hK, by rw [← hAe]; exact hD9⟩
      · refine lv_iload_n hx hb d_Mo_nearest_57 rfl (lv_at hl 0 rfl) ?_
        refine zz_if_eq (tgt := 73) hx hb d_Mo_nearest_58 (by decide) (by omega) (fun c58 => ?_) (fun c58 => False.elim (by omega))
        have hP9 : va_P D cls0 [(mo, .inr (8, [.int qc, .int (iZ (np : Int)), .ref ow, .ref om, .ref ok_, .ref oK, .ref og, .ref on_, .ref oh, .ref ox, .int qn, .int qf, .ref op_, .int ql])), (ow, .inl (cI, 108000, .inl fx2)), (om, .inl (cI, 9, .inl fy2))] H := hP.sub [0, 1, 2] rfl
        have hD9 : va_D A [(mo, .inr (8, [.int qc, .int (iZ (np : Int)), .ref ow, .ref om, .ref ok_, .ref oK, .ref og, .ref on_, .ref oh, .ref ox, .int qn, .int qf, .ref op_, .int ql])), (ow, .inl (cI, 108000, .inl fx2)), (om, .inl (cI, 9, .inl fy2))] := hD.sub [0, 1, 2] (by decide) rfl
        rw [hQ, ← hAe]
        refine r_v K (fx2, fy2, v2) hS d_Mo_nearest_73 ?_ (fun t ht hv => ?_)
        · try dsimp only
          refine ⟨rfl, w2, ?_⟩
          rw [y22]
          unfold nmQ
          rw [if_neg (by omega)]
        · exact ⟨by rw [ht]; exact hP9, va_K.moved hv hK, by rw [← hAe]; exact hD9⟩
  · have od := dz0_odd (val 0 / val 1)
    have bd := dz_lt (val 0 / val 1) 0
    refine lv_aload_n hx hb d_Mo_nearest_29 rfl (lv_at hl 1 rfl) ?_
    refine va_get (D := D) (ci := 8) (v := .ref ow) (C := R_Mo) (T := F_Mo) (N := 14) hx hb hts i_Mo hown hK hP 0 rfl rfl 2 (by decide) (hts _ (big_in mw_1117 rfl)) (fun _ h9 => h9) rfl d_Mo_nearest_30 ?_
    refine lv_sipush (v := iZ (24000)) hx hb d_Mo_nearest_33 (by decide +kernel) ?_
    refine zz_iald hx hb hK hP 1 0 rfl rfl (12000 * 2 + 0) (by omega) (by omega) (by omega) d_Mo_nearest_36 ?_
    rw [w2.d (b := 2) (i := 0) (by decide) (by rw [y22]; omega), y22]
    refine lv_iconst (v := iZ (2)) hx hb d_Mo_nearest_37 (by decide +kernel) ?_
    refine zz_irem hx hb d_Mo_nearest_38 (by omega) (by omega) ?_
    refine lv_iconst (v := iZ (1)) hx hb d_Mo_nearest_39 (by decide +kernel) ?_
    refine zz_icmp_ne (tgt := 47) hx hb d_Mo_nearest_40 (by decide) (by omega) (by omega) (fun c40 => ?_) (fun c40 => ?_)
    · have ev : (val 0 / val 1) % 2 = 0 := by first | omega | (have z : (val 0 / val 1) = 0 := Nat.eq_zero_of_not_pos (fun y => by have x := nd_pos.mpr y; omega)); omega
      refine lv_iconst (v := iZ (0)) hx hb d_Mo_nearest_47 (by decide +kernel) ?_
      refine lv_istore_n (lv' := [(2, .int (iZ 0)), (1, .int (iZ rc)), (0, .ref mo)]) hx hb d_Mo_nearest_48 rfl hl (by decide) rfl (fun ls hl => ?_)
      refine lv_iload_n hx hb d_Mo_nearest_49 rfl (lv_at hl 1 rfl) ?_
      refine zz_if_gt (tgt := 61) hx hb d_Mo_nearest_50 (by decide) (by omega) (fun c50 => ?_) (fun c50 => ?_)
      · refine lv_aload_n hx hb d_Mo_nearest_61 rfl (lv_at hl 2 rfl) ?_
        refine lv_iconst (v := iZ (5)) hx hb d_Mo_nearest_62 (by decide +kernel) ?_
        refine lv_lconst (v := lZ (1)) hx hb d_Mo_nearest_63 (by decide +kernel) ?_
        refine cv (n := 2) (wr := []) (w1 := (fun (u : (Nat → Int32) × (Nat → Int32)) => [(mo, .inr (8, [.int qc, .int (iZ (np : Int)), .ref ow, .ref om, .ref ok_, .ref oK, .ref og, .ref on_, .ref oh, .ref ox, .int qn, .int qf, .ref op_, .int ql])), (ow, .inl (cI, 108000, .inl u.1)), (om, .inl (cI, 9, .inl u.2))])) (As := [.int (iZ 5), .long (lZ 1)]) (rest := []) K hP hD hK hS hA hl.1 (c_Mo_setLong l D mo qc np ow om ok_ oK og on_ oh ox qn qf op_ ql fx2 fy2 cI v2 5 1 H.size w2 (by omega) (by omega)) [0, 1, 2] [] [0] rfl rfl rfl (by decide) (by decide) (by decide) 0 rfl rfl (big_in mw_1180 rfl) (big_in mw_10 rfl) (big_in mw_1177 rfl) (big_in mw_1179 rfl) (big_in sp_19 rfl) rfl rfl (by decide +kernel) ⟨by rw [hR]; exact Nat.le_of_ble_eq_true rfl, by rw [hR]; exact Nat.le_of_ble_eq_true rfl⟩ rfl (Nat.le_of_ble_eq_true rfl) d_Mo_nearest_64 ⟨by rw [hR]; exact Nat.le_of_ble_eq_true rfl, by rw [hR]; exact Nat.le_of_ble_eq_true rfl⟩ rfl (fun v u H locs hp6 hP hD hS _ => ?_)
        obtain ⟨fx3, fy3⟩ := u
        try dsimp only at hp6
        obtain ⟨rfl, w3⟩ := hp6
        have hP : va_P D cls0 [(mo, .inr (8, [.int qc, .int (iZ (np : Int)), .ref ow, .ref om, .ref ok_, .ref oK, .ref og, .ref on_, .ref oh, .ref ox, .int qn, .int qf, .ref op_, .int ql])), (ow, .inl (cI, 108000, .inl fx3)), (om, .inl (cI, 9, .inl fy3))] H := hP
        have hD : va_D A [(mo, .inr (8, [.int qc, .int (iZ (np : Int)), .ref ow, .ref om, .ref ok_, .ref oK, .ref og, .ref on_, .ref oh, .ref ox, .int qn, .int qf, .ref op_, .int ql])), (ow, .inl (cI, 108000, .inl fx3)), (om, .inl (cI, 9, .inl fy3))] := hD
        show W p l e R s m args below meth c H locs _ _ Q (F0 m 67 ls [])
        obtain ⟨v3, hv3⟩ : ∃ x, x = up v2 5 1 := ⟨_, rfl⟩
        have w3 : WB fx3 fy3 v3 := by rw [hv3]; exact w3
        have y32 : v3 2 = (val 0 / val 1) := by rw [hv3, up_n (by decide)]; exact y22
        have y35 : v3 5 = 1 := by rw [hv3, up_s]
        refine lv_aload_n hx hb d_Mo_nearest_67 rfl (lv_at hl 2 rfl) ?_
        refine lv_iconst (v := iZ (2)) hx hb d_Mo_nearest_68 (by decide +kernel) ?_
        refine lv_iconst (v := iZ (5)) hx hb d_Mo_nearest_69 (by decide +kernel) ?_
        refine cv (n := 2) (wr := []) (w1 := (fun (u : (Nat → Int32) × (Nat → Int32)) => [(mo, .inr (8, [.int qc, .int (iZ (np : Int)), .ref ow, .ref om, .ref ok_, .ref oK, .ref og, .ref on_, .ref oh, .ref ox, .int qn, .int qf, .ref op_, .int ql])), (ow, .inl (cI, 108000, .inl u.1)), (om, .inl (cI, 9, .inl u.2))])) (As := [.int (iZ 2), .int (iZ 5)]) (rest := []) K hP hD hK hS hA hl.1 (c_Mo_addTo l D mo qc np ow om ok_ oK og on_ oh ox qn qf op_ ql fx3 fy3 cI v3 2 5 H.size w3 (by decide) (by decide) (by decide) (by rw [y32]; omega) (by rw [y35]; omega)) [0, 1, 2] [] [0] rfl rfl rfl (by decide) (by decide) (by decide) 0 rfl rfl (big_in mw_1262 rfl) (big_in mw_10 rfl) (big_in mw_1259 rfl) (big_in mw_1261 rfl) (big_in sp_35 rfl) rfl rfl (by decide +kernel) ⟨by rw [hR]; exact Nat.le_of_ble_eq_true rfl, by rw [hR]; exact Nat.le_of_ble_eq_true rfl⟩ rfl (Nat.le_of_ble_eq_true rfl) d_Mo_nearest_70 ⟨by rw [hR]; exact Nat.le_of_ble_eq_true rfl, by rw [hR]; exact Nat.le_of_ble_eq_true rfl⟩ rfl (fun v u H locs hp7 hP hD hS _ => ?_)
        obtain ⟨fx4, fy4⟩ := u
        try dsimp only at hp7
        obtain ⟨rfl, w4⟩ := hp7
        have hP : va_P D cls0 [(mo, .inr (8, [.int qc, .int (iZ (np : Int)), .ref ow, .ref om, .ref ok_, .ref oK, .ref og, .ref on_, .ref oh, .ref ox, .int qn, .int qf, .ref op_, .int ql])), (ow, .inl (cI, 108000, .inl fx4)), (om, .inl (cI, 9, .inl fy4))] H := hP
        have hD : va_D A [(mo, .inr (8, [.int qc, .int (iZ (np : Int)), .ref ow, .ref om, .ref ok_, .ref oK, .ref og, .ref on_, .ref oh, .ref ox, .int qn, .int qf, .ref op_, .int ql])), (ow, .inl (cI, 108000, .inl fx4)), (om, .inl (cI, 9, .inl fy4))] := hD
        show W p l e R s m args below meth c H locs _ _ Q (F0 m 73 ls [])
        obtain ⟨v4, hv4⟩ : ∃ z, z = up v3 2 (v3 2 + v3 5) := ⟨_, rfl⟩
        rw [← hv4] at w4
        have hP9 : va_P D cls0 [(mo, .inr (8, [.int qc, .int (iZ (np : Int)), .ref ow, .ref om, .ref ok_, .ref oK, .ref og, .ref on_, .ref oh, .ref ox, .int qn, .int qf, .ref op_, .int ql])), (ow, .inl (cI, 108000, .inl fx4)), (om, .inl (cI, 9, .inl fy4))] H := hP.sub [0, 1, 2] rfl
        have hD9 : va_D A [(mo, .inr (8, [.int qc, .int (iZ (np : Int)), .ref ow, .ref om, .ref ok_, .ref oK, .ref og, .ref on_, .ref oh, .ref ox, .int qn, .int qf, .ref op_, .int ql])), (ow, .inl (cI, 108000, .inl fx4)), (om, .inl (cI, 9, .inl fy4))] := hD.sub [0, 1, 2] (by decide) rfl
        rw [hQ, ← hAe]
        refine r_v K (fx4, fy4, v4) hS d_Mo_nearest_73 ?_ (fun t ht hv => ?_)
        · try dsimp only
          refine ⟨rfl, w4, ?_⟩
          rw [hv4, up_s, y32, y35]
          unfold nmQ
          rw [if_pos (by omega)]
        · exact ⟨by rw [ht]; exact hP9, va_K.moved hv hK, by rw [← hAe]; exact hD9⟩
      · refine lv_iload_n hx hb d_Mo_nearest_53 rfl (lv_at hl 1 rfl) ?_
        refine zz_if_ne (tgt := 73) hx hb d_Mo_nearest_54 (by decide) (by omega) (fun c54 => ?_) (fun c54 => ?_)
        · have hP9 : va_P D cls0 [(mo, .inr (8, [.int qc, .int (iZ (np : Int)), .ref ow, .ref om, .ref ok_, .ref oK, .ref og, .ref on_, .ref oh, .ref ox, .int qn, .int qf, .ref op_, .int ql])), (ow, .inl (cI, 108000, .inl fx2)), (om, .inl (cI, 9, .inl fy2))] H := hP.sub [0, 1, 2] rfl
          have hD9 : va_D A [(mo, .inr (8, [.int qc, .int (iZ (np : Int)), .ref ow, .ref om, .ref ok_, .ref oK, .ref og, .ref on_, .ref oh, .ref ox, .int qn, .int qf, .ref op_, .int ql])), (ow, .inl (cI, 108000, .inl fx2)), (om, .inl (cI, 9, .inl fy2))] := hD.sub [0, 1, 2] (by decide) rfl
          rw [hQ, ← hAe]
          refine r_v K (fx2, fy2, v2) hS d_Mo_nearest_73 ?_ (fun t ht hv => ?_)
          · try dsimp only
            refine ⟨rfl, w2, ?_⟩
            rw [y22]
            unfold nmQ
            rw [if_neg (by omega)]
          · exact ⟨by rw [ht]; exact hP9, va_K.moved hv hK, by rw [← hAe]; exact hD9⟩
        · refine lv_iload_n hx hb d_Mo_nearest_57 rfl (lv_at hl 0 rfl) ?_
          refine zz_if_eq (tgt := 73) hx hb d_Mo_nearest_58 (by decide) (by omega) (fun c58 => ?_) (fun c58 => False.elim (by omega))
          have hP9 : va_P D cls0 [(mo, .inr (8, [.int qc, .int (iZ (np : Int)), .ref ow, .ref om, .ref ok_, .ref oK, .ref og, .ref on_, .ref oh, .ref ox, .int qn, .int qf, .ref op_, .int ql])), (ow, .inl (cI, 108000, .inl fx2)), (om, .inl (cI, 9, .inl fy2))] H := hP.sub [0, 1, 2] rfl
          have hD9 : va_D A [(mo, .inr (8, [.int qc, .int (iZ (np : Int)), .ref ow, .ref om, .ref ok_, .ref oK, .ref og, .ref on_, .ref oh, .ref ox, .int qn, .int qf, .ref op_, .int ql])), (ow, .inl (cI, 108000, .inl fx2)), (om, .inl (cI, 9, .inl fy2))] := hD.sub [0, 1, 2] (by decide) rfl
          rw [hQ, ← hAe]
          refine r_v K (fx2, fy2, v2) hS d_Mo_nearest_73 ?_ (fun t ht hv => ?_)
          · try dsimp only
            refine ⟨rfl, w2, ?_⟩
            rw [y22]
            unfold nmQ
            rw [if_neg (by omega)]
          · exact ⟨by rw [ht]; exact hP9, va_K.moved hv hK, by rw [← hAe]; exact hD9⟩
    · refine lv_iconst (v := iZ (1)) hx hb d_Mo_nearest_43 (by decide +kernel) ?_
      refine lv_goto (tgt := 48) hx hb d_Mo_nearest_44 (by decide) ?_
      refine lv_istore_n (lv' := [(2, .int (iZ 1)), (1, .int (iZ rc)), (0, .ref mo)]) hx hb d_Mo_nearest_48 rfl hl (by decide) rfl (fun ls hl => ?_)
      refine lv_iload_n hx hb d_Mo_nearest_49 rfl (lv_at hl 1 rfl) ?_
      refine zz_if_gt (tgt := 61) hx hb d_Mo_nearest_50 (by decide) (by omega) (fun c50 => ?_) (fun c50 => ?_)
      · refine lv_aload_n hx hb d_Mo_nearest_61 rfl (lv_at hl 2 rfl) ?_
        refine lv_iconst (v := iZ (5)) hx hb d_Mo_nearest_62 (by decide +kernel) ?_
        refine lv_lconst (v := lZ (1)) hx hb d_Mo_nearest_63 (by decide +kernel) ?_
        refine cv (n := 2) (wr := []) (w1 := (fun (u : (Nat → Int32) × (Nat → Int32)) => [(mo, .inr (8, [.int qc, .int (iZ (np : Int)), .ref ow, .ref om, .ref ok_, .ref oK, .ref og, .ref on_, .ref oh, .ref ox, .int qn, .int qf, .ref op_, .int ql])), (ow, .inl (cI, 108000, .inl u.1)), (om, .inl (cI, 9, .inl u.2))])) (As := [.int (iZ 5), .long (lZ 1)]) (rest := []) K hP hD hK hS hA hl.1 (c_Mo_setLong l D mo qc np ow om ok_ oK og on_ oh ox qn qf op_ ql fx2 fy2 cI v2 5 1 H.size w2 (by omega) (by omega)) [0, 1, 2] [] [0] rfl rfl rfl (by decide) (by decide) (by decide) 0 rfl rfl (big_in mw_1180 rfl) (big_in mw_10 rfl) (big_in mw_1177 rfl) (big_in mw_1179 rfl) (big_in sp_19 rfl) rfl rfl (by decide +kernel) ⟨by rw [hR]; exact Nat.le_of_ble_eq_true rfl, by rw [hR]; exact Nat.le_of_ble_eq_true rfl⟩ rfl (Nat.le_of_ble_eq_true rfl) d_Mo_nearest_64 ⟨by rw [hR]; exact Nat.le_of_ble_eq_true rfl, by rw [hR]; exact Nat.le_of_ble_eq_true rfl⟩ rfl (fun v u H locs hp8 hP hD hS _ => ?_)
        obtain ⟨fx3, fy3⟩ := u
        try dsimp only at hp8
        obtain ⟨rfl, w3⟩ := hp8
        have hP : va_P D cls0 [(mo, .inr (8, [.int qc, .int (iZ (np : Int)), .ref ow, .ref om, .ref ok_, .ref oK, .ref og, .ref on_, .ref oh, .ref ox, .int qn, .int qf, .ref op_, .int ql])), (ow, .inl (cI, 108000, .inl fx3)), (om, .inl (cI, 9, .inl fy3))] H := hP
        have hD : va_D A [(mo, .inr (8, [.int qc, .int (iZ (np : Int)), .ref ow, .ref om, .ref ok_, .ref oK, .ref og, .ref on_, .ref oh, .ref ox, .int qn, .int qf, .ref op_, .int ql])), (ow, .inl (cI, 108000, .inl fx3)), (om, .inl (cI, 9, .inl fy3))] := hD
        show W p l e R s m args below meth c H locs _ _ Q (F0 m 67 ls [])
        obtain ⟨v3, hv3⟩ : ∃ x, x = up v2 5 1 := ⟨_, rfl⟩
        have w3 : WB fx3 fy3 v3 := by rw [hv3]; exact w3
        have y32 : v3 2 = (val 0 / val 1) := by rw [hv3, up_n (by decide)]; exact y22
        have y35 : v3 5 = 1 := by rw [hv3, up_s]
        refine lv_aload_n hx hb d_Mo_nearest_67 rfl (lv_at hl 2 rfl) ?_
        refine lv_iconst (v := iZ (2)) hx hb d_Mo_nearest_68 (by decide +kernel) ?_
        refine lv_iconst (v := iZ (5)) hx hb d_Mo_nearest_69 (by decide +kernel) ?_
        refine cv (n := 2) (wr := []) (w1 := (fun (u : (Nat → Int32) × (Nat → Int32)) => [(mo, .inr (8, [.int qc, .int (iZ (np : Int)), .ref ow, .ref om, .ref ok_, .ref oK, .ref og, .ref on_, .ref oh, .ref ox, .int qn, .int qf, .ref op_, .int ql])), (ow, .inl (cI, 108000, .inl u.1)), (om, .inl (cI, 9, .inl u.2))])) (As := [.int (iZ 2), .int (iZ 5)]) (rest := []) K hP hD hK hS hA hl.1 (c_Mo_addTo l D mo qc np ow om ok_ oK og on_ oh ox qn qf op_ ql fx3 fy3 cI v3 2 5 H.size w3 (by decide) (by decide) (by decide) (by rw [y32]; omega) (by rw [y35]; omega)) [0, 1, 2] [] [0] rfl rfl rfl (by decide) (by decide) (by decide) 0 rfl rfl (big_in mw_1262 rfl) (big_in mw_10 rfl) (big_in mw_1259 rfl) (big_in mw_1261 rfl) (big_in sp_35 rfl) rfl rfl (by decide +kernel) ⟨by rw [hR]; exact Nat.le_of_ble_eq_true rfl, by rw [hR]; exact Nat.le_of_ble_eq_true rfl⟩ rfl (Nat.le_of_ble_eq_true rfl) d_Mo_nearest_70 ⟨by rw [hR]; exact Nat.le_of_ble_eq_true rfl, by rw [hR]; exact Nat.le_of_ble_eq_true rfl⟩ rfl (fun v u H locs hp9 hP hD hS _ => ?_)
        obtain ⟨fx4, fy4⟩ := u
        try dsimp only at hp9
        obtain ⟨rfl, w4⟩ := hp9
        have hP : va_P D cls0 [(mo, .inr (8, [.int qc, .int (iZ (np : Int)), .ref ow, .ref om, .ref ok_, .ref oK, .ref og, .ref on_, .ref oh, .ref ox, .int qn, .int qf, .ref op_, .int ql])), (ow, .inl (cI, 108000, .inl fx4)), (om, .inl (cI, 9, .inl fy4))] H := hP
        have hD : va_D A [(mo, .inr (8, [.int qc, .int (iZ (np : Int)), .ref ow, .ref om, .ref ok_, .ref oK, .ref og, .ref on_, .ref oh, .ref ox, .int qn, .int qf, .ref op_, .int ql])), (ow, .inl (cI, 108000, .inl fx4)), (om, .inl (cI, 9, .inl fy4))] := hD
        show W p l e R s m args below meth c H locs _ _ Q (F0 m 73 ls [])
        obtain ⟨v4, hv4⟩ : ∃ z, z = up v3 2 (v3 2 + v3 5) := ⟨_, rfl⟩
        rw [← hv4] at w4
        have hP9 : va_P D cls0 [(mo, .inr (8, [.int qc, .int (iZ (np : Int)), .ref ow, .ref om, .ref ok_, .ref oK, .ref og, .ref on_, .ref oh, .ref ox, .int qn, .int qf, .ref op_, .int ql])), (ow, .inl (cI, 108000, .inl fx4)), (om, .inl (cI, 9, .inl fy4))] H := hP.sub [0, 1, 2] rfl
        have hD9 : va_D A [(mo, .inr (8, [.int qc, .int (iZ (np : Int)), .ref ow, .ref om, .ref ok_, .ref oK, .ref og, .ref on_, .ref oh, .ref ox, .int qn, .int qf, .ref op_, .int ql])), (ow, .inl (cI, 108000, .inl fx4)), (om, .inl (cI, 9, .inl fy4))] := hD.sub [0, 1, 2] (by decide) rfl
        rw [hQ, ← hAe]
        refine r_v K (fx4, fy4, v4) hS d_Mo_nearest_73 ?_ (fun t ht hv => ?_)
        · try dsimp only
          refine ⟨rfl, w4, ?_⟩
          rw [hv4, up_s, y32, y35]
          unfold nmQ
          rw [if_pos (by omega)]
        · exact ⟨by rw [ht]; exact hP9, va_K.moved hv hK, by rw [← hAe]; exact hD9⟩
      · refine lv_iload_n hx hb d_Mo_nearest_53 rfl (lv_at hl 1 rfl) ?_
        refine zz_if_ne (tgt := 73) hx hb d_Mo_nearest_54 (by decide) (by omega) (fun c54 => ?_) (fun c54 => ?_)
        · have hP9 : va_P D cls0 [(mo, .inr (8, [.int qc, .int (iZ (np : Int)), .ref ow, .ref om, .ref ok_, .ref oK, .ref og, .ref on_, .ref oh, .ref ox, .int qn, .int qf, .ref op_, .int ql])), (ow, .inl (cI, 108000, .inl fx2)), (om, .inl (cI, 9, .inl fy2))] H := hP.sub [0, 1, 2] rfl
          have hD9 : va_D A [(mo, .inr (8, [.int qc, .int (iZ (np : Int)), .ref ow, .ref om, .ref ok_, .ref oK, .ref og, .ref on_, .ref oh, .ref ox, .int qn, .int qf, .ref op_, .int ql])), (ow, .inl (cI, 108000, .inl fx2)), (om, .inl (cI, 9, .inl fy2))] := hD.sub [0, 1, 2] (by decide) rfl
          rw [hQ, ← hAe]
          refine r_v K (fx2, fy2, v2) hS d_Mo_nearest_73 ?_ (fun t ht hv => ?_)
          · try dsimp only
            refine ⟨rfl, w2, ?_⟩
            rw [y22]
            unfold nmQ
            rw [if_neg (by omega)]
          · exact ⟨by rw [ht]; exact hP9, va_K.moved hv hK, by rw [← hAe]; exact hD9⟩
        · refine lv_iload_n hx hb d_Mo_nearest_57 rfl (lv_at hl 0 rfl) ?_
          refine zz_if_eq (tgt := 73) hx hb d_Mo_nearest_58 (by decide) (by omega) (fun c58 => False.elim (by omega)) (fun c58 => ?_)
          refine lv_aload_n hx hb d_Mo_nearest_61 rfl (lv_at hl 2 rfl) ?_
          refine lv_iconst (v := iZ (5)) hx hb d_Mo_nearest_62 (by decide +kernel) ?_
          refine lv_lconst (v := lZ (1)) hx hb d_Mo_nearest_63 (by decide +kernel) ?_
          refine cv (n := 2) (wr := []) (w1 := (fun (u : (Nat → Int32) × (Nat → Int32)) => [(mo, .inr (8, [.int qc, .int (iZ (np : Int)), .ref ow, .ref om, .ref ok_, .ref oK, .ref og, .ref on_, .ref oh, .ref ox, .int qn, .int qf, .ref op_, .int ql])), (ow, .inl (cI, 108000, .inl u.1)), (om, .inl (cI, 9, .inl u.2))])) (As := [.int (iZ 5), .long (lZ 1)]) (rest := []) K hP hD hK hS hA hl.1 (c_Mo_setLong l D mo qc np ow om ok_ oK og on_ oh ox qn qf op_ ql fx2 fy2 cI v2 5 1 H.size w2 (by omega) (by omega)) [0, 1, 2] [] [0] rfl rfl rfl (by decide) (by decide) (by decide) 0 rfl rfl (big_in mw_1180 rfl) (big_in mw_10 rfl) (big_in mw_1177 rfl) (big_in mw_1179 rfl) (big_in sp_19 rfl) rfl rfl (by decide +kernel) ⟨by rw [hR]; exact Nat.le_of_ble_eq_true rfl, by rw [hR]; exact Nat.le_of_ble_eq_true rfl⟩ rfl (Nat.le_of_ble_eq_true rfl) d_Mo_nearest_64 ⟨by rw [hR]; exact Nat.le_of_ble_eq_true rfl, by rw [hR]; exact Nat.le_of_ble_eq_true rfl⟩ rfl (fun v u H locs hp10 hP hD hS _ => ?_)
          obtain ⟨fx3, fy3⟩ := u
          try dsimp only at hp10
          obtain ⟨rfl, w3⟩ := hp10
          have hP : va_P D cls0 [(mo, .inr (8, [.int qc, .int (iZ (np : Int)), .ref ow, .ref om, .ref ok_, .ref oK, .ref og, .ref on_, .ref oh, .ref ox, .int qn, .int qf, .ref op_, .int ql])), (ow, .inl (cI, 108000, .inl fx3)), (om, .inl (cI, 9, .inl fy3))] H := hP
          have hD : va_D A [(mo, .inr (8, [.int qc, .int (iZ (np : Int)), .ref ow, .ref om, .ref ok_, .ref oK, .ref og, .ref on_, .ref oh, .ref ox, .int qn, .int qf, .ref op_, .int ql])), (ow, .inl (cI, 108000, .inl fx3)), (om, .inl (cI, 9, .inl fy3))] := hD
          show W p l e R s m args below meth c H locs _ _ Q (F0 m 67 ls [])
          obtain ⟨v3, hv3⟩ : ∃ x, x = up v2 5 1 := ⟨_, rfl⟩
          have w3 : WB fx3 fy3 v3 := by rw [hv3]; exact w3
          have y32 : v3 2 = (val 0 / val 1) := by rw [hv3, up_n (by decide)]; exact y22
          have y35 : v3 5 = 1 := by rw [hv3, up_s]
          refine lv_aload_n hx hb d_Mo_nearest_67 rfl (lv_at hl 2 rfl) ?_
          refine lv_iconst (v := iZ (2)) hx hb d_Mo_nearest_68 (by decide +kernel) ?_
          refine lv_iconst (v := iZ (5)) hx hb d_Mo_nearest_69 (by decide +kernel) ?_
          refine cv (n := 2) (wr := []) (w1 := (fun (u : (Nat → Int32) × (Nat → Int32)) => [(mo, .inr (8, [.int qc, .int (iZ (np : Int)), .ref ow, .ref om, .ref ok_, .ref oK, .ref og, .ref on_, .ref oh, .ref ox, .int qn, .int qf, .ref op_, .int ql])), (ow, .inl (cI, 108000, .inl u.1)), (om, .inl (cI, 9, .inl u.2))])) (As := [.int (iZ 2), .int (iZ 5)]) (rest := []) K hP hD hK hS hA hl.1 (c_Mo_addTo l D mo qc np ow om ok_ oK og on_ oh ox qn qf op_ ql fx3 fy3 cI v3 2 5 H.size w3 (by decide) (by decide) (by decide) (by rw [y32]; omega) (by rw [y35]; omega)) [0, 1, 2] [] [0] rfl rfl rfl (by decide) (by decide) (by decide) 0 rfl rfl (big_in mw_1262 rfl) (big_in mw_10 rfl) (big_in mw_1259 rfl) (big_in mw_1261 rfl) (big_in sp_35 rfl) rfl rfl (by decide +kernel) ⟨by rw [hR]; exact Nat.le_of_ble_eq_true rfl, by rw [hR]; exact Nat.le_of_ble_eq_true rfl⟩ rfl (Nat.le_of_ble_eq_true rfl) d_Mo_nearest_70 ⟨by rw [hR]; exact Nat.le_of_ble_eq_true rfl, by rw [hR]; exact Nat.le_of_ble_eq_true rfl⟩ rfl (fun v u H locs hp11 hP hD hS _ => ?_)
          obtain ⟨fx4, fy4⟩ := u
          try dsimp only at hp11
          obtain ⟨rfl, w4⟩ := hp11
          have hP : va_P D cls0 [(mo, .inr (8, [.int qc, .int (iZ (np : Int)), .ref ow, .ref om, .ref ok_, .ref oK, .ref og, .ref on_, .ref oh, .ref ox, .int qn, .int qf, .ref op_, .int ql])), (ow, .inl (cI, 108000, .inl fx4)), (om, .inl (cI, 9, .inl fy4))] H := hP
          have hD : va_D A [(mo, .inr (8, [.int qc, .int (iZ (np : Int)), .ref ow, .ref om, .ref ok_, .ref oK, .ref og, .ref on_, .ref oh, .ref ox, .int qn, .int qf, .ref op_, .int ql])), (ow, .inl (cI, 108000, .inl fx4)), (om, .inl (cI, 9, .inl fy4))] := hD
          show W p l e R s m args below meth c H locs _ _ Q (F0 m 73 ls [])
          obtain ⟨v4, hv4⟩ : ∃ z, z = up v3 2 (v3 2 + v3 5) := ⟨_, rfl⟩
          rw [← hv4] at w4
          have hP9 : va_P D cls0 [(mo, .inr (8, [.int qc, .int (iZ (np : Int)), .ref ow, .ref om, .ref ok_, .ref oK, .ref og, .ref on_, .ref oh, .ref ox, .int qn, .int qf, .ref op_, .int ql])), (ow, .inl (cI, 108000, .inl fx4)), (om, .inl (cI, 9, .inl fy4))] H := hP.sub [0, 1, 2] rfl
          have hD9 : va_D A [(mo, .inr (8, [.int qc, .int (iZ (np : Int)), .ref ow, .ref om, .ref ok_, .ref oK, .ref og, .ref on_, .ref oh, .ref ox, .int qn, .int qf, .ref op_, .int ql])), (ow, .inl (cI, 108000, .inl fx4)), (om, .inl (cI, 9, .inl fy4))] := hD.sub [0, 1, 2] (by decide) rfl
          rw [hQ, ← hAe]
          refine r_v K (fx4, fy4, v4) hS d_Mo_nearest_73 ?_ (fun t ht hv => ?_)
          · try dsimp only
            refine ⟨rfl, w4, ?_⟩
            rw [hv4, up_s, y32, y35]
            unfold nmQ
            rw [if_pos (by omega)]
          · exact ⟨by rw [ht]; exact hP9, va_K.moved hv hK, by rw [← hAe]; exact hD9⟩
