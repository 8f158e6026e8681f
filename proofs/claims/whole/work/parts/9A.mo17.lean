theorem pw_need {u w t : Nat} (hu : 0 < u) (hw : 0 < w) (h : (33000 : Int) < (t : Int) * ((bl u : Int) + (bl w : Int) - 2)) : 1024 < lm (u ^ t) + lm (w ^ t) := by
  have b1 := bl_pos hu
  have b2 := bl_pos hw
  have lo : ∀ {v : Nat}, 0 < v → (bl v - 1) * t / 32 < lm (v ^ t) := fun {v} hv => by
    apply lm_lt.mpr
    rw [pB_two]
    refine Nat.le_trans (Nat.pow_le_pow_right (by decide) (show 32 * ((bl v - 1) * t / 32) ≤ (bl v - 1) * t by omega)) ?_
    rw [Nat.pow_mul]
    exact Nat.pow_le_pow_left (bl_ge hv) t
  have l1 := lo hu
  have l2 := lo hw
  have e : (t : Int) * ((bl u : Int) + (bl w : Int) - 2) = (((bl u - 1) * t + (bl w - 1) * t : Nat) : Int) := by
    rw [← Nat.add_mul, Nat.mul_comm, Int.natCast_mul]
    congr 1
    omega
  rw [e] at h
  omega
theorem pw_cap {u w t : Nat} (ht : t ≤ 1000) (h : (t : Int) * ((bl u : Int) + (bl w : Int) - 2) ≤ 33000) : bl u * t ≤ 35000 ∧ bl w * t ≤ 35000 := by
  have e : (t : Int) * ((bl u : Int) + (bl w : Int) - 2) = ((bl u * t : Nat) : Int) + ((bl w * t : Nat) : Int) - 2 * (t : Int) := by
    rw [Int.natCast_mul, Int.natCast_mul, Int.mul_sub, Int.mul_add, Int.mul_comm (t : Int) (bl u : Int), Int.mul_comm (t : Int) (bl w : Int), Int.mul_comm (t : Int) 2]
  omega
theorem pw_nd {u t : Nat} (h : bl u * t ≤ 35000) : nd (u ^ t) + 5 ≤ 12000 := by
  have := nd_bits (bl_pow u t)
  omega
theorem pw_lm {u t : Nat} (h : bl u * t ≤ 35000) : lm (u ^ t) ≤ 4995 := by
  have := lm_pow u t
  omega
theorem pw_rng {a b t : Nat} (ht : t ≤ 1000) (ha : a ≤ 40000) (hb : b ≤ 40000) : -3000 ≤ (t : Int) * ((a : Int) + (b : Int) - 2) ∧ (t : Int) * ((a : Int) + (b : Int) - 2) < 1000000000 := by
  have h1 : t * a ≤ 1000 * 40000 := Nat.mul_le_mul ht ha
  have h2 : t * b ≤ 1000 * 40000 := Nat.mul_le_mul ht hb
  have e : (t : Int) * ((a : Int) + (b : Int) - 2) = ((t * a : Nat) : Int) + ((t * b : Nat) : Int) - 2 * (t : Int) := by
    rw [Int.natCast_mul, Int.natCast_mul, Int.mul_sub, Int.mul_add, Int.mul_comm (t : Int) 2]
  omega
set_option maxHeartbeats 4000000 in
set_option maxRecDepth 100000 in
/-- power(to, a, n) -/
theorem c_Mo_powerUp (l : Launch) (D : va_G) (mo : Nat) (qc : Int32) (np : Nat) (ow : Nat) (om : Nat) (ok_ : Nat) (oK : Nat) (og : Nat) (on_ : Nat) (oh : Nat) (ox : Nat) (qn : Int32) (qf : Int32) (op_ : Nat) (ql : Int32) (fw : Nat → Int32) (fm : Nat → Int32) (cI : ClassId) (fh : Nat → Int32) (fk : Nat → Int32) (fK : Nat → Int32) (fs : Nat → Int32) (fn : Nat → Int32) (val : Nat → Nat) (tv : Nat → Nat) (bv : Nat → Nat) (sg : Nat → Int) (to : Nat) (a : Nat) (tm : Nat) (sz : Nat) (hW : WB fw fm val) (hMR : MoR fk fK fs fn tv bv sg) (hnd : ndS tv bv 32 ≤ np) (hnp : np ≤ 1024) (J : RgC tv bv sg) (hbv : ∀ r, r < 32 → 0 < bv r) (t1 : to < 32) (t2 : a < 32) (htm : tm ≤ 1000) (hfit : ndS tv bv 32 + (lm ((tv a) ^ tm) + lm ((bv a) ^ tm)) ≤ np + (lm (tv to) + lm (bv to))) : Met l y_Mo_power (wsB y_Mo_power b_Mo_power 7 (some .int)) ({ frames := 4, cells := 0, slots := 0, locals := 93 }) (va_Pc [.ref mo, .int (iZ (to : Int)), .int (iZ (a : Int)), .int (iZ (tm : Int))] (wPre D [(cI, .int)] [(mo, .inr (8, [.int qc, .int (iZ (np : Int)), .ref ow, .ref om, .ref ok_, .ref oK, .ref og, .ref on_, .ref oh, .ref ox, .int qn, .int qf, .ref op_, .int ql])), (ow, .inl (cI, 108000, .inl fw)), (om, .inl (cI, 9, .inl fm)), (oh, .inl (cI, 10000, .inl fh)), (ok_, .inl (cI, 166400, .inl fk)), (oK, .inl (cI, 64, .inl fK)), (og, .inl (cI, 32, .inl fs)), (on_, .inl (cI, 32, .inl fn))] sz)) (va_QV (fun (v_9 : Option Value) (u_9 : (Nat → Int32) × (Nat → Int32) × (Nat → Int32) × (Nat → Int32) × (Nat → Int32) × (Nat → Int32) × (Nat → Int32) × (Nat → Nat)) => v_9 = some (.int (iZ ((lm ((tv a) ^ tm) : Int) + (lm ((bv a) ^ tm) : Int)))) ∧ (WB u_9.1 u_9.2.1 u_9.2.2.2.2.2.2.2) ∧ (MoR u_9.2.2.2.1 u_9.2.2.2.2.1 u_9.2.2.2.2.2.1 u_9.2.2.2.2.2.2.1 (up tv to ((tv a) ^ tm)) (up bv to ((bv a) ^ tm)) (up sg to (if (tv a) ^ tm = 0 then 0 else (if tm % 2 = 1 then sg a else 1))))) (fun u_9 => wPost D [(cI, .int)] [(mo, .inr (8, [.int qc, .int (iZ (np : Int)), .ref ow, .ref om, .ref ok_, .ref oK, .ref og, .ref on_, .ref oh, .ref ox, .int qn, .int qf, .ref op_, .int ql])), (ow, .inl (cI, 108000, .inl fw)), (om, .inl (cI, 9, .inl fm)), (oh, .inl (cI, 10000, .inl fh)), (ok_, .inl (cI, 166400, .inl fk)), (oK, .inl (cI, 64, .inl fK)), (og, .inl (cI, 32, .inl fs)), (on_, .inl (cI, 32, .inl fn))] [(mo, .inr (8, [.int (iZ 0), .int (iZ (np : Int)), .ref ow, .ref om, .ref ok_, .ref oK, .ref og, .ref on_, .ref oh, .ref ox, .int qn, .int qf, .ref op_, .int ql])), (ow, .inl (cI, 108000, .inl u_9.1)), (om, .inl (cI, 9, .inl u_9.2.1)), (oh, .inl (cI, 10000, .inl u_9.2.2.1)), (ok_, .inl (cI, 166400, .inl u_9.2.2.2.1)), (oK, .inl (cI, 64, .inl u_9.2.2.2.2.1)), (og, .inl (cI, 32, .inl u_9.2.2.2.2.2.1)), (on_, .inl (cI, 32, .inl u_9.2.2.2.2.2.2.1))] sz) (va_A [(mo, .inr (8, [.int qc, .int (iZ (np : Int)), .ref ow, .ref om, .ref ok_, .ref oK, .ref og, .ref on_, .ref oh, .ref ox, .int qn, .int qf, .ref op_, .int ql])), (ow, .inl (cI, 108000, .inl fw)), (om, .inl (cI, 9, .inl fm)), (oh, .inl (cI, 10000, .inl fh)), (ok_, .inl (cI, 166400, .inl fk)), (oK, .inl (cI, 64, .inl fK)), (og, .inl (cI, 32, .inl fs)), (on_, .inl (cI, 32, .inl fn))] sz)) 0 0 (va_A [(mo, .inr (8, [.int qc, .int (iZ (np : Int)), .ref ow, .ref om, .ref ok_, .ref oK, .ref og, .ref on_, .ref oh, .ref ox, .int qn, .int qf, .ref op_, .int ql])), (ow, .inl (cI, 108000, .inl fw)), (om, .inl (cI, 9, .inl fm)), (oh, .inl (cI, 10000, .inl fh)), (ok_, .inl (cI, 166400, .inl fk)), (oK, .inl (cI, 64, .inl fK)), (og, .inl (cI, 32, .inl fs)), (on_, .inl (cI, 32, .inl fn))] sz) := by
  refine met_enter (by decide +kernel) (Nat.le_of_ble_eq_true rfl) ?_
  intro p e s m args below meth c ls A R Q H locs K hin hAe hA hR hQ hP hK hD hS hl
  obtain ⟨hx, hb, hml, hrt, hlk, hts, hown, hno⟩ := id K
  have hl : lv_has ls 7 [(0, .ref mo), (1, .int (iZ (to : Int))), (2, .int (iZ (a : Int))), (3, .int (iZ (tm : Int)))] := hl
  have hlr : ∀ q, q < 32 → lm (tv q) + lm (bv q) ≤ 1024 := fun q hq => by have z := ndS_le (tv := tv) (bv := bv) hq; omega
  have hnt : ∀ q, q < 32 → nd (tv q) ≤ 2600 := fun q hq => by have z := nd_lm (v := tv q) (L := 1024) (by have y := hlr q hq; omega); omega
  have hnb : ∀ q, q < 32 → nd (bv q) ≤ 2600 := fun q hq => by have z := nd_lm (v := bv q) (L := 1024) (by have y := hlr q hq; omega); omega
  obtain ⟨ja1, ja2, ja3⟩ := J a (by omega)
  have pa := hbv a (by omega)
  have la := hlr a (by omega)
  have n1 := hnt a (by omega)
  have n2 := hnb a (by omega)
  have bb1 := bl_le_lm (tv a)
  have bb2 := bl_le_lm (bv a)
  have lto := ndS_le (tv := tv) (bv := bv) t1
  refine lv_aload_n hx hb d_Mo_power_0 rfl (lv_at hl 0 rfl) ?_
  refine lv_iload_n hx hb d_Mo_power_1 rfl (lv_at hl 1 rfl) ?_
  refine cs (n := 1) (wr := [(mo, .inr (8, [.int qc, .int (iZ (np : Int)), .ref ow, .ref om, .ref ok_, .ref oK, .ref og, .ref on_, .ref oh, .ref ox, .int qn, .int qf, .ref op_, .int ql])), (ow, .inl (cI, 108000, .inl fw)), (om, .inl (cI, 9, .inl fm)), (oh, .inl (cI, 10000, .inl fh)), (ok_, .inl (cI, 166400, .inl fk)), (oK, .inl (cI, 64, .inl fK)), (og, .inl (cI, 32, .inl fs)), (on_, .inl (cI, 32, .inl fn))]) (w1 := (fun (u : Int) => [])) (As := [.int (iZ (to : Int))]) (rest := [.ref mo]) K hP hD hK hS hA hl.1 (c_Mo_isRegister l D (to : Int) H.size (by omega)) [] [0, 1, 2, 3, 4, 5, 6, 7] [] rfl rfl rfl (by decide) (by decide) (by decide) (big_in mw_1172 rfl) (big_in mw_10 rfl) (big_in mw_1170 rfl) (big_in mw_1171 rfl) rfl rfl (by decide +kernel) ⟨by rw [hR]; exact Nat.le_of_ble_eq_true rfl, by rw [hR]; exact Nat.le_of_ble_eq_true rfl⟩ rfl (Nat.le_of_ble_eq_true rfl) d_Mo_power_2 ⟨by rw [hR]; exact Nat.le_of_ble_eq_true rfl, by rw [hR]; exact Nat.le_of_ble_eq_true rfl⟩ rfl (fun v u H locs hp1 hP hD hS _ => ?_)
  obtain ⟨r2, rfl⟩ : ∃ z, z = u := ⟨_, rfl⟩
  obtain ⟨rfl, p2⟩ := hp1
  have hP : va_P D cls0 [(mo, .inr (8, [.int qc, .int (iZ (np : Int)), .ref ow, .ref om, .ref ok_, .ref oK, .ref og, .ref on_, .ref oh, .ref ox, .int qn, .int qf, .ref op_, .int ql])), (ow, .inl (cI, 108000, .inl fw)), (om, .inl (cI, 9, .inl fm)), (oh, .inl (cI, 10000, .inl fh)), (ok_, .inl (cI, 166400, .inl fk)), (oK, .inl (cI, 64, .inl fK)), (og, .inl (cI, 32, .inl fs)), (on_, .inl (cI, 32, .inl fn))] H := hP
  have hD : va_D A [(mo, .inr (8, [.int qc, .int (iZ (np : Int)), .ref ow, .ref om, .ref ok_, .ref oK, .ref og, .ref on_, .ref oh, .ref ox, .int qn, .int qf, .ref op_, .int ql])), (ow, .inl (cI, 108000, .inl fw)), (om, .inl (cI, 9, .inl fm)), (oh, .inl (cI, 10000, .inl fh)), (ok_, .inl (cI, 166400, .inl fk)), (oK, .inl (cI, 64, .inl fK)), (og, .inl (cI, 32, .inl fs)), (on_, .inl (cI, 32, .inl fn))] := hD
  show W p l e R s m args below meth c H locs _ _ Q (F0 m 5 ls [.int (iZ r2), .ref mo])
  have b2 : 0 ≤ r2 ∧ r2 ≤ 1 := by omega
  refine zz_if_eq (tgt := 15) hx hb d_Mo_power_5 (by decide) (by omega) (fun c5 => ?_) (fun c5 => ?_)
  · refine lv_iconst (v := iZ (1)) hx hb d_Mo_power_15 (by decide +kernel) ?_
    refine lv_goto (tgt := 55) hx hb d_Mo_power_16 (by decide) ?_
    exfalso
    omega
  · refine lv_iload_n hx hb d_Mo_power_8 rfl (lv_at hl 2 rfl) ?_
    refine cs (n := 1) (wr := [(mo, .inr (8, [.int qc, .int (iZ (np : Int)), .ref ow, .ref om, .ref ok_, .ref oK, .ref og, .ref on_, .ref oh, .ref ox, .int qn, .int qf, .ref op_, .int ql])), (ow, .inl (cI, 108000, .inl fw)), (om, .inl (cI, 9, .inl fm)), (oh, .inl (cI, 10000, .inl fh)), (ok_, .inl (cI, 166400, .inl fk)), (oK, .inl (cI, 64, .inl fK)), (og, .inl (cI, 32, .inl fs)), (on_, .inl (cI, 32, .inl fn))]) (w1 := (fun (u : Int) => [])) (As := [.int (iZ (a : Int))]) (rest := [.ref mo]) K hP hD hK hS hA hl.1 (c_Mo_isRegister l D (a : Int) H.size (by omega)) [] [0, 1, 2, 3, 4, 5, 6, 7] [] rfl rfl rfl (by decide) (by decide) (by decide) (big_in mw_1172 rfl) (big_in mw_10 rfl) (big_in mw_1170 rfl) (big_in mw_1171 rfl) rfl rfl (by decide +kernel) ⟨by rw [hR]; exact Nat.le_of_ble_eq_true rfl, by rw [hR]; exact Nat.le_of_ble_eq_true rfl⟩ rfl (Nat.le_of_ble_eq_true rfl) d_Mo_power_9 ⟨by rw [hR]; exact Nat.le_of_ble_eq_true rfl, by rw [hR]; exact Nat.le_of_ble_eq_true rfl⟩ rfl (fun v u H locs hp2 hP hD hS _ => ?_)
    obtain ⟨r9, rfl⟩ : ∃ z, z = u := ⟨_, rfl⟩
    obtain ⟨rfl, p9⟩ := hp2
    have hP : va_P D cls0 [(mo, .inr (8, [.int qc, .int (iZ (np : Int)), .ref ow, .ref om, .ref ok_, .ref oK, .ref og, .ref on_, .ref oh, .ref ox, .int qn, .int qf, .ref op_, .int ql])), (ow, .inl (cI, 108000, .inl fw)), (om, .inl (cI, 9, .inl fm)), (oh, .inl (cI, 10000, .inl fh)), (ok_, .inl (cI, 166400, .inl fk)), (oK, .inl (cI, 64, .inl fK)), (og, .inl (cI, 32, .inl fs)), (on_, .inl (cI, 32, .inl fn))] H := hP
    have hD : va_D A [(mo, .inr (8, [.int qc, .int (iZ (np : Int)), .ref ow, .ref om, .ref ok_, .ref oK, .ref og, .ref on_, .ref oh, .ref ox, .int qn, .int qf, .ref op_, .int ql])), (ow, .inl (cI, 108000, .inl fw)), (om, .inl (cI, 9, .inl fm)), (oh, .inl (cI, 10000, .inl fh)), (ok_, .inl (cI, 166400, .inl fk)), (oK, .inl (cI, 64, .inl fK)), (og, .inl (cI, 32, .inl fs)), (on_, .inl (cI, 32, .inl fn))] := hD
    show W p l e R s m args below meth c H locs _ _ Q (F0 m 12 ls [.int (iZ r9), .ref mo])
    have b9 : 0 ≤ r9 ∧ r9 ≤ 1 := by omega
    refine zz_if_ne (tgt := 19) hx hb d_Mo_power_12 (by decide) (by omega) (fun c12 => ?_) (fun c12 => ?_)
    · refine lv_iload_n hx hb d_Mo_power_19 rfl (lv_at hl 3 rfl) ?_
      refine lv_sipush (v := iZ (-1000)) hx hb d_Mo_power_20 (by decide +kernel) ?_
      refine zz_icmp_lt (tgt := 33) hx hb d_Mo_power_23 (by decide) (by omega) (by omega) (fun c23 => False.elim (by omega)) (fun c23 => ?_)
      refine lv_iload_n hx hb d_Mo_power_26 rfl (lv_at hl 3 rfl) ?_
      refine lv_sipush (v := iZ (1000)) hx hb d_Mo_power_27 (by decide +kernel) ?_
      refine zz_icmp_le (tgt := 37) hx hb d_Mo_power_30 (by decide) (by omega) (by omega) (fun c30 => ?_) (fun c30 => False.elim (by omega))
      refine lv_iload_n hx hb d_Mo_power_37 rfl (lv_at hl 3 rfl) ?_
      refine zz_if_ge (tgt := 54) hx hb d_Mo_power_38 (by decide) (by omega) (fun c38 => ?_) (fun c38 => False.elim (by omega))
      refine lv_iconst (v := iZ (0)) hx hb d_Mo_power_54 (by decide +kernel) ?_
      refine cv (n := 1) (wr := [(ow, .inl (cI, 108000, .inl fw)), (om, .inl (cI, 9, .inl fm)), (oh, .inl (cI, 10000, .inl fh)), (ok_, .inl (cI, 166400, .inl fk)), (oK, .inl (cI, 64, .inl fK)), (og, .inl (cI, 32, .inl fs)), (on_, .inl (cI, 32, .inl fn))]) (w1 := (fun (u : Int) => [(mo, .inr (8, [.int (iZ 0), .int (iZ (np : Int)), .ref ow, .ref om, .ref ok_, .ref oK, .ref og, .ref on_, .ref oh, .ref ox, .int qn, .int qf, .ref op_, .int ql]))])) (As := [.int (iZ 0)]) (rest := []) K hP hD hK hS hA hl.1 (c_Mo_refuses l D mo qc np ow om ok_ oK og on_ oh ox qn qf op_ ql 0 H.size (by omega)) [0] [1, 2, 3, 4, 5, 6, 7] [] rfl rfl rfl (by decide) (by decide) (by decide) 0 rfl rfl (big_in mw_1176 rfl) (big_in mw_10 rfl) (big_in mw_1173 rfl) (big_in mw_1175 rfl) (big_in sp_18 rfl) rfl rfl (by decide +kernel) ⟨by rw [hR]; exact Nat.le_of_ble_eq_true rfl, by rw [hR]; exact Nat.le_of_ble_eq_true rfl⟩ rfl (Nat.le_of_ble_eq_true rfl) d_Mo_power_55 ⟨by rw [hR]; exact Nat.le_of_ble_eq_true rfl, by rw [hR]; exact Nat.le_of_ble_eq_true rfl⟩ rfl (fun v u H locs hp3 hP hD hS _ => ?_)
      obtain ⟨rf, rfl⟩ : ∃ z, z = u := ⟨_, rfl⟩
      obtain ⟨rfl, prf⟩ := hp3
      have hP : va_P D cls0 [(ow, .inl (cI, 108000, .inl fw)), (om, .inl (cI, 9, .inl fm)), (oh, .inl (cI, 10000, .inl fh)), (ok_, .inl (cI, 166400, .inl fk)), (oK, .inl (cI, 64, .inl fK)), (og, .inl (cI, 32, .inl fs)), (on_, .inl (cI, 32, .inl fn)), (mo, .inr (8, [.int (iZ 0), .int (iZ (np : Int)), .ref ow, .ref om, .ref ok_, .ref oK, .ref og, .ref on_, .ref oh, .ref ox, .int qn, .int qf, .ref op_, .int ql]))] H := hP
      have hD : va_D A [(ow, .inl (cI, 108000, .inl fw)), (om, .inl (cI, 9, .inl fm)), (oh, .inl (cI, 10000, .inl fh)), (ok_, .inl (cI, 166400, .inl fk)), (oK, .inl (cI, 64, .inl fK)), (og, .inl (cI, 32, .inl fs)), (on_, .inl (cI, 32, .inl fn)), (mo, .inr (8, [.int (iZ 0), .int (iZ (np : Int)), .ref ow, .ref om, .ref ok_, .ref oK, .ref og, .ref on_, .ref oh, .ref ox, .int qn, .int qf, .ref op_, .int ql]))] := hD
      show W p l e R s m args below meth c H locs _ _ Q (F0 m 58 ls [.int (iZ rf)])
      refine zz_if_eq (tgt := 63) hx hb d_Mo_power_58 (by decide) (by omega) (fun c58 => ?_) (fun c58 => False.elim (by omega))
      refine lv_iload_n hx hb d_Mo_power_63 rfl (lv_at hl 3 rfl) ?_
      refine zz_if_ge (tgt := 72) hx hb d_Mo_power_64 (by decide) (by omega) (fun c64 => ?_) (fun c64 => False.elim (by omega))
      refine lv_iload_n hx hb d_Mo_power_72 rfl (lv_at hl 3 rfl) ?_
      refine lv_istore (lv' := [(4, .int (iZ (tm : Int))), (0, .ref mo), (1, .int (iZ (to : Int))), (2, .int (iZ (a : Int))), (3, .int (iZ (tm : Int)))]) hx hb d_Mo_power_73 hl (by decide) rfl (fun ls hl => ?_)
      refine lv_aload_n hx hb d_Mo_power_75 rfl (lv_at hl 1 rfl) ?_
      refine lv_iconst (v := iZ (0)) hx hb d_Mo_power_76 (by decide +kernel) ?_
      refine lv_iconst (v := iZ (2)) hx hb d_Mo_power_77 (by decide +kernel) ?_
      refine lv_iload_n hx hb d_Mo_power_78 rfl (lv_at hl 3 rfl) ?_
      refine zz_imul hx hb d_Mo_power_79 ?_
      refine lv_iload_n hx hb d_Mo_power_80 rfl (lv_at hl 4 rfl) ?_
      refine zz_if_ge (tgt := 88) hx hb d_Mo_power_81 (by decide) (by omega) (fun c81 => ?_) (fun c81 => False.elim (by omega))
      refine lv_iconst (v := iZ (0)) hx hb d_Mo_power_88 (by decide +kernel) ?_
      refine zz_iadd hx hb d_Mo_power_89 ?_
      rw [show (2 * (a : Int) + 0 : Int) = ((2 * a : Nat) : Int) by omega]
      refine cv (n := 2) (wr := [(oh, .inl (cI, 10000, .inl fh)), (og, .inl (cI, 32, .inl fs)), (on_, .inl (cI, 32, .inl fn))]) (w1 := (fun (u : (Nat → Int32) × (Nat → Int32)) => [(mo, .inr (8, [.int (iZ 0), .int (iZ (np : Int)), .ref ow, .ref om, .ref ok_, .ref oK, .ref og, .ref on_, .ref oh, .ref ox, .int qn, .int qf, .ref op_, .int ql])), (ow, .inl (cI, 108000, .inl u.1)), (om, .inl (cI, 9, .inl u.2)), (ok_, .inl (cI, 166400, .inl fk)), (oK, .inl (cI, 64, .inl fK))])) (As := [.int (iZ 0), .int (iZ ((2 * a : Nat) : Int))]) (rest := []) K hP hD hK hS hA hl.1 (c_Mo_load l D mo (iZ 0) np ow om ok_ oK og on_ oh ox qn qf op_ ql fw fm cI fk fK val (kvf tv bv) 0 (2 * a) H.size hW hMR.1 (by decide) (by omega)) [7, 0, 1, 3, 4] [2, 5, 6] [0] rfl rfl rfl (by decide) (by decide) (by decide) 0 rfl rfl (big_in mw_1238 rfl) (big_in mw_10 rfl) (big_in mw_1235 rfl) (big_in mw_1237 rfl) (big_in sp_31 rfl) rfl rfl (by decide +kernel) ⟨by rw [hR]; exact Nat.le_of_ble_eq_true rfl, by rw [hR]; exact Nat.le_of_ble_eq_true rfl⟩ rfl (Nat.le_of_ble_eq_true rfl) d_Mo_power_90 ⟨by rw [hR]; exact Nat.le_of_ble_eq_true rfl, by rw [hR]; exact Nat.le_of_ble_eq_true rfl⟩ rfl (fun v u H locs hp4 hP hD hS _ => ?_)
      obtain ⟨fx1, fy1⟩ := u
      try dsimp only at hp4
      obtain ⟨rfl, w1⟩ := hp4
      have hP : va_P D cls0 [(oh, .inl (cI, 10000, .inl fh)), (og, .inl (cI, 32, .inl fs)), (on_, .inl (cI, 32, .inl fn)), (mo, .inr (8, [.int (iZ 0), .int (iZ (np : Int)), .ref ow, .ref om, .ref ok_, .ref oK, .ref og, .ref on_, .ref oh, .ref ox, .int qn, .int qf, .ref op_, .int ql])), (ow, .inl (cI, 108000, .inl fx1)), (om, .inl (cI, 9, .inl fy1)), (ok_, .inl (cI, 166400, .inl fk)), (oK, .inl (cI, 64, .inl fK))] H := hP
      have hD : va_D A [(oh, .inl (cI, 10000, .inl fh)), (og, .inl (cI, 32, .inl fs)), (on_, .inl (cI, 32, .inl fn)), (mo, .inr (8, [.int (iZ 0), .int (iZ (np : Int)), .ref ow, .ref om, .ref ok_, .ref oK, .ref og, .ref on_, .ref oh, .ref ox, .int qn, .int qf, .ref op_, .int ql])), (ow, .inl (cI, 108000, .inl fx1)), (om, .inl (cI, 9, .inl fy1)), (ok_, .inl (cI, 166400, .inl fk)), (oK, .inl (cI, 64, .inl fK))] := hD
      show W p l e R s m args below meth c H locs _ _ Q (F0 m 93 ls [])
      rw [kvf_0] at w1
      obtain ⟨v1, hv1⟩ : ∃ z, z = up val 0 (tv a) := ⟨_, rfl⟩
      rw [← hv1] at w1
      refine lv_aload_n hx hb d_Mo_power_93 rfl (lv_at hl 1 rfl) ?_
      refine lv_iconst (v := iZ (1)) hx hb d_Mo_power_94 (by decide +kernel) ?_
      refine lv_iconst (v := iZ (2)) hx hb d_Mo_power_95 (by decide +kernel) ?_
      refine lv_iload_n hx hb d_Mo_power_96 rfl (lv_at hl 3 rfl) ?_
      refine zz_imul hx hb d_Mo_power_97 ?_
      refine lv_iload_n hx hb d_Mo_power_98 rfl (lv_at hl 4 rfl) ?_
      refine zz_if_ge (tgt := 106) hx hb d_Mo_power_99 (by decide) (by omega) (fun c99 => ?_) (fun c99 => False.elim (by omega))
      refine lv_iconst (v := iZ (1)) hx hb d_Mo_power_106 (by decide +kernel) ?_
      refine zz_iadd hx hb d_Mo_power_107 ?_
      rw [show (2 * (a : Int) + 1 : Int) = ((2 * a + 1 : Nat) : Int) by omega]
      refine cv (n := 2) (wr := [(oh, .inl (cI, 10000, .inl fh)), (og, .inl (cI, 32, .inl fs)), (on_, .inl (cI, 32, .inl fn))]) (w1 := (fun (u : (Nat → Int32) × (Nat → Int32)) => [(mo, .inr (8, [.int (iZ 0), .int (iZ (np : Int)), .ref ow, .ref om, .ref ok_, .ref oK, .ref og, .ref on_, .ref oh, .ref ox, .int qn, .int qf, .ref op_, .int ql])), (ow, .inl (cI, 108000, .inl u.1)), (om, .inl (cI, 9, .inl u.2)), (ok_, .inl (cI, 166400, .inl fk)), (oK, .inl (cI, 64, .inl fK))])) (As := [.int (iZ 1), .int (iZ ((2 * a + 1 : Nat) : Int))]) (rest := []) K hP hD hK hS hA hl.1 (c_Mo_load l D mo (iZ 0) np ow om ok_ oK og on_ oh ox qn qf op_ ql fx1 fy1 cI fk fK v1 (kvf tv bv) 1 (2 * a + 1) H.size w1 hMR.1 (by decide) (by omega)) [3, 4, 5, 6, 7] [0, 1, 2] [0] rfl rfl rfl (by decide) (by decide) (by decide) 0 rfl rfl (big_in mw_1238 rfl) (big_in mw_10 rfl) (big_in mw_1235 rfl) (big_in mw_1237 rfl) (big_in sp_31 rfl) rfl rfl (by decide +kernel) ⟨by rw [hR]; exact Nat.le_of_ble_eq_true rfl, by rw [hR]; exact Nat.le_of_ble_eq_true rfl⟩ rfl (Nat.le_of_ble_eq_true rfl) d_Mo_power_108 ⟨by rw [hR]; exact Nat.le_of_ble_eq_true rfl, by rw [hR]; exact Nat.le_of_ble_eq_true rfl⟩ rfl (fun v u H locs hp5 hP hD hS _ => ?_)
      obtain ⟨fx2, fy2⟩ := u
      try dsimp only at hp5
      obtain ⟨rfl, w2⟩ := hp5
      have hP : va_P D cls0 [(oh, .inl (cI, 10000, .inl fh)), (og, .inl (cI, 32, .inl fs)), (on_, .inl (cI, 32, .inl fn)), (mo, .inr (8, [.int (iZ 0), .int (iZ (np : Int)), .ref ow, .ref om, .ref ok_, .ref oK, .ref og, .ref on_, .ref oh, .ref ox, .int qn, .int qf, .ref op_, .int ql])), (ow, .inl (cI, 108000, .inl fx2)), (om, .inl (cI, 9, .inl fy2)), (ok_, .inl (cI, 166400, .inl fk)), (oK, .inl (cI, 64, .inl fK))] H := hP
      have hD : va_D A [(oh, .inl (cI, 10000, .inl fh)), (og, .inl (cI, 32, .inl fs)), (on_, .inl (cI, 32, .inl fn)), (mo, .inr (8, [.int (iZ 0), .int (iZ (np : Int)), .ref ow, .ref om, .ref ok_, .ref oK, .ref og, .ref on_, .ref oh, .ref ox, .int qn, .int qf, .ref op_, .int ql])), (ow, .inl (cI, 108000, .inl fx2)), (om, .inl (cI, 9, .inl fy2)), (ok_, .inl (cI, 166400, .inl fk)), (oK, .inl (cI, 64, .inl fK))] := hD
      show W p l e R s m args below meth c H locs _ _ Q (F0 m 111 ls [])
      rw [kvf_1] at w2
      obtain ⟨v2, hv2⟩ : ∃ z, z = up v1 1 (bv a) := ⟨_, rfl⟩
      rw [← hv2] at w2
      have e0 : v2 0 = tv a := by rw [hv2, up_n (by decide), hv1, up_s]
      have e1 : v2 1 = bv a := by rw [hv2, up_s]
      refine lv_iload hx hb d_Mo_power_111 (lv_at hl 0 rfl) ?_
      refine zz_i2l hx hb d_Mo_power_113 (by omega) ?_
      refine lv_aload_n hx hb d_Mo_power_114 rfl (lv_at hl 1 rfl) ?_
      refine lv_iconst (v := iZ (0)) hx hb d_Mo_power_115 (by decide +kernel) ?_
      refine cv (n := 1) (wr := [(og, .inl (cI, 32, .inl fs)), (on_, .inl (cI, 32, .inl fn)), (ok_, .inl (cI, 166400, .inl fk)), (oK, .inl (cI, 64, .inl fK))]) (w1 := (fun (u : Int × (Nat → Int32) × (Nat → Int32) × (Nat → Int32)) => [(mo, .inr (8, [.int (iZ 0), .int (iZ (np : Int)), .ref ow, .ref om, .ref ok_, .ref oK, .ref og, .ref on_, .ref oh, .ref ox, .int qn, .int qf, .ref op_, .int ql])), (ow, .inl (cI, 108000, .inl u.2.1)), (om, .inl (cI, 9, .inl u.2.2.1)), (oh, .inl (cI, 10000, .inl u.2.2.2))])) (As := [.int (iZ 0)]) (rest := [.long (lZ (tm : Int))]) K hP hD hK hS hA hl.1 (c_Mo_bits l D mo (iZ 0) np ow om ok_ oK og on_ oh ox qn qf op_ ql fx2 fy2 cI fh v2 0 H.size w2 (by decide) (by decide) (hB_lm (by rw [e0]; omega))) [3, 4, 5, 0] [1, 2, 6, 7] [0] rfl rfl rfl (by decide) (by decide) (by decide) 0 rfl rfl (big_in mw_1298 rfl) (big_in mw_10 rfl) (big_in mw_1295 rfl) (big_in mw_1297 rfl) (big_in sp_40 rfl) rfl rfl (by decide +kernel) ⟨by rw [hR]; exact Nat.le_of_ble_eq_true rfl, by rw [hR]; exact Nat.le_of_ble_eq_true rfl⟩ rfl (Nat.le_of_ble_eq_true rfl) d_Mo_power_116 ⟨by rw [hR]; exact Nat.le_of_ble_eq_true rfl, by rw [hR]; exact Nat.le_of_ble_eq_true rfl⟩ rfl (fun v u H locs hp6 hP hD hS _ => ?_)
      obtain ⟨rb3, fx3, fy3, fh3⟩ := u
      try dsimp only at hp6
      obtain ⟨rfl, eb3, w3⟩ := hp6
      have hP : va_P D cls0 [(og, .inl (cI, 32, .inl fs)), (on_, .inl (cI, 32, .inl fn)), (ok_, .inl (cI, 166400, .inl fk)), (oK, .inl (cI, 64, .inl fK)), (mo, .inr (8, [.int (iZ 0), .int (iZ (np : Int)), .ref ow, .ref om, .ref ok_, .ref oK, .ref og, .ref on_, .ref oh, .ref ox, .int qn, .int qf, .ref op_, .int ql])), (ow, .inl (cI, 108000, .inl fx3)), (om, .inl (cI, 9, .inl fy3)), (oh, .inl (cI, 10000, .inl fh3))] H := hP
      have hD : va_D A [(og, .inl (cI, 32, .inl fs)), (on_, .inl (cI, 32, .inl fn)), (ok_, .inl (cI, 166400, .inl fk)), (oK, .inl (cI, 64, .inl fK)), (mo, .inr (8, [.int (iZ 0), .int (iZ (np : Int)), .ref ow, .ref om, .ref ok_, .ref oK, .ref og, .ref on_, .ref oh, .ref ox, .int qn, .int qf, .ref op_, .int ql])), (ow, .inl (cI, 108000, .inl fx3)), (om, .inl (cI, 9, .inl fy3)), (oh, .inl (cI, 10000, .inl fh3))] := hD
      show W p l e R s m args below meth c H locs _ _ Q (F0 m 119 ls [.int (iZ rb3), .long (lZ (tm : Int))])
      rw [e0] at eb3
      subst eb3
      obtain ⟨v3, hv3⟩ : ∃ z, z = up v2 4 0 := ⟨_, rfl⟩
      rw [← hv3] at w3
      have z30 : v3 0 = tv a := by rw [hv3, up_n (by decide)]; exact e0
      have z31 : v3 1 = bv a := by rw [hv3, up_n (by decide)]; exact e1
      refine lv_aload_n hx hb d_Mo_power_119 rfl (lv_at hl 1 rfl) ?_
      refine lv_iconst (v := iZ (1)) hx hb d_Mo_power_120 (by decide +kernel) ?_
      refine cv (n := 1) (wr := [(og, .inl (cI, 32, .inl fs)), (on_, .inl (cI, 32, .inl fn)), (ok_, .inl (cI, 166400, .inl fk)), (oK, .inl (cI, 64, .inl fK))]) (w1 := (fun (u : Int × (Nat → Int32) × (Nat → Int32) × (Nat → Int32)) => [(mo, .inr (8, [.int (iZ 0), .int (iZ (np : Int)), .ref ow, .ref om, .ref ok_, .ref oK, .ref og, .ref on_, .ref oh, .ref ox, .int qn, .int qf, .ref op_, .int ql])), (ow, .inl (cI, 108000, .inl u.2.1)), (om, .inl (cI, 9, .inl u.2.2.1)), (oh, .inl (cI, 10000, .inl u.2.2.2))])) (As := [.int (iZ 1)]) (rest := [.int (iZ (bl (tv a) : Int)), .long (lZ (tm : Int))]) K hP hD hK hS hA hl.1 (c_Mo_bits l D mo (iZ 0) np ow om ok_ oK og on_ oh ox qn qf op_ ql fx3 fy3 cI fh3 v3 1 H.size w3 (by decide) (by decide) (hB_lm (by rw [z31]; omega))) [4, 5, 6, 7] [0, 1, 2, 3] [0] rfl rfl rfl (by decide) (by decide) (by decide) 0 rfl rfl (big_in mw_1298 rfl) (big_in mw_10 rfl) (big_in mw_1295 rfl) (big_in mw_1297 rfl) (big_in sp_40 rfl) rfl rfl (by decide +kernel) ⟨by rw [hR]; exact Nat.le_of_ble_eq_true rfl, by rw [hR]; exact Nat.le_of_ble_eq_true rfl⟩ rfl (Nat.le_of_ble_eq_true rfl) d_Mo_power_121 ⟨by rw [hR]; exact Nat.le_of_ble_eq_true rfl, by rw [hR]; exact Nat.le_of_ble_eq_true rfl⟩ rfl (fun v u H locs hp7 hP hD hS _ => ?_)
      obtain ⟨rb4, fx4, fy4, fh4⟩ := u
      try dsimp only at hp7
      obtain ⟨rfl, eb4, w4⟩ := hp7
      have hP : va_P D cls0 [(og, .inl (cI, 32, .inl fs)), (on_, .inl (cI, 32, .inl fn)), (ok_, .inl (cI, 166400, .inl fk)), (oK, .inl (cI, 64, .inl fK)), (mo, .inr (8, [.int (iZ 0), .int (iZ (np : Int)), .ref ow, .ref om, .ref ok_, .ref oK, .ref og, .ref on_, .ref oh, .ref ox, .int qn, .int qf, .ref op_, .int ql])), (ow, .inl (cI, 108000, .inl fx4)), (om, .inl (cI, 9, .inl fy4)), (oh, .inl (cI, 10000, .inl fh4))] H := hP
      have hD : va_D A [(og, .inl (cI, 32, .inl fs)), (on_, .inl (cI, 32, .inl fn)), (ok_, .inl (cI, 166400, .inl fk)), (oK, .inl (cI, 64, .inl fK)), (mo, .inr (8, [.int (iZ 0), .int (iZ (np : Int)), .ref ow, .ref om, .ref ok_, .ref oK, .ref og, .ref on_, .ref oh, .ref ox, .int qn, .int qf, .ref op_, .int ql])), (ow, .inl (cI, 108000, .inl fx4)), (om, .inl (cI, 9, .inl fy4)), (oh, .inl (cI, 10000, .inl fh4))] := hD
      show W p l e R s m args below meth c H locs _ _ Q (F0 m 124 ls [.int (iZ rb4), .int (iZ (bl (tv a) : Int)), .long (lZ (tm : Int))])
      rw [z31] at eb4
      subst eb4
      obtain ⟨v4, hv4⟩ : ∃ z, z = up v3 4 0 := ⟨_, rfl⟩
      rw [← hv4] at w4
      have z40 : v4 0 = tv a := by rw [hv4, up_n (by decide)]; exact z30
      have z41 : v4 1 = bv a := by rw [hv4, up_n (by decide)]; exact z31
      refine zz_iadd hx hb d_Mo_power_124 ?_
      refine lv_iconst (v := iZ (2)) hx hb d_Mo_power_125 (by decide +kernel) ?_
      refine zz_isub hx hb d_Mo_power_126 ?_
      refine zz_i2l hx hb d_Mo_power_127 (by omega) ?_
      refine zz_lmul hx hb d_Mo_power_128 ?_
      obtain ⟨lv, hlv⟩ : ∃ z : Int, z = ((tm : Int) * ((bl (tv a) : Int) + (bl (bv a) : Int) - 2)) := ⟨_, rfl⟩
      rw [show ((tm : Int) * ((bl (tv a) : Int) + (bl (bv a) : Int) - 2) : Int) = lv by rw [hlv]; first | done | rw [Int.neg_neg]]
      have blv : -3000 ≤ lv ∧ lv < 1000000000 := by rw [hlv]; exact pw_rng htm (by have z := bl_le_lm (tv a); omega) (by have z := bl_le_lm (bv a); omega)
      refine lv_lstore (lv' := [(5, .long (lZ lv)), (4, .int (iZ (tm : Int))), (0, .ref mo), (1, .int (iZ (to : Int))), (2, .int (iZ (a : Int))), (3, .int (iZ (tm : Int)))]) hx hb d_Mo_power_129 hl (by decide) rfl (fun ls hl => ?_)
      refine lv_aload_n hx hb d_Mo_power_131 rfl (lv_at hl 2 rfl) ?_
      refine va_get (D := D) (ci := 8) (v := .ref og) (C := R_Mo) (T := F_Mo) (N := 14) hx hb hts i_Mo hown hK hP 4 rfl rfl 6 (by decide) (hts _ (big_in mw_1121 rfl)) (fun _ h9 => h9) rfl d_Mo_power_132 ?_
      refine lv_iload_n hx hb d_Mo_power_135 rfl (lv_at hl 4 rfl) ?_
      refine zz_iald hx hb hK hP 0 0 rfl rfl (a) (by omega) (by omega) (by omega) d_Mo_power_136 ?_
      rw [hMR.2.1 a (by omega)]
      refine zz_if_eq (tgt := 163) hx hb d_Mo_power_137 (by decide) (by omega) (fun c137 => ?_) (fun c137 => ?_)
      · refine lv_aload_n hx hb d_Mo_power_163 rfl (lv_at hl 2 rfl) ?_
        refine lv_iconst (v := iZ (0)) hx hb d_Mo_power_164 (by decide +kernel) ?_
        refine lv_iload hx hb d_Mo_power_165 (lv_at hl 1 rfl) ?_
        have t0_ : tv a = 0 := ja2.mp (by omega)
        have b1_ : bv a = 1 := by rw [t0_] at ja1; exact (Nat.coprime_zero_left _).mp ja1
        have lv0 : lv ≤ 33000 := by rw [hlv, t0_, b1_, show bl 0 = 0 from rfl, show bl 1 = 1 by decide]; omega
        have cap := pw_cap (u := tv a) (w := bv a) htm (by rw [← hlv]; omega)
        refine cv (n := 2) (wr := [(og, .inl (cI, 32, .inl fs)), (on_, .inl (cI, 32, .inl fn)), (ok_, .inl (cI, 166400, .inl fk)), (oK, .inl (cI, 64, .inl fK)), (oh, .inl (cI, 10000, .inl fh4))]) (w1 := (fun (u : (Nat → Int32) × (Nat → Int32) × (Nat → Nat)) => [(mo, .inr (8, [.int (iZ 0), .int (iZ (np : Int)), .ref ow, .ref om, .ref ok_, .ref oK, .ref og, .ref on_, .ref oh, .ref ox, .int qn, .int qf, .ref op_, .int ql])), (ow, .inl (cI, 108000, .inl u.1)), (om, .inl (cI, 9, .inl u.2.1))])) (As := [.int (iZ 0), .int (iZ (tm : Int))]) (rest := []) K hP hD hK hS hA hl.1 (c_Mo_raise l D mo (iZ 0) np ow om ok_ oK og on_ oh ox qn qf op_ ql fx4 fy4 cI v4 0 tm H.size w4 (by decide) htm (by rw [z40]; exact pw_nd cap.1) (w4.n (by decide))) [4, 5, 6] [0, 1, 2, 3, 7] [0] rfl rfl rfl (by decide) (by decide) (by decide) 0 rfl rfl (big_in mw_1303 rfl) (big_in mw_10 rfl) (big_in mw_1300 rfl) (big_in mw_1302 rfl) (big_in sp_41 rfl) rfl rfl (by decide +kernel) ⟨by rw [hR]; exact Nat.le_of_ble_eq_true rfl, by rw [hR]; exact Nat.le_of_ble_eq_true rfl⟩ rfl (Nat.le_of_ble_eq_true rfl) d_Mo_power_167 ⟨by rw [hR]; exact Nat.le_of_ble_eq_true rfl, by rw [hR]; exact Nat.le_of_ble_eq_true rfl⟩ rfl (fun v u H locs hp8 hP hD hS _ => ?_)
        obtain ⟨fx5, fy5, v5⟩ := u
        try dsimp only at hp8
        obtain ⟨rfl, w5, z50, z5o⟩ := hp8
        have hP : va_P D cls0 [(og, .inl (cI, 32, .inl fs)), (on_, .inl (cI, 32, .inl fn)), (ok_, .inl (cI, 166400, .inl fk)), (oK, .inl (cI, 64, .inl fK)), (oh, .inl (cI, 10000, .inl fh4)), (mo, .inr (8, [.int (iZ 0), .int (iZ (np : Int)), .ref ow, .ref om, .ref ok_, .ref oK, .ref og, .ref on_, .ref oh, .ref ox, .int qn, .int qf, .ref op_, .int ql])), (ow, .inl (cI, 108000, .inl fx5)), (om, .inl (cI, 9, .inl fy5))] H := hP
        have hD : va_D A [(og, .inl (cI, 32, .inl fs)), (on_, .inl (cI, 32, .inl fn)), (ok_, .inl (cI, 166400, .inl fk)), (oK, .inl (cI, 64, .inl fK)), (oh, .inl (cI, 10000, .inl fh4)), (mo, .inr (8, [.int (iZ 0), .int (iZ (np : Int)), .ref ow, .ref om, .ref ok_, .ref oK, .ref og, .ref on_, .ref oh, .ref ox, .int qn, .int qf, .ref op_, .int ql])), (ow, .inl (cI, 108000, .inl fx5)), (om, .inl (cI, 9, .inl fy5))] := hD
        show W p l e R s m args below meth c H locs _ _ Q (F0 m 170 ls [])
        rw [z40] at z50
        have z51 : v5 1 = bv a := by rw [z5o 1 (by decide) (by decide)]; exact z41
        refine lv_aload_n hx hb d_Mo_power_170 rfl (lv_at hl 2 rfl) ?_
        refine lv_iconst (v := iZ (1)) hx hb d_Mo_power_171 (by decide +kernel) ?_
        refine lv_iload hx hb d_Mo_power_172 (lv_at hl 1 rfl) ?_
        refine cv (n := 2) (wr := [(og, .inl (cI, 32, .inl fs)), (on_, .inl (cI, 32, .inl fn)), (ok_, .inl (cI, 166400, .inl fk)), (oK, .inl (cI, 64, .inl fK)), (oh, .inl (cI, 10000, .inl fh4))]) (w1 := (fun (u : (Nat → Int32) × (Nat → Int32) × (Nat → Nat)) => [(mo, .inr (8, [.int (iZ 0), .int (iZ (np : Int)), .ref ow, .ref om, .ref ok_, .ref oK, .ref og, .ref on_, .ref oh, .ref ox, .int qn, .int qf, .ref op_, .int ql])), (ow, .inl (cI, 108000, .inl u.1)), (om, .inl (cI, 9, .inl u.2.1))])) (As := [.int (iZ 1), .int (iZ (tm : Int))]) (rest := []) K hP hD hK hS hA hl.1 (c_Mo_raise l D mo (iZ 0) np ow om ok_ oK og on_ oh ox qn qf op_ ql fx5 fy5 cI v5 1 tm H.size w5 (by decide) htm (by rw [z51]; exact pw_nd cap.2) (w5.n (by decide))) [5, 6, 7] [0, 1, 2, 3, 4] [0] rfl rfl rfl (by decide) (by decide) (by decide) 0 rfl rfl (big_in mw_1303 rfl) (big_in mw_10 rfl) (big_in mw_1300 rfl) (big_in mw_1302 rfl) (big_in sp_41 rfl) rfl rfl (by decide +kernel) ⟨by rw [hR]; exact Nat.le_of_ble_eq_true rfl, by rw [hR]; exact Nat.le_of_ble_eq_true rfl⟩ rfl (Nat.le_of_ble_eq_true rfl) d_Mo_power_174 ⟨by rw [hR]; exact Nat.le_of_ble_eq_true rfl, by rw [hR]; exact Nat.le_of_ble_eq_true rfl⟩ rfl (fun v u H locs hp9 hP hD hS _ => ?_)
        obtain ⟨fx6, fy6, v6⟩ := u
        try dsimp only at hp9
        obtain ⟨rfl, w6, z61, z6o⟩ := hp9
        have hP : va_P D cls0 [(og, .inl (cI, 32, .inl fs)), (on_, .inl (cI, 32, .inl fn)), (ok_, .inl (cI, 166400, .inl fk)), (oK, .inl (cI, 64, .inl fK)), (oh, .inl (cI, 10000, .inl fh4)), (mo, .inr (8, [.int (iZ 0), .int (iZ (np : Int)), .ref ow, .ref om, .ref ok_, .ref oK, .ref og, .ref on_, .ref oh, .ref ox, .int qn, .int qf, .ref op_, .int ql])), (ow, .inl (cI, 108000, .inl fx6)), (om, .inl (cI, 9, .inl fy6))] H := hP
        have hD : va_D A [(og, .inl (cI, 32, .inl fs)), (on_, .inl (cI, 32, .inl fn)), (ok_, .inl (cI, 166400, .inl fk)), (oK, .inl (cI, 64, .inl fK)), (oh, .inl (cI, 10000, .inl fh4)), (mo, .inr (8, [.int (iZ 0), .int (iZ (np : Int)), .ref ow, .ref om, .ref ok_, .ref oK, .ref og, .ref on_, .ref oh, .ref ox, .int qn, .int qf, .ref op_, .int ql])), (ow, .inl (cI, 108000, .inl fx6)), (om, .inl (cI, 9, .inl fy6))] := hD
        show W p l e R s m args below meth c H locs _ _ Q (F0 m 177 ls [])
        rw [z51] at z61
        have z60 : v6 0 = (tv a) ^ tm := by rw [z6o 0 (by decide) (by decide)]; exact z50
        refine lv_aload_n hx hb d_Mo_power_177 rfl (lv_at hl 2 rfl) ?_
        refine lv_iload_n hx hb d_Mo_power_178 rfl (lv_at hl 3 rfl) ?_
        refine lv_iload hx hb d_Mo_power_179 (lv_at hl 1 rfl) ?_
        refine lv_iconst (v := iZ (2)) hx hb d_Mo_power_181 (by decide +kernel) ?_
        refine zz_irem hx hb d_Mo_power_182 (by omega) (by omega) ?_
        refine lv_iconst (v := iZ (1)) hx hb d_Mo_power_183 (by decide +kernel) ?_
        refine zz_icmp_ne (tgt := 196) hx hb d_Mo_power_184 (by decide) (by omega) (by omega) (fun c184 => ?_) (fun c184 => ?_)
        · refine lv_iconst (v := iZ (1)) hx hb d_Mo_power_196 (by decide +kernel) ?_
          refine lv_iconst (v := iZ (4)) hx hb d_Mo_power_197 (by decide +kernel) ?_
          refine cv (n := 3) (wr := []) (w1 := (fun (u : (Nat → Int32) × (Nat → Int32) × (Nat → Int32) × (Nat → Int32) × (Nat → Int32) × (Nat → Int32) × (Nat → Int32) × (Nat → Nat)) => [(mo, .inr (8, [.int (iZ 0), .int (iZ (np : Int)), .ref ow, .ref om, .ref ok_, .ref oK, .ref og, .ref on_, .ref oh, .ref ox, .int qn, .int qf, .ref op_, .int ql])), (ow, .inl (cI, 108000, .inl u.1)), (om, .inl (cI, 9, .inl u.2.1)), (oh, .inl (cI, 10000, .inl u.2.2.1)), (ok_, .inl (cI, 166400, .inl u.2.2.2.1)), (oK, .inl (cI, 64, .inl u.2.2.2.2.1)), (og, .inl (cI, 32, .inl u.2.2.2.2.2.1)), (on_, .inl (cI, 32, .inl u.2.2.2.2.2.2.1))])) (As := [.int (iZ (to : Int)), .int (iZ 1), .int (iZ 4)]) (rest := []) K hP hD hK hS hA hl.1 (c_Mo_store l D mo (iZ 0) np ow om ok_ oK og on_ oh ox qn qf op_ ql fx6 fy6 cI fh4 fk fK fs fn v6 tv bv sg to 1 4 H.size w6 hMR (by omega) hnd hnp (by omega) (by decide) (by rw [z60]; exact pw_lm cap.1) (by rw [z61]; exact pw_lm cap.2) (by rw [z60, z61]; exact hfit)) [5, 6, 7, 4, 2, 3, 0, 1] [] [0] rfl rfl rfl (by decide) (by decide) (by decide) 0 rfl rfl (big_in mw_1215 rfl) (big_in mw_10 rfl) (big_in mw_1212 rfl) (big_in mw_1214 rfl) (big_in sp_27 rfl) rfl rfl (by decide +kernel) ⟨by rw [hR]; exact Nat.le_of_ble_eq_true rfl, by rw [hR]; exact Nat.le_of_ble_eq_true rfl⟩ rfl (Nat.le_of_ble_eq_true rfl) d_Mo_power_198 ⟨by rw [hR]; exact Nat.le_of_ble_eq_true rfl, by rw [hR]; exact Nat.le_of_ble_eq_true rfl⟩ rfl (fun v u H locs hp10 hP hD hS _ => ?_)
          obtain ⟨fa, fb, fc, fd, fe, ff, fg, v9⟩ := u
          try dsimp only at hp10
          obtain ⟨rfl, w9, q9⟩ := hp10
          have hP : va_P D cls0 [(mo, .inr (8, [.int (iZ 0), .int (iZ (np : Int)), .ref ow, .ref om, .ref ok_, .ref oK, .ref og, .ref on_, .ref oh, .ref ox, .int qn, .int qf, .ref op_, .int ql])), (ow, .inl (cI, 108000, .inl fa)), (om, .inl (cI, 9, .inl fb)), (oh, .inl (cI, 10000, .inl fc)), (ok_, .inl (cI, 166400, .inl fd)), (oK, .inl (cI, 64, .inl fe)), (og, .inl (cI, 32, .inl ff)), (on_, .inl (cI, 32, .inl fg))] H := hP
          have hD : va_D A [(mo, .inr (8, [.int (iZ 0), .int (iZ (np : Int)), .ref ow, .ref om, .ref ok_, .ref oK, .ref og, .ref on_, .ref oh, .ref ox, .int qn, .int qf, .ref op_, .int ql])), (ow, .inl (cI, 108000, .inl fa)), (om, .inl (cI, 9, .inl fb)), (oh, .inl (cI, 10000, .inl fc)), (ok_, .inl (cI, 166400, .inl fd)), (oK, .inl (cI, 64, .inl fe)), (og, .inl (cI, 32, .inl ff)), (on_, .inl (cI, 32, .inl fg))] := hD
          show W p l e R s m args below meth c H locs _ _ Q (F0 m 201 ls [.int (iZ ((lm (v6 0) : Int) + (lm (v6 1) : Int)))])
          rw [z60, z61]
          rw [z60, z61] at q9
          have hP9 : va_P D cls0 [(mo, .inr (8, [.int (iZ 0), .int (iZ (np : Int)), .ref ow, .ref om, .ref ok_, .ref oK, .ref og, .ref on_, .ref oh, .ref ox, .int qn, .int qf, .ref op_, .int ql])), (ow, .inl (cI, 108000, .inl fa)), (om, .inl (cI, 9, .inl fb)), (oh, .inl (cI, 10000, .inl fc)), (ok_, .inl (cI, 166400, .inl fd)), (oK, .inl (cI, 64, .inl fe)), (og, .inl (cI, 32, .inl ff)), (on_, .inl (cI, 32, .inl fg))] H := hP.sub [0, 1, 2, 3, 4, 5, 6, 7] rfl
          have hD9 : va_D A [(mo, .inr (8, [.int (iZ 0), .int (iZ (np : Int)), .ref ow, .ref om, .ref ok_, .ref oK, .ref og, .ref on_, .ref oh, .ref ox, .int qn, .int qf, .ref op_, .int ql])), (ow, .inl (cI, 108000, .inl fa)), (om, .inl (cI, 9, .inl fb)), (oh, .inl (cI, 10000, .inl fc)), (ok_, .inl (cI, 166400, .inl fd)), (oK, .inl (cI, 64, .inl fe)), (og, .inl (cI, 32, .inl ff)), (on_, .inl (cI, 32, .inl fg))] := hD.sub [0, 1, 2, 3, 4, 5, 6, 7] (by decide) rfl
          rw [hQ, ← hAe]
          refine r_i (v := (iZ ((lm (((tv a) ^ tm)) : Int) + (lm (((bv a) ^ tm)) : Int)))) K (fa, fb, fc, fd, fe, ff, fg, v9) hS d_Mo_power_201 ?_ (fun t ht hv => ?_)
          · try dsimp only
            refine ⟨rfl, w9, ?_⟩
            rw [show (if tm % 2 = 1 then sg a else 1) = 1 by first | exact if_pos (by omega) | exact if_neg (by omega)]
            exact q9
          · exact ⟨by rw [ht]; exact hP9, va_K.moved hv hK, by rw [← hAe]; exact hD9⟩
        · refine lv_aload_n hx hb d_Mo_power_187 rfl (lv_at hl 2 rfl) ?_
          refine va_get (D := D) (ci := 8) (v := .ref og) (C := R_Mo) (T := F_Mo) (N := 14) hx hb hts i_Mo hown hK hP 5 rfl rfl 6 (by decide) (hts _ (big_in mw_1121 rfl)) (fun _ h9 => h9) rfl d_Mo_power_188 ?_
          refine lv_iload_n hx hb d_Mo_power_191 rfl (lv_at hl 4 rfl) ?_
          refine zz_iald hx hb hK hP 0 0 rfl rfl (a) (by omega) (by omega) (by omega) d_Mo_power_192 ?_
          rw [hMR.2.1 a (by omega)]
          refine lv_goto (tgt := 197) hx hb d_Mo_power_193 (by decide) ?_
          refine lv_iconst (v := iZ (4)) hx hb d_Mo_power_197 (by decide +kernel) ?_
          refine cv (n := 3) (wr := []) (w1 := (fun (u : (Nat → Int32) × (Nat → Int32) × (Nat → Int32) × (Nat → Int32) × (Nat → Int32) × (Nat → Int32) × (Nat → Int32) × (Nat → Nat)) => [(mo, .inr (8, [.int (iZ 0), .int (iZ (np : Int)), .ref ow, .ref om, .ref ok_, .ref oK, .ref og, .ref on_, .ref oh, .ref ox, .int qn, .int qf, .ref op_, .int ql])), (ow, .inl (cI, 108000, .inl u.1)), (om, .inl (cI, 9, .inl u.2.1)), (oh, .inl (cI, 10000, .inl u.2.2.1)), (ok_, .inl (cI, 166400, .inl u.2.2.2.1)), (oK, .inl (cI, 64, .inl u.2.2.2.2.1)), (og, .inl (cI, 32, .inl u.2.2.2.2.2.1)), (on_, .inl (cI, 32, .inl u.2.2.2.2.2.2.1))])) (As := [.int (iZ (to : Int)), .int (iZ (sg a)), .int (iZ 4)]) (rest := []) K hP hD hK hS hA hl.1 (c_Mo_store l D mo (iZ 0) np ow om ok_ oK og on_ oh ox qn qf op_ ql fx6 fy6 cI fh4 fk fK fs fn v6 tv bv sg to (sg a) 4 H.size w6 hMR (by omega) hnd hnp (by omega) (by decide) (by rw [z60]; exact pw_lm cap.1) (by rw [z61]; exact pw_lm cap.2) (by rw [z60, z61]; exact hfit)) [5, 6, 7, 4, 2, 3, 0, 1] [] [0] rfl rfl rfl (by decide) (by decide) (by decide) 0 rfl rfl (big_in mw_1215 rfl) (big_in mw_10 rfl) (big_in mw_1212 rfl) (big_in mw_1214 rfl) (big_in sp_27 rfl) rfl rfl (by decide +kernel) ⟨by rw [hR]; exact Nat.le_of_ble_eq_true rfl, by rw [hR]; exact Nat.le_of_ble_eq_true rfl⟩ rfl (Nat.le_of_ble_eq_true rfl) d_Mo_power_198 ⟨by rw [hR]; exact Nat.le_of_ble_eq_true rfl, by rw [hR]; exact Nat.le_of_ble_eq_true rfl⟩ rfl (fun v u H locs hp11 hP hD hS _ => ?_)
          obtain ⟨fa, fb, fc, fd, fe, ff, fg, v9⟩ := u
          try dsimp only at hp11
          obtain ⟨rfl, w9, q9⟩ := hp11
          have hP : va_P D cls0 [(mo, .inr (8, [.int (iZ 0), .int (iZ (np : Int)), .ref ow, .ref om, .ref ok_, .ref oK, .ref og, .ref on_, .ref oh, .ref ox, .int qn, .int qf, .ref op_, .int ql])), (ow, .inl (cI, 108000, .inl fa)), (om, .inl (cI, 9, .inl fb)), (oh, .inl (cI, 10000, .inl fc)), (ok_, .inl (cI, 166400, .inl fd)), (oK, .inl (cI, 64, .inl fe)), (og, .inl (cI, 32, .inl ff)), (on_, .inl (cI, 32, .inl fg))] H := hP
          have hD : va_D A [(mo, .inr (8, [.int (iZ 0), .int (iZ (np : Int)), .ref ow, .ref om, .ref ok_, .ref oK, .ref og, .ref on_, .ref oh, .ref ox, .int qn, .int qf, .ref op_, .int ql])), (ow, .inl (cI, 108000, .inl fa)), (om, .inl (cI, 9, .inl fb)), (oh, .inl (cI, 10000, .inl fc)), (ok_, .inl (cI, 166400, .inl fd)), (oK, .inl (cI, 64, .inl fe)), (og, .inl (cI, 32, .inl ff)), (on_, .inl (cI, 32, .inl fg))] := hD
          show W p l e R s m args below meth c H locs _ _ Q (F0 m 201 ls [.int (iZ ((lm (v6 0) : Int) + (lm (v6 1) : Int)))])
          rw [z60, z61]
          rw [z60, z61] at q9
          have hP9 : va_P D cls0 [(mo, .inr (8, [.int (iZ 0), .int (iZ (np : Int)), .ref ow, .ref om, .ref ok_, .ref oK, .ref og, .ref on_, .ref oh, .ref ox, .int qn, .int qf, .ref op_, .int ql])), (ow, .inl (cI, 108000, .inl fa)), (om, .inl (cI, 9, .inl fb)), (oh, .inl (cI, 10000, .inl fc)), (ok_, .inl (cI, 166400, .inl fd)), (oK, .inl (cI, 64, .inl fe)), (og, .inl (cI, 32, .inl ff)), (on_, .inl (cI, 32, .inl fg))] H := hP.sub [0, 1, 2, 3, 4, 5, 6, 7] rfl
          have hD9 : va_D A [(mo, .inr (8, [.int (iZ 0), .int (iZ (np : Int)), .ref ow, .ref om, .ref ok_, .ref oK, .ref og, .ref on_, .ref oh, .ref ox, .int qn, .int qf, .ref op_, .int ql])), (ow, .inl (cI, 108000, .inl fa)), (om, .inl (cI, 9, .inl fb)), (oh, .inl (cI, 10000, .inl fc)), (ok_, .inl (cI, 166400, .inl fd)), (oK, .inl (cI, 64, .inl fe)), (og, .inl (cI, 32, .inl ff)), (on_, .inl (cI, 32, .inl fg))] := hD.sub [0, 1, 2, 3, 4, 5, 6, 7] (by decide) rfl
          rw [hQ, ← hAe]
          refine r_i (v := (iZ ((lm (((tv a) ^ tm)) : Int) + (lm (((bv a) ^ tm)) : Int)))) K (fa, fb, fc, fd, fe, ff, fg, v9) hS d_Mo_power_201 ?_ (fun t ht hv => ?_)
          · try dsimp only
            refine ⟨rfl, w9, ?_⟩
            rw [show (if tm % 2 = 1 then sg a else 1) = sg a by first | exact if_pos (by omega) | exact if_neg (by omega)]
            exact q9
          · exact ⟨by rw [ht]; exact hP9, va_K.moved hv hK, by rw [← hAe]; exact hD9⟩
      · have ta0 : 0 < tv a := Nat.pos_of_ne_zero (fun z => by have y := ja2.mpr z; omega)
        refine lv_aload_n hx hb d_Mo_power_140 rfl (lv_at hl 2 rfl) ?_
        refine lv_lload hx hb d_Mo_power_141 (lv_at hl 0 rfl) ?_
        refine lv_ldc2 (v := lZ (33000)) hx hb hown (hts _ (big_in mw_1299 rfl)) d_Mo_power_143 ?_
        refine zz_lcmp_le (tgt := 154) hx hb d_Mo_power_146 d_Mo_power_147 (by decide) (by omega) (by omega) (fun c146 => ?_) (fun c146 => ?_)
        · refine lv_iconst (v := iZ (0)) hx hb d_Mo_power_154 (by decide +kernel) ?_
          refine cv (n := 1) (wr := [(og, .inl (cI, 32, .inl fs)), (on_, .inl (cI, 32, .inl fn)), (ok_, .inl (cI, 166400, .inl fk)), (oK, .inl (cI, 64, .inl fK)), (ow, .inl (cI, 108000, .inl fx4)), (om, .inl (cI, 9, .inl fy4)), (oh, .inl (cI, 10000, .inl fh4))]) (w1 := (fun (u : Int) => [(mo, .inr (8, [.int (iZ 0), .int (iZ (np : Int)), .ref ow, .ref om, .ref ok_, .ref oK, .ref og, .ref on_, .ref oh, .ref ox, .int qn, .int qf, .ref op_, .int ql]))])) (As := [.int (iZ 0)]) (rest := []) K hP hD hK hS hA hl.1 (c_Mo_refuses l D mo (iZ 0) np ow om ok_ oK og on_ oh ox qn qf op_ ql 0 H.size (by omega)) [4] [0, 1, 2, 3, 5, 6, 7] [] rfl rfl rfl (by decide) (by decide) (by decide) 0 rfl rfl (big_in mw_1176 rfl) (big_in mw_10 rfl) (big_in mw_1173 rfl) (big_in mw_1175 rfl) (big_in sp_18 rfl) rfl rfl (by decide +kernel) ⟨by rw [hR]; exact Nat.le_of_ble_eq_true rfl, by rw [hR]; exact Nat.le_of_ble_eq_true rfl⟩ rfl (Nat.le_of_ble_eq_true rfl) d_Mo_power_155 ⟨by rw [hR]; exact Nat.le_of_ble_eq_true rfl, by rw [hR]; exact Nat.le_of_ble_eq_true rfl⟩ rfl (fun v u H locs hp12 hP hD hS _ => ?_)
          obtain ⟨rf2, rfl⟩ : ∃ z, z = u := ⟨_, rfl⟩
          obtain ⟨rfl, prf2⟩ := hp12
          have hP : va_P D cls0 [(og, .inl (cI, 32, .inl fs)), (on_, .inl (cI, 32, .inl fn)), (ok_, .inl (cI, 166400, .inl fk)), (oK, .inl (cI, 64, .inl fK)), (ow, .inl (cI, 108000, .inl fx4)), (om, .inl (cI, 9, .inl fy4)), (oh, .inl (cI, 10000, .inl fh4)), (mo, .inr (8, [.int (iZ 0), .int (iZ (np : Int)), .ref ow, .ref om, .ref ok_, .ref oK, .ref og, .ref on_, .ref oh, .ref ox, .int qn, .int qf, .ref op_, .int ql]))] H := hP
          have hD : va_D A [(og, .inl (cI, 32, .inl fs)), (on_, .inl (cI, 32, .inl fn)), (ok_, .inl (cI, 166400, .inl fk)), (oK, .inl (cI, 64, .inl fK)), (ow, .inl (cI, 108000, .inl fx4)), (om, .inl (cI, 9, .inl fy4)), (oh, .inl (cI, 10000, .inl fh4)), (mo, .inr (8, [.int (iZ 0), .int (iZ (np : Int)), .ref ow, .ref om, .ref ok_, .ref oK, .ref og, .ref on_, .ref oh, .ref ox, .int qn, .int qf, .ref op_, .int ql]))] := hD
          show W p l e R s m args below meth c H locs _ _ Q (F0 m 158 ls [.int (iZ rf2)])
          refine zz_if_eq (tgt := 163) hx hb d_Mo_power_158 (by decide) (by omega) (fun c158 => ?_) (fun c158 => False.elim (by omega))
          refine lv_aload_n hx hb d_Mo_power_163 rfl (lv_at hl 2 rfl) ?_
          refine lv_iconst (v := iZ (0)) hx hb d_Mo_power_164 (by decide +kernel) ?_
          refine lv_iload hx hb d_Mo_power_165 (lv_at hl 1 rfl) ?_
          have cap := pw_cap (u := tv a) (w := bv a) htm (by rw [← hlv]; omega)
          refine cv (n := 2) (wr := [(og, .inl (cI, 32, .inl fs)), (on_, .inl (cI, 32, .inl fn)), (ok_, .inl (cI, 166400, .inl fk)), (oK, .inl (cI, 64, .inl fK)), (oh, .inl (cI, 10000, .inl fh4))]) (w1 := (fun (u : (Nat → Int32) × (Nat → Int32) × (Nat → Nat)) => [(mo, .inr (8, [.int (iZ 0), .int (iZ (np : Int)), .ref ow, .ref om, .ref ok_, .ref oK, .ref og, .ref on_, .ref oh, .ref ox, .int qn, .int qf, .ref op_, .int ql])), (ow, .inl (cI, 108000, .inl u.1)), (om, .inl (cI, 9, .inl u.2.1))])) (As := [.int (iZ 0), .int (iZ (tm : Int))]) (rest := []) K hP hD hK hS hA hl.1 (c_Mo_raise l D mo (iZ 0) np ow om ok_ oK og on_ oh ox qn qf op_ ql fx4 fy4 cI v4 0 tm H.size w4 (by decide) htm (by rw [z40]; exact pw_nd cap.1) (w4.n (by decide))) [7, 4, 5] [0, 1, 2, 3, 6] [0] rfl rfl rfl (by decide) (by decide) (by decide) 0 rfl rfl (big_in mw_1303 rfl) (big_in mw_10 rfl) (big_in mw_1300 rfl) (big_in mw_1302 rfl) (big_in sp_41 rfl) rfl rfl (by decide +kernel) ⟨by rw [hR]; exact Nat.le_of_ble_eq_true rfl, by rw [hR]; exact Nat.le_of_ble_eq_true rfl⟩ rfl (Nat.le_of_ble_eq_true rfl) d_Mo_power_167 ⟨by rw [hR]; exact Nat.le_of_ble_eq_true rfl, by rw [hR]; exact Nat.le_of_ble_eq_true rfl⟩ rfl (fun v u H locs hp13 hP hD hS _ => ?_)
          obtain ⟨fx5, fy5, v5⟩ := u
          try dsimp only at hp13
          obtain ⟨rfl, w5, z50, z5o⟩ := hp13
          have hP : va_P D cls0 [(og, .inl (cI, 32, .inl fs)), (on_, .inl (cI, 32, .inl fn)), (ok_, .inl (cI, 166400, .inl fk)), (oK, .inl (cI, 64, .inl fK)), (oh, .inl (cI, 10000, .inl fh4)), (mo, .inr (8, [.int (iZ 0), .int (iZ (np : Int)), .ref ow, .ref om, .ref ok_, .ref oK, .ref og, .ref on_, .ref oh, .ref ox, .int qn, .int qf, .ref op_, .int ql])), (ow, .inl (cI, 108000, .inl fx5)), (om, .inl (cI, 9, .inl fy5))] H := hP
          have hD : va_D A [(og, .inl (cI, 32, .inl fs)), (on_, .inl (cI, 32, .inl fn)), (ok_, .inl (cI, 166400, .inl fk)), (oK, .inl (cI, 64, .inl fK)), (oh, .inl (cI, 10000, .inl fh4)), (mo, .inr (8, [.int (iZ 0), .int (iZ (np : Int)), .ref ow, .ref om, .ref ok_, .ref oK, .ref og, .ref on_, .ref oh, .ref ox, .int qn, .int qf, .ref op_, .int ql])), (ow, .inl (cI, 108000, .inl fx5)), (om, .inl (cI, 9, .inl fy5))] := hD
          show W p l e R s m args below meth c H locs _ _ Q (F0 m 170 ls [])
          rw [z40] at z50
          have z51 : v5 1 = bv a := by rw [z5o 1 (by decide) (by decide)]; exact z41
          refine lv_aload_n hx hb d_Mo_power_170 rfl (lv_at hl 2 rfl) ?_
          refine lv_iconst (v := iZ (1)) hx hb d_Mo_power_171 (by decide +kernel) ?_
          refine lv_iload hx hb d_Mo_power_172 (lv_at hl 1 rfl) ?_
          refine cv (n := 2) (wr := [(og, .inl (cI, 32, .inl fs)), (on_, .inl (cI, 32, .inl fn)), (ok_, .inl (cI, 166400, .inl fk)), (oK, .inl (cI, 64, .inl fK)), (oh, .inl (cI, 10000, .inl fh4))]) (w1 := (fun (u : (Nat → Int32) × (Nat → Int32) × (Nat → Nat)) => [(mo, .inr (8, [.int (iZ 0), .int (iZ (np : Int)), .ref ow, .ref om, .ref ok_, .ref oK, .ref og, .ref on_, .ref oh, .ref ox, .int qn, .int qf, .ref op_, .int ql])), (ow, .inl (cI, 108000, .inl u.1)), (om, .inl (cI, 9, .inl u.2.1))])) (As := [.int (iZ 1), .int (iZ (tm : Int))]) (rest := []) K hP hD hK hS hA hl.1 (c_Mo_raise l D mo (iZ 0) np ow om ok_ oK og on_ oh ox qn qf op_ ql fx5 fy5 cI v5 1 tm H.size w5 (by decide) htm (by rw [z51]; exact pw_nd cap.2) (w5.n (by decide))) [5, 6, 7] [0, 1, 2, 3, 4] [0] rfl rfl rfl (by decide) (by decide) (by decide) 0 rfl rfl (big_in mw_1303 rfl) (big_in mw_10 rfl) (big_in mw_1300 rfl) (big_in mw_1302 rfl) (big_in sp_41 rfl) rfl rfl (by decide +kernel) ⟨by rw [hR]; exact Nat.le_of_ble_eq_true rfl, by rw [hR]; exact Nat.le_of_ble_eq_true rfl⟩ rfl (Nat.le_of_ble_eq_true rfl) d_Mo_power_174 ⟨by rw [hR]; exact Nat.le_of_ble_eq_true rfl, by rw [hR]; exact Nat.le_of_ble_eq_true rfl⟩ rfl (fun v u H locs hp14 hP hD hS _ => ?_)
          obtain ⟨fx6, fy6, v6⟩ := u
          try dsimp only at hp14
          obtain ⟨rfl, w6, z61, z6o⟩ := hp14
          have hP : va_P D cls0 [(og, .inl (cI, 32, .inl fs)), (on_, .inl (cI, 32, .inl fn)), (ok_, .inl (cI, 166400, .inl fk)), (oK, .inl (cI, 64, .inl fK)), (oh, .inl (cI, 10000, .inl fh4)), (mo, .inr (8, [.int (iZ 0), .int (iZ (np : Int)), .ref ow, .ref om, .ref ok_, .ref oK, .ref og, .ref on_, .ref oh, .ref ox, .int qn, .int qf, .ref op_, .int ql])), (ow, .inl (cI, 108000, .inl fx6)), (om, .inl (cI, 9, .inl fy6))] H := hP
          have hD : va_D A [(og, .inl (cI, 32, .inl fs)), (on_, .inl (cI, 32, .inl fn)), (ok_, .inl (cI, 166400, .inl fk)), (oK, .inl (cI, 64, .inl fK)), (oh, .inl (cI, 10000, .inl fh4)), (mo, .inr (8, [.int (iZ 0), .int (iZ (np : Int)), .ref ow, .ref om, .ref ok_, .ref oK, .ref og, .ref on_, .ref oh, .ref ox, .int qn, .int qf, .ref op_, .int ql])), (ow, .inl (cI, 108000, .inl fx6)), (om, .inl (cI, 9, .inl fy6))] := hD
          show W p l e R s m args below meth c H locs _ _ Q (F0 m 177 ls [])
          rw [z51] at z61
          have z60 : v6 0 = (tv a) ^ tm := by rw [z6o 0 (by decide) (by decide)]; exact z50
          refine lv_aload_n hx hb d_Mo_power_177 rfl (lv_at hl 2 rfl) ?_
          refine lv_iload_n hx hb d_Mo_power_178 rfl (lv_at hl 3 rfl) ?_
          refine lv_iload hx hb d_Mo_power_179 (lv_at hl 1 rfl) ?_
          refine lv_iconst (v := iZ (2)) hx hb d_Mo_power_181 (by decide +kernel) ?_
          refine zz_irem hx hb d_Mo_power_182 (by omega) (by omega) ?_
          refine lv_iconst (v := iZ (1)) hx hb d_Mo_power_183 (by decide +kernel) ?_
          refine zz_icmp_ne (tgt := 196) hx hb d_Mo_power_184 (by decide) (by omega) (by omega) (fun c184 => ?_) (fun c184 => ?_)
          · refine lv_iconst (v := iZ (1)) hx hb d_Mo_power_196 (by decide +kernel) ?_
            refine lv_iconst (v := iZ (4)) hx hb d_Mo_power_197 (by decide +kernel) ?_
            refine cv (n := 3) (wr := []) (w1 := (fun (u : (Nat → Int32) × (Nat → Int32) × (Nat → Int32) × (Nat → Int32) × (Nat → Int32) × (Nat → Int32) × (Nat → Int32) × (Nat → Nat)) => [(mo, .inr (8, [.int (iZ 0), .int (iZ (np : Int)), .ref ow, .ref om, .ref ok_, .ref oK, .ref og, .ref on_, .ref oh, .ref ox, .int qn, .int qf, .ref op_, .int ql])), (ow, .inl (cI, 108000, .inl u.1)), (om, .inl (cI, 9, .inl u.2.1)), (oh, .inl (cI, 10000, .inl u.2.2.1)), (ok_, .inl (cI, 166400, .inl u.2.2.2.1)), (oK, .inl (cI, 64, .inl u.2.2.2.2.1)), (og, .inl (cI, 32, .inl u.2.2.2.2.2.1)), (on_, .inl (cI, 32, .inl u.2.2.2.2.2.2.1))])) (As := [.int (iZ (to : Int)), .int (iZ 1), .int (iZ 4)]) (rest := []) K hP hD hK hS hA hl.1 (c_Mo_store l D mo (iZ 0) np ow om ok_ oK og on_ oh ox qn qf op_ ql fx6 fy6 cI fh4 fk fK fs fn v6 tv bv sg to 1 4 H.size w6 hMR (by omega) hnd hnp (by omega) (by decide) (by rw [z60]; exact pw_lm cap.1) (by rw [z61]; exact pw_lm cap.2) (by rw [z60, z61]; exact hfit)) [5, 6, 7, 4, 2, 3, 0, 1] [] [0] rfl rfl rfl (by decide) (by decide) (by decide) 0 rfl rfl (big_in mw_1215 rfl) (big_in mw_10 rfl) (big_in mw_1212 rfl) (big_in mw_1214 rfl) (big_in sp_27 rfl) rfl rfl (by decide +kernel) ⟨by rw [hR]; exact Nat.le_of_ble_eq_true rfl, by rw [hR]; exact Nat.le_of_ble_eq_true rfl⟩ rfl (Nat.le_of_ble_eq_true rfl) d_Mo_power_198 ⟨by rw [hR]; exact Nat.le_of_ble_eq_true rfl, by rw [hR]; exact Nat.le_of_ble_eq_true rfl⟩ rfl (fun v u H locs hp15 hP hD hS _ => ?_)
            obtain ⟨fa, fb, fc, fd, fe, ff, fg, v9⟩ := u
            try dsimp only at hp15
            obtain ⟨rfl, w9, q9⟩ := hp15
            have hP : va_P D cls0 [(mo, .inr (8, [.int (iZ 0), .int (iZ (np : Int)), .ref ow, .ref om, .ref ok_, .ref oK, .ref og, .ref on_, .ref oh, .ref ox, .int qn, .int qf, .ref op_, .int ql])), (ow, .inl (cI, 108000, .inl fa)), (om, .inl (cI, 9, .inl fb)), (oh, .inl (cI, 10000, .inl fc)), (ok_, .inl (cI, 166400, .inl fd)), (oK, .inl (cI, 64, .inl fe)), (og, .inl (cI, 32, .inl ff)), (on_, .inl (cI, 32, .inl fg))] H := hP
            have hD : va_D A [(mo, .inr (8, [.int (iZ 0), .int (iZ (np : Int)), .ref ow, .ref om, .ref ok_, .ref oK, .ref og, .ref on_, .ref oh, .ref ox, .int qn, .int qf, .ref op_, .int ql])), (ow, .inl (cI, 108000, .inl fa)), (om, .inl (cI, 9, .inl fb)), (oh, .inl (cI, 10000, .inl fc)), (ok_, .inl (cI, 166400, .inl fd)), (oK, .inl (cI, 64, .inl fe)), (og, .inl (cI, 32, .inl ff)), (on_, .inl (cI, 32, .inl fg))] := hD
            show W p l e R s m args below meth c H locs _ _ Q (F0 m 201 ls [.int (iZ ((lm (v6 0) : Int) + (lm (v6 1) : Int)))])
            rw [z60, z61]
            rw [z60, z61] at q9
            have hP9 : va_P D cls0 [(mo, .inr (8, [.int (iZ 0), .int (iZ (np : Int)), .ref ow, .ref om, .ref ok_, .ref oK, .ref og, .ref on_, .ref oh, .ref ox, .int qn, .int qf, .ref op_, .int ql])), (ow, .inl (cI, 108000, .inl fa)), (om, .inl (cI, 9, .inl fb)), (oh, .inl (cI, 10000, .inl fc)), (ok_, .inl (cI, 166400, .inl fd)), (oK, .inl (cI, 64, .inl fe)), (og, .inl (cI, 32, .inl ff)), (on_, .inl (cI, 32, .inl fg))] H := hP.sub [0, 1, 2, 3, 4, 5, 6, 7] rfl
            have hD9 : va_D A [(mo, .inr (8, [.int (iZ 0), .int (iZ (np : Int)), .ref ow, .ref om, .ref ok_, .ref oK, .ref og, .ref on_, .ref oh, .ref ox, .int qn, .int qf, .ref op_, .int ql])), (ow, .inl (cI, 108000, .inl fa)), (om, .inl (cI, 9, .inl fb)), (oh, .inl (cI, 10000, .inl fc)), (ok_, .inl (cI, 166400, .inl fd)), (oK, .inl (cI, 64, .inl fe)), (og, .inl (cI, 32, .inl ff)), (on_, .inl (cI, 32, .inl fg))] := hD.sub [0, 1, 2, 3, 4, 5, 6, 7] (by decide) rfl
            rw [hQ, ← hAe]
            refine r_i (v := (iZ ((lm (((tv a) ^ tm)) : Int) + (lm (((bv a) ^ tm)) : Int)))) K (fa, fb, fc, fd, fe, ff, fg, v9) hS d_Mo_power_201 ?_ (fun t ht hv => ?_)
            · try dsimp only
              refine ⟨rfl, w9, ?_⟩
              rw [show (if tm % 2 = 1 then sg a else 1) = 1 by first | exact if_pos (by omega) | exact if_neg (by omega)]
              exact q9
            · exact ⟨by rw [ht]; exact hP9, va_K.moved hv hK, by rw [← hAe]; exact hD9⟩
          · refine lv_aload_n hx hb d_Mo_power_187 rfl (lv_at hl 2 rfl) ?_
            refine va_get (D := D) (ci := 8) (v := .ref og) (C := R_Mo) (T := F_Mo) (N := 14) hx hb hts i_Mo hown hK hP 5 rfl rfl 6 (by decide) (hts _ (big_in mw_1121 rfl)) (fun _ h9 => h9) rfl d_Mo_power_188 ?_
            refine lv_iload_n hx hb d_Mo_power_191 rfl (lv_at hl 4 rfl) ?_
            refine zz_iald hx hb hK hP 0 0 rfl rfl (a) (by omega) (by omega) (by omega) d_Mo_power_192 ?_
            rw [hMR.2.1 a (by omega)]
            refine lv_goto (tgt := 197) hx hb d_Mo_power_193 (by decide) ?_
            refine lv_iconst (v := iZ (4)) hx hb d_Mo_power_197 (by decide +kernel) ?_
            refine cv (n := 3) (wr := []) (w1 := (fun (u : (Nat → Int32) × (Nat → Int32) × (Nat → Int32) × (Nat → Int32) × (Nat → Int32) × (Nat → Int32) × (Nat → Int32) × (Nat → Nat)) => [(mo, .inr (8, [.int (iZ 0), .int (iZ (np : Int)), .ref ow, .ref om, .ref ok_, .ref oK, .ref og, .ref on_, .ref oh, .ref ox, .int qn, .int qf, .ref op_, .int ql])), (ow, .inl (cI, 108000, .inl u.1)), (om, .inl (cI, 9, .inl u.2.1)), (oh, .inl (cI, 10000, .inl u.2.2.1)), (ok_, .inl (cI, 166400, .inl u.2.2.2.1)), (oK, .inl (cI, 64, .inl u.2.2.2.2.1)), (og, .inl (cI, 32, .inl u.2.2.2.2.2.1)), (on_, .inl (cI, 32, .inl u.2.2.2.2.2.2.1))])) (As := [.int (iZ (to : Int)), .int (iZ (sg a)), .int (iZ 4)]) (rest := []) K hP hD hK hS hA hl.1 (c_Mo_store l D mo (iZ 0) np ow om ok_ oK og on_ oh ox qn qf op_ ql fx6 fy6 cI fh4 fk fK fs fn v6 tv bv sg to (sg a) 4 H.size w6 hMR (by omega) hnd hnp (by omega) (by decide) (by rw [z60]; exact pw_lm cap.1) (by rw [z61]; exact pw_lm cap.2) (by rw [z60, z61]; exact hfit)) [5, 6, 7, 4, 2, 3, 0, 1] [] [0] rfl rfl rfl (by decide) (by decide) (by decide) 0 rfl rfl (big_in mw_1215 rfl) (big_in mw_10 rfl) (big_in mw_1212 rfl) (big_in mw_1214 rfl) (big_in sp_27 rfl) rfl rfl (by decide +kernel) ⟨by rw [hR]; exact Nat.le_of_ble_eq_true rfl, by rw [hR]; exact Nat.le_of_ble_eq_true rfl⟩ rfl (Nat.le_of_ble_eq_true rfl) d_Mo_power_198 ⟨by rw [hR]; exact Nat.le_of_ble_eq_true rfl, by rw [hR]; exact Nat.le_of_ble_eq_true rfl⟩ rfl (fun v u H locs hp16 hP hD hS _ => ?_)
            obtain ⟨fa, fb, fc, fd, fe, ff, fg, v9⟩ := u
            try dsimp only at hp16
            obtain ⟨rfl, w9, q9⟩ := hp16
            have hP : va_P D cls0 [(mo, .inr (8, [.int (iZ 0), .int (iZ (np : Int)), .ref ow, .ref om, .ref ok_, .ref oK, .ref og, .ref on_, .ref oh, .ref ox, .int qn, .int qf, .ref op_, .int ql])), (ow, .inl (cI, 108000, .inl fa)), (om, .inl (cI, 9, .inl fb)), (oh, .inl (cI, 10000, .inl fc)), (ok_, .inl (cI, 166400, .inl fd)), (oK, .inl (cI, 64, .inl fe)), (og, .inl (cI, 32, .inl ff)), (on_, .inl (cI, 32, .inl fg))] H := hP
            have hD : va_D A [(mo, .inr (8, [.int (iZ 0), .int (iZ (np : Int)), .ref ow, .ref om, .ref ok_, .ref oK, .ref og, .ref on_, .ref oh, .ref ox, .int qn, .int qf, .ref op_, .int ql])), (ow, .inl (cI, 108000, .inl fa)), (om, .inl (cI, 9, .inl fb)), (oh, .inl (cI, 10000, .inl fc)), (ok_, .inl (cI, 166400, .inl fd)), (oK, .inl (cI, 64, .inl fe)), (og, .inl (cI, 32, .inl ff)), (on_, .inl (cI, 32, .inl fg))] := hD
            show W p l e R s m args below meth c H locs _ _ Q (F0 m 201 ls [.int (iZ ((lm (v6 0) : Int) + (lm (v6 1) : Int)))])
            rw [z60, z61]
            rw [z60, z61] at q9
            have hP9 : va_P D cls0 [(mo, .inr (8, [.int (iZ 0), .int (iZ (np : Int)), .ref ow, .ref om, .ref ok_, .ref oK, .ref og, .ref on_, .ref oh, .ref ox, .int qn, .int qf, .ref op_, .int ql])), (ow, .inl (cI, 108000, .inl fa)), (om, .inl (cI, 9, .inl fb)), (oh, .inl (cI, 10000, .inl fc)), (ok_, .inl (cI, 166400, .inl fd)), (oK, .inl (cI, 64, .inl fe)), (og, .inl (cI, 32, .inl ff)), (on_, .inl (cI, 32, .inl fg))] H := hP.sub [0, 1, 2, 3, 4, 5, 6, 7] rfl
            have hD9 : va_D A [(mo, .inr (8, [.int (iZ 0), .int (iZ (np : Int)), .ref ow, .ref om, .ref ok_, .ref oK, .ref og, .ref on_, .ref oh, .ref ox, .int qn, .int qf, .ref op_, .int ql])), (ow, .inl (cI, 108000, .inl fa)), (om, .inl (cI, 9, .inl fb)), (oh, .inl (cI, 10000, .inl fc)), (ok_, .inl (cI, 166400, .inl fd)), (oK, .inl (cI, 64, .inl fe)), (og, .inl (cI, 32, .inl ff)), (on_, .inl (cI, 32, .inl fg))] := hD.sub [0, 1, 2, 3, 4, 5, 6, 7] (by decide) rfl
            rw [hQ, ← hAe]
            refine r_i (v := (iZ ((lm (((tv a) ^ tm)) : Int) + (lm (((bv a) ^ tm)) : Int)))) K (fa, fb, fc, fd, fe, ff, fg, v9) hS d_Mo_power_201 ?_ (fun t ht hv => ?_)
            · try dsimp only
              refine ⟨rfl, w9, ?_⟩
              rw [show (if tm % 2 = 1 then sg a else 1) = sg a by first | exact if_pos (by omega) | exact if_neg (by omega)]
              exact q9
            · exact ⟨by rw [ht]; exact hP9, va_K.moved hv hK, by rw [← hAe]; exact hD9⟩
        · refine lv_iconst (v := iZ (4)) hx hb d_Mo_power_150 (by decide +kernel) ?_
          refine lv_goto (tgt := 155) hx hb d_Mo_power_151 (by decide) ?_
          have big_ : 1024 < lm ((tv a) ^ tm) + lm ((bv a) ^ tm) := pw_need ta0 pa (by rw [← hlv]; omega)
          exfalso
          omega
    · refine lv_iconst (v := iZ (1)) hx hb d_Mo_power_15 (by decide +kernel) ?_
      refine lv_goto (tgt := 55) hx hb d_Mo_power_16 (by decide) ?_
      exfalso
      omega
set_option maxHeartbeats 4000000 in
set_option maxRecDepth 100000 in
/-- power(to, a, n) -/
theorem f_Mo_powerUp (l : Launch) (D : va_G) (mo : Nat) (qc : Int32) (np : Nat) (ow : Nat) (om : Nat) (ok_ : Nat) (oK : Nat) (og : Nat) (on_ : Nat) (oh : Nat) (ox : Nat) (qn : Int32) (qf : Int32) (op_ : Nat) (ql : Int32) (fw : Nat → Int32) (fm : Nat → Int32) (cI : ClassId) (fh : Nat → Int32) (fk : Nat → Int32) (fK : Nat → Int32) (fs : Nat → Int32) (fn : Nat → Int32) (val : Nat → Nat) (tv : Nat → Nat) (bv : Nat → Nat) (sg : Nat → Int) (to : Nat) (a : Nat) (tm : Nat) (sz : Nat) (hW : WB fw fm val) (hMR : MoR fk fK fs fn tv bv sg) (hnd : ndS tv bv 32 ≤ np) (hnp : np ≤ 1024) (J : RgC tv bv sg) (hbv : ∀ r, r < 32 → 0 < bv r) (t1 : to < 32) (t2 : a < 32) (htm : tm ≤ 1000) (hfit : np + (lm (tv to) + lm (bv to)) < ndS tv bv 32 + (lm ((tv a) ^ tm) + lm ((bv a) ^ tm))) : Met l y_Mo_power (wsB y_Mo_power b_Mo_power 7 (some .int)) ({ frames := 4, cells := 0, slots := 0, locals := 93 }) (va_Pc [.ref mo, .int (iZ (to : Int)), .int (iZ (a : Int)), .int (iZ (tm : Int))] (wPre D [(cI, .int)] [(mo, .inr (8, [.int qc, .int (iZ (np : Int)), .ref ow, .ref om, .ref ok_, .ref oK, .ref og, .ref on_, .ref oh, .ref ox, .int qn, .int qf, .ref op_, .int ql])), (ow, .inl (cI, 108000, .inl fw)), (om, .inl (cI, 9, .inl fm)), (oh, .inl (cI, 10000, .inl fh)), (ok_, .inl (cI, 166400, .inl fk)), (oK, .inl (cI, 64, .inl fK)), (og, .inl (cI, 32, .inl fs)), (on_, .inl (cI, 32, .inl fn))] sz)) (va_QV (fun (v_9 : Option Value) (u_9 : (Nat → Int32) × (Nat → Int32) × (Nat → Int32) × (Nat → Nat)) => v_9 = some (.int (iZ 0)) ∧ (WB u_9.1 u_9.2.1 u_9.2.2.2)) (fun u_9 => wPost D [(cI, .int)] [(mo, .inr (8, [.int qc, .int (iZ (np : Int)), .ref ow, .ref om, .ref ok_, .ref oK, .ref og, .ref on_, .ref oh, .ref ox, .int qn, .int qf, .ref op_, .int ql])), (ow, .inl (cI, 108000, .inl fw)), (om, .inl (cI, 9, .inl fm)), (oh, .inl (cI, 10000, .inl fh)), (ok_, .inl (cI, 166400, .inl fk)), (oK, .inl (cI, 64, .inl fK)), (og, .inl (cI, 32, .inl fs)), (on_, .inl (cI, 32, .inl fn))] [(mo, .inr (8, [.int (iZ 4), .int (iZ (np : Int)), .ref ow, .ref om, .ref ok_, .ref oK, .ref og, .ref on_, .ref oh, .ref ox, .int qn, .int qf, .ref op_, .int ql])), (ow, .inl (cI, 108000, .inl u_9.1)), (om, .inl (cI, 9, .inl u_9.2.1)), (oh, .inl (cI, 10000, .inl u_9.2.2.1)), (ok_, .inl (cI, 166400, .inl fk)), (oK, .inl (cI, 64, .inl fK)), (og, .inl (cI, 32, .inl fs)), (on_, .inl (cI, 32, .inl fn))] sz) (va_A [(mo, .inr (8, [.int qc, .int (iZ (np : Int)), .ref ow, .ref om, .ref ok_, .ref oK, .ref og, .ref on_, .ref oh, .ref ox, .int qn, .int qf, .ref op_, .int ql])), (ow, .inl (cI, 108000, .inl fw)), (om, .inl (cI, 9, .inl fm)), (oh, .inl (cI, 10000, .inl fh)), (ok_, .inl (cI, 166400, .inl fk)), (oK, .inl (cI, 64, .inl fK)), (og, .inl (cI, 32, .inl fs)), (on_, .inl (cI, 32, .inl fn))] sz)) 0 0 (va_A [(mo, .inr (8, [.int qc, .int (iZ (np : Int)), .ref ow, .ref om, .ref ok_, .ref oK, .ref og, .ref on_, .ref oh, .ref ox, .int qn, .int qf, .ref op_, .int ql])), (ow, .inl (cI, 108000, .inl fw)), (om, .inl (cI, 9, .inl fm)), (oh, .inl (cI, 10000, .inl fh)), (ok_, .inl (cI, 166400, .inl fk)), (oK, .inl (cI, 64, .inl fK)), (og, .inl (cI, 32, .inl fs)), (on_, .inl (cI, 32, .inl fn))] sz) := by
  refine met_enter (by decide +kernel) (Nat.le_of_ble_eq_true rfl) ?_
  intro p e s m args below meth c ls A R Q H locs K hin hAe hA hR hQ hP hK hD hS hl
  obtain ⟨hx, hb, hml, hrt, hlk, hts, hown, hno⟩ := id K
  have hl : lv_has ls 7 [(0, .ref mo), (1, .int (iZ (to : Int))), (2, .int (iZ (a : Int))), (3, .int (iZ (tm : Int)))] := hl
  have hlr : ∀ q, q < 32 → lm (tv q) + lm (bv q) ≤ 1024 := fun q hq => by have z := ndS_le (tv := tv) (bv := bv) hq; omega
  have hnt : ∀ q, q < 32 → nd (tv q) ≤ 2600 := fun q hq => by have z := nd_lm (v := tv q) (L := 1024) (by have y := hlr q hq; omega); omega
  have hnb : ∀ q, q < 32 → nd (bv q) ≤ 2600 := fun q hq => by have z := nd_lm (v := bv q) (L := 1024) (by have y := hlr q hq; omega); omega
  obtain ⟨ja1, ja2, ja3⟩ := J a (by omega)
  have pa := hbv a (by omega)
  have la := hlr a (by omega)
  have n1 := hnt a (by omega)
  have n2 := hnb a (by omega)
  have bb1 := bl_le_lm (tv a)
  have bb2 := bl_le_lm (bv a)
  have lto := ndS_le (tv := tv) (bv := bv) t1
  refine lv_aload_n hx hb d_Mo_power_0 rfl (lv_at hl 0 rfl) ?_
  refine lv_iload_n hx hb d_Mo_power_1 rfl (lv_at hl 1 rfl) ?_
  refine cs (n := 1) (wr := [(mo, .inr (8, [.int qc, .int (iZ (np : Int)), .ref ow, .ref om, .ref ok_, .ref oK, .ref og, .ref on_, .ref oh, .ref ox, .int qn, .int qf, .ref op_, .int ql])), (ow, .inl (cI, 108000, .inl fw)), (om, .inl (cI, 9, .inl fm)), (oh, .inl (cI, 10000, .inl fh)), (ok_, .inl (cI, 166400, .inl fk)), (oK, .inl (cI, 64, .inl fK)), (og, .inl (cI, 32, .inl fs)), (on_, .inl (cI, 32, .inl fn))]) (w1 := (fun (u : Int) => [])) (As := [.int (iZ (to : Int))]) (rest := [.ref mo]) K hP hD hK hS hA hl.1 (c_Mo_isRegister l D (to : Int) H.size (by omega)) [] [0, 1, 2, 3, 4, 5, 6, 7] [] rfl rfl rfl (by decide) (by decide) (by decide) (big_in mw_1172 rfl) (big_in mw_10 rfl) (big_in mw_1170 rfl) (big_in mw_1171 rfl) rfl rfl (by decide +kernel) ⟨by rw [hR]; exact Nat.le_of_ble_eq_true rfl, by rw [hR]; exact Nat.le_of_ble_eq_true rfl⟩ rfl (Nat.le_of_ble_eq_true rfl) d_Mo_power_2 ⟨by rw [hR]; exact Nat.le_of_ble_eq_true rfl, by rw [hR]; exact Nat.le_of_ble_eq_true rfl⟩ rfl (fun v u H locs hp1 hP hD hS _ => ?_)
  obtain ⟨r2, rfl⟩ : ∃ z, z = u := ⟨_, rfl⟩
  obtain ⟨rfl, p2⟩ := hp1
  have hP : va_P D cls0 [(mo, .inr (8, [.int qc, .int (iZ (np : Int)), .ref ow, .ref om, .ref ok_, .ref oK, .ref og, .ref on_, .ref oh, .ref ox, .int qn, .int qf, .ref op_, .int ql])), (ow, .inl (cI, 108000, .inl fw)), (om, .inl (cI, 9, .inl fm)), (oh, .inl (cI, 10000, .inl fh)), (ok_, .inl (cI, 166400, .inl fk)), (oK, .inl (cI, 64, .inl fK)), (og, .inl (cI, 32, .inl fs)), (on_, .inl (cI, 32, .inl fn))] H := hP
  have hD : va_D A [(mo, .inr (8, [.int qc, .int (iZ (np : Int)), .ref ow, .ref om, .ref ok_, .ref oK, .ref og, .ref on_, .ref oh, .ref ox, .int qn, .int qf, .ref op_, .int ql])), (ow, .inl (cI, 108000, .inl fw)), (om, .inl (cI, 9, .inl fm)), (oh, .inl (cI, 10000, .inl fh)), (ok_, .inl (cI, 166400, .inl fk)), (oK, .inl (cI, 64, .inl fK)), (og, .inl (cI, 32, .inl fs)), (on_, .inl (cI, 32, .inl fn))] := hD
  show W p l e R s m args below meth c H locs _ _ Q (F0 m 5 ls [.int (iZ r2), .ref mo])
  have b2 : 0 ≤ r2 ∧ r2 ≤ 1 := by omega
  refine zz_if_eq (tgt := 15) hx hb d_Mo_power_5 (by decide) (by omega) (fun c5 => ?_) (fun c5 => ?_)
  · refine lv_iconst (v := iZ (1)) hx hb d_Mo_power_15 (by decide +kernel) ?_
    refine lv_goto (tgt := 55) hx hb d_Mo_power_16 (by decide) ?_
    exfalso
    omega
  · refine lv_iload_n hx hb d_Mo_power_8 rfl (lv_at hl 2 rfl) ?_
    refine cs (n := 1) (wr := [(mo, .inr (8, [.int qc, .int (iZ (np : Int)), .ref ow, .ref om, .ref ok_, .ref oK, .ref og, .ref on_, .ref oh, .ref ox, .int qn, .int qf, .ref op_, .int ql])), (ow, .inl (cI, 108000, .inl fw)), (om, .inl (cI, 9, .inl fm)), (oh, .inl (cI, 10000, .inl fh)), (ok_, .inl (cI, 166400, .inl fk)), (oK, .inl (cI, 64, .inl fK)), (og, .inl (cI, 32, .inl fs)), (on_, .inl (cI, 32, .inl fn))]) (w1 := (fun (u : Int) => [])) (As := [.int (iZ (a : Int))]) (rest := [.ref mo]) K hP hD hK hS hA hl.1 (c_Mo_isRegister l D (a : Int) H.size (by omega)) [] [0, 1, 2, 3, 4, 5, 6, 7] [] rfl rfl rfl (by decide) (by decide) (by decide) (big_in mw_1172 rfl) (big_in mw_10 rfl) (big_in mw_1170 rfl) (big_in mw_1171 rfl) rfl rfl (by decide +kernel) ⟨by rw [hR]; exact Nat.le_of_ble_eq_true rfl, by rw [hR]; exact Nat.le_of_ble_eq_true rfl⟩ rfl (Nat.le_of_ble_eq_true rfl) d_Mo_power_9 ⟨by rw [hR]; exact Nat.le_of_ble_eq_true rfl, by rw [hR]; exact Nat.le_of_ble_eq_true rfl⟩ rfl (fun v u H locs hp2 hP hD hS _ => ?_)
    obtain ⟨r9, rfl⟩ : ∃ z, z = u := ⟨_, rfl⟩
    obtain ⟨rfl, p9⟩ := hp2
    have hP : va_P D cls0 [(mo, .inr (8, [.int qc, .int (iZ (np : Int)), .ref ow, .ref om, .ref ok_, .ref oK, .ref og, .ref on_, .ref oh, .ref ox, .int qn, .int qf, .ref op_, .int ql])), (ow, .inl (cI, 108000, .inl fw)), (om, .inl (cI, 9, .inl fm)), (oh, .inl (cI, 10000, .inl fh)), (ok_, .inl (cI, 166400, .inl fk)), (oK, .inl (cI, 64, .inl fK)), (og, .inl (cI, 32, .inl fs)), (on_, .inl (cI, 32, .inl fn))] H := hP
    have hD : va_D A [(mo, .inr (8, [.int qc, .int (iZ (np : Int)), .ref ow, .ref om, .ref ok_, .ref oK, .ref og, .ref on_, .ref oh, .ref ox, .int qn, .int qf, .ref op_, .int ql])), (ow, .inl (cI, 108000, .inl fw)), (om, .inl (cI, 9, .inl fm)), (oh, .inl (cI, 10000, .inl fh)), (ok_, .inl (cI, 166400, .inl fk)), (oK, .inl (cI, 64, .inl fK)), (og, .inl (cI, 32, .inl fs)), (on_, .inl (cI, 32, .inl fn))] := hD
    show W p l e R s m args below meth c H locs _ _ Q (F0 m 12 ls [.int (iZ r9), .ref mo])
    have b9 : 0 ≤ r9 ∧ r9 ≤ 1 := by omega
    refine zz_if_ne (tgt := 19) hx hb d_Mo_power_12 (by decide) (by omega) (fun c12 => ?_) (fun c12 => ?_)
    · refine lv_iload_n hx hb d_Mo_power_19 rfl (lv_at hl 3 rfl) ?_
      refine lv_sipush (v := iZ (-1000)) hx hb d_Mo_power_20 (by decide +kernel) ?_
      refine zz_icmp_lt (tgt := 33) hx hb d_Mo_power_23 (by decide) (by omega) (by omega) (fun c23 => False.elim (by omega)) (fun c23 => ?_)
      refine lv_iload_n hx hb d_Mo_power_26 rfl (lv_at hl 3 rfl) ?_
      refine lv_sipush (v := iZ (1000)) hx hb d_Mo_power_27 (by decide +kernel) ?_
      refine zz_icmp_le (tgt := 37) hx hb d_Mo_power_30 (by decide) (by omega) (by omega) (fun c30 => ?_) (fun c30 => False.elim (by omega))
      refine lv_iload_n hx hb d_Mo_power_37 rfl (lv_at hl 3 rfl) ?_
      refine zz_if_ge (tgt := 54) hx hb d_Mo_power_38 (by decide) (by omega) (fun c38 => ?_) (fun c38 => False.elim (by omega))
      refine lv_iconst (v := iZ (0)) hx hb d_Mo_power_54 (by decide +kernel) ?_
      refine cv (n := 1) (wr := [(ow, .inl (cI, 108000, .inl fw)), (om, .inl (cI, 9, .inl fm)), (oh, .inl (cI, 10000, .inl fh)), (ok_, .inl (cI, 166400, .inl fk)), (oK, .inl (cI, 64, .inl fK)), (og, .inl (cI, 32, .inl fs)), (on_, .inl (cI, 32, .inl fn))]) (w1 := (fun (u : Int) => [(mo, .inr (8, [.int (iZ 0), .int (iZ (np : Int)), .ref ow, .ref om, .ref ok_, .ref oK, .ref og, .ref on_, .ref oh, .ref ox, .int qn, .int qf, .ref op_, .int ql]))])) (As := [.int (iZ 0)]) (rest := []) K hP hD hK hS hA hl.1 (c_Mo_refuses l D mo qc np ow om ok_ oK og on_ oh ox qn qf op_ ql 0 H.size (by omega)) [0] [1, 2, 3, 4, 5, 6, 7] [] rfl rfl rfl (by decide) (by decide) (by decide) 0 rfl rfl (big_in mw_1176 rfl) (big_in mw_10 rfl) (big_in mw_1173 rfl) (big_in mw_1175 rfl) (big_in sp_18 rfl) rfl rfl (by decide +kernel) ⟨by rw [hR]; exact Nat.le_of_ble_eq_true rfl, by rw [hR]; exact Nat.le_of_ble_eq_true rfl⟩ rfl (Nat.le_of_ble_eq_true rfl) d_Mo_power_55 ⟨by rw [hR]; exact Nat.le_of_ble_eq_true rfl, by rw [hR]; exact Nat.le_of_ble_eq_true rfl⟩ rfl (fun v u H locs hp3 hP hD hS _ => ?_)
      obtain ⟨rf, rfl⟩ : ∃ z, z = u := ⟨_, rfl⟩
      obtain ⟨rfl, prf⟩ := hp3
      have hP : va_P D cls0 [(ow, .inl (cI, 108000, .inl fw)), (om, .inl (cI, 9, .inl fm)), (oh, .inl (cI, 10000, .inl fh)), (ok_, .inl (cI, 166400, .inl fk)), (oK, .inl (cI, 64, .inl fK)), (og, .inl (cI, 32, .inl fs)), (on_, .inl (cI, 32, .inl fn)), (mo, .inr (8, [.int (iZ 0), .int (iZ (np : Int)), .ref ow, .ref om, .ref ok_, .ref oK, .ref og, .ref on_, .ref oh, .ref ox, .int qn, .int qf, .ref op_, .int ql]))] H := hP
      have hD : va_D A [(ow, .inl (cI, 108000, .inl fw)), (om, .inl (cI, 9, .inl fm)), (oh, .inl (cI, 10000, .inl fh)), (ok_, .inl (cI, 166400, .inl fk)), (oK, .inl (cI, 64, .inl fK)), (og, .inl (cI, 32, .inl fs)), (on_, .inl (cI, 32, .inl fn)), (mo, .inr (8, [.int (iZ 0), .int (iZ (np : Int)), .ref ow, .ref om, .ref ok_, .ref oK, .ref og, .ref on_, .ref oh, .ref ox, .int qn, .int qf, .ref op_, .int ql]))] := hD
      show W p l e R s m args below meth c H locs _ _ Q (F0 m 58 ls [.int (iZ rf)])
      refine zz_if_eq (tgt := 63) hx hb d_Mo_power_58 (by decide) (by omega) (fun c58 => ?_) (fun c58 => False.elim (by omega))
      refine lv_iload_n hx hb d_Mo_power_63 rfl (lv_at hl 3 rfl) ?_
      refine zz_if_ge (tgt := 72) hx hb d_Mo_power_64 (by decide) (by omega) (fun c64 => ?_) (fun c64 => False.elim (by omega))
      refine lv_iload_n hx hb d_Mo_power_72 rfl (lv_at hl 3 rfl) ?_
      refine lv_istore (lv' := [(4, .int (iZ (tm : Int))), (0, .ref mo), (1, .int (iZ (to : Int))), (2, .int (iZ (a : Int))), (3, .int (iZ (tm : Int)))]) hx hb d_Mo_power_73 hl (by decide) rfl (fun ls hl => ?_)
      refine lv_aload_n hx hb d_Mo_power_75 rfl (lv_at hl 1 rfl) ?_
      refine lv_iconst (v := iZ (0)) hx hb d_Mo_power_76 (by decide +kernel) ?_
      refine lv_iconst (v := iZ (2)) hx hb d_Mo_power_77 (by decide +kernel) ?_
      refine lv_iload_n hx hb d_Mo_power_78 rfl (lv_at hl 3 rfl) ?_
      refine zz_imul hx hb d_Mo_power_79 ?_
      refine lv_iload_n hx hb d_Mo_power_80 rfl (lv_at hl 4 rfl) ?_
      refine zz_if_ge (tgt := 88) hx hb d_Mo_power_81 (by decide) (by omega) (fun c81 => ?_) (fun c81 => False.elim (by omega))
      refine lv_iconst (v := iZ (0)) hx hb d_Mo_power_88 (by decide +kernel) ?_
      refine zz_iadd hx hb d_Mo_power_89 ?_
      rw [show (2 * (a : Int) + 0 : Int) = ((2 * a : Nat) : Int) by omega]
      refine cv (n := 2) (wr := [(oh, .inl (cI, 10000, .inl fh)), (og, .inl (cI, 32, .inl fs)), (on_, .inl (cI, 32, .inl fn))]) (w1 := (fun (u : (Nat → Int32) × (Nat → Int32)) => [(mo, .inr (8, [.int (iZ 0), .int (iZ (np : Int)), .ref ow, .ref om, .ref ok_, .ref oK, .ref og, .ref on_, .ref oh, .ref ox, .int qn, .int qf, .ref op_, .int ql])), (ow, .inl (cI, 108000, .inl u.1)), (om, .inl (cI, 9, .inl u.2)), (ok_, .inl (cI, 166400, .inl fk)), (oK, .inl (cI, 64, .inl fK))])) (As := [.int (iZ 0), .int (iZ ((2 * a : Nat) : Int))]) (rest := []) K hP hD hK hS hA hl.1 (c_Mo_load l D mo (iZ 0) np ow om ok_ oK og on_ oh ox qn qf op_ ql fw fm cI fk fK val (kvf tv bv) 0 (2 * a) H.size hW hMR.1 (by decide) (by omega)) [7, 0, 1, 3, 4] [2, 5, 6] [0] rfl rfl rfl (by decide) (by decide) (by decide) 0 rfl rfl (big_in mw_1238 rfl) (big_in mw_10 rfl) (big_in mw_1235 rfl) (big_in mw_1237 rfl) (big_in sp_31 rfl) rfl rfl (by decide +kernel) ⟨by rw [hR]; exact Nat.le_of_ble_eq_true rfl, by rw [hR]; exact Nat.le_of_ble_eq_true rfl⟩ rfl (Nat.le_of_ble_eq_true rfl) d_Mo_power_90 ⟨by rw [hR]; exact Nat.le_of_ble_eq_true rfl, by rw [hR]; exact Nat.le_of_ble_eq_true rfl⟩ rfl (fun v u H locs hp4 hP hD hS _ => ?_)
      obtain ⟨fx1, fy1⟩ := u
      try dsimp only at hp4
      obtain ⟨rfl, w1⟩ := hp4
      have hP : va_P D cls0 [(oh, .inl (cI, 10000, .inl fh)), (og, .inl (cI, 32, .inl fs)), (on_, .inl (cI, 32, .inl fn)), (mo, .inr (8, [.int (iZ 0), .int (iZ (np : Int)), .ref ow, .ref om, .ref ok_, .ref oK, .ref og, .ref on_, .ref oh, .ref ox, .int qn, .int qf, .ref op_, .int ql])), (ow, .inl (cI, 108000, .inl fx1)), (om, .inl (cI, 9, .inl fy1)), (ok_, .inl (cI, 166400, .inl fk)), (oK, .inl (cI, 64, .inl fK))] H := hP
      have hD : va_D A [(oh, .inl (cI, 10000, .inl fh)), (og, .inl (cI, 32, .inl fs)), (on_, .inl (cI, 32, .inl fn)), (mo, .inr (8, [.int (iZ 0), .int (iZ (np : Int)), .ref ow, .ref om, .ref ok_, .ref oK, .ref og, .ref on_, .ref oh, .ref ox, .int qn, .int qf, .ref op_, .int ql])), (ow, .inl (cI, 108000, .inl fx1)), (om, .inl (cI, 9, .inl fy1)), (ok_, .inl (cI, 166400, .inl fk)), (oK, .inl (cI, 64, .inl fK))] := hD
      show W p l e R s m args below meth c H locs _ _ Q (F0 m 93 ls [])
      rw [kvf_0] at w1
      obtain ⟨v1, hv1⟩ : ∃ z, z = up val 0 (tv a) := ⟨_, rfl⟩
      rw [← hv1] at w1
      refine lv_aload_n hx hb d_Mo_power_93 rfl (lv_at hl 1 rfl) ?_
      refine lv_iconst (v := iZ (1)) hx hb d_Mo_power_94 (by decide +kernel) ?_
      refine lv_iconst (v := iZ (2)) hx hb d_Mo_power_95 (by decide +kernel) ?_
      refine lv_iload_n hx hb d_Mo_power_96 rfl (lv_at hl 3 rfl) ?_
      refine zz_imul hx hb d_Mo_power_97 ?_
      refine lv_iload_n hx hb d_Mo_power_98 rfl (lv_at hl 4 rfl) ?_
      refine zz_if_ge (tgt := 106) hx hb d_Mo_power_99 (by decide) (by omega) (fun c99 => ?_) (fun c99 => False.elim (by omega))
      refine lv_iconst (v := iZ (1)) hx hb d_Mo_power_106 (by decide +kernel) ?_
      refine zz_iadd hx hb d_Mo_power_107 ?_
      rw [show (2 * (a : Int) + 1 : Int) = ((2 * a + 1 : Nat) : Int) by omega]
      refine cv (n := 2) (wr := [(oh, .inl (cI, 10000, .inl fh)), (og, .inl (cI, 32, .inl fs)), (on_, .inl (cI, 32, .inl fn))]) (w1 := (fun (u : (Nat → Int32) × (Nat → Int32)) => [(mo, .inr (8, [.int (iZ 0), .int (iZ (np : Int)), .ref ow, .ref om, .ref ok_, .ref oK, .ref og, .ref on_, .ref oh, .ref ox, .int qn, .int qf, .ref op_, .int ql])), (ow, .inl (cI, 108000, .inl u.1)), (om, .inl (cI, 9, .inl u.2)), (ok_, .inl (cI, 166400, .inl fk)), (oK, .inl (cI, 64, .inl fK))])) (As := [.int (iZ 1), .int (iZ ((2 * a + 1 : Nat) : Int))]) (rest := []) K hP hD hK hS hA hl.1 (c_Mo_load l D mo (iZ 0) np ow om ok_ oK og on_ oh ox qn qf op_ ql fx1 fy1 cI fk fK v1 (kvf tv bv) 1 (2 * a + 1) H.size w1 hMR.1 (by decide) (by omega)) [3, 4, 5, 6, 7] [0, 1, 2] [0] rfl rfl rfl (by decide) (by decide) (by decide) 0 rfl rfl (big_in mw_1238 rfl) (big_in mw_10 rfl) (big_in mw_1235 rfl) (big_in mw_1237 rfl) (big_in sp_31 rfl) rfl rfl (by decide +kernel) ⟨by rw [hR]; exact Nat.le_of_ble_eq_true rfl, by rw [hR]; exact Nat.le_of_ble_eq_true rfl⟩ rfl (Nat.le_of_ble_eq_true rfl) d_Mo_power_108 ⟨by rw [hR]; exact Nat.le_of_ble_eq_true rfl, by rw [hR]; exact Nat.le_of_ble_eq_true rfl⟩ rfl (fun v u H locs hp5 hP hD hS _ => ?_)
      obtain ⟨fx2, fy2⟩ := u
      try dsimp only at hp5
      obtain ⟨rfl, w2⟩ := hp5
      have hP : va_P D cls0 [(oh, .inl (cI, 10000, .inl fh)), (og, .inl (cI, 32, .inl fs)), (on_, .inl (cI, 32, .inl fn)), (mo, .inr (8, [.int (iZ 0), .int (iZ (np : Int)), .ref ow, .ref om, .ref ok_, .ref oK, .ref og, .ref on_, .ref oh, .ref ox, .int qn, .int qf, .ref op_, .int ql])), (ow, .inl (cI, 108000, .inl fx2)), (om, .inl (cI, 9, .inl fy2)), (ok_, .inl (cI, 166400, .inl fk)), (oK, .inl (cI, 64, .inl fK))] H := hP
      have hD : va_D A [(oh, .inl (cI, 10000, .inl fh)), (og, .inl (cI, 32, .inl fs)), (on_, .inl (cI, 32, .inl fn)), (mo, .inr (8, [.int (iZ 0), .int (iZ (np : Int)), .ref ow, .ref om, .ref ok_, .ref oK, .ref og, .ref on_, .ref oh, .ref ox, .int qn, .int qf, .ref op_, .int ql])), (ow, .inl (cI, 108000, .inl fx2)), (om, .inl (cI, 9, .inl fy2)), (ok_, .inl (cI, 166400, .inl fk)), (oK, .inl (cI, 64, .inl fK))] := hD
      show W p l e R s m args below meth c H locs _ _ Q (F0 m 111 ls [])
      rw [kvf_1] at w2
      obtain ⟨v2, hv2⟩ : ∃ z, z = up v1 1 (bv a) := ⟨_, rfl⟩
      rw [← hv2] at w2
      have e0 : v2 0 = tv a := by rw [hv2, up_n (by decide), hv1, up_s]
      have e1 : v2 1 = bv a := by rw [hv2, up_s]
      refine lv_iload hx hb d_Mo_power_111 (lv_at hl 0 rfl) ?_
      refine zz_i2l hx hb d_Mo_power_113 (by omega) ?_
      refine lv_aload_n hx hb d_Mo_power_114 rfl (lv_at hl 1 rfl) ?_
      refine lv_iconst (v := iZ (0)) hx hb d_Mo_power_115 (by decide +kernel) ?_
      refine cv (n := 1) (wr := [(og, .inl (cI, 32, .inl fs)), (on_, .inl (cI, 32, .inl fn)), (ok_, .inl (cI, 166400, .inl fk)), (oK, .inl (cI, 64, .inl fK))]) (w1 := (fun (u : Int × (Nat → Int32) × (Nat → Int32) × (Nat → Int32)) => [(mo, .inr (8, [.int (iZ 0), .int (iZ (np : Int)), .ref ow, .ref om, .ref ok_, .ref oK, .ref og, .ref on_, .ref oh, .ref ox, .int qn, .int qf, .ref op_, .int ql])), (ow, .inl (cI, 108000, .inl u.2.1)), (om, .inl (cI, 9, .inl u.2.2.1)), (oh, .inl (cI, 10000, .inl u.2.2.2))])) (As := [.int (iZ 0)]) (rest := [.long (lZ (tm : Int))]) K hP hD hK hS hA hl.1 (c_Mo_bits l D mo (iZ 0) np ow om ok_ oK og on_ oh ox qn qf op_ ql fx2 fy2 cI fh v2 0 H.size w2 (by decide) (by decide) (hB_lm (by rw [e0]; omega))) [3, 4, 5, 0] [1, 2, 6, 7] [0] rfl rfl rfl (by decide) (by decide) (by decide) 0 rfl rfl (big_in mw_1298 rfl) (big_in mw_10 rfl) (big_in mw_1295 rfl) (big_in mw_1297 rfl) (big_in sp_40 rfl) rfl rfl (by decide +kernel) ⟨by rw [hR]; exact Nat.le_of_ble_eq_true rfl, by rw [hR]; exact Nat.le_of_ble_eq_true rfl⟩ rfl (Nat.le_of_ble_eq_true rfl) d_Mo_power_116 ⟨by rw [hR]; exact Nat.le_of_ble_eq_true rfl, by rw [hR]; exact Nat.le_of_ble_eq_true rfl⟩ rfl (fun v u H locs hp6 hP hD hS _ => ?_)
      obtain ⟨rb3, fx3, fy3, fh3⟩ := u
      try dsimp only at hp6
      obtain ⟨rfl, eb3, w3⟩ := hp6
      have hP : va_P D cls0 [(og, .inl (cI, 32, .inl fs)), (on_, .inl (cI, 32, .inl fn)), (ok_, .inl (cI, 166400, .inl fk)), (oK, .inl (cI, 64, .inl fK)), (mo, .inr (8, [.int (iZ 0), .int (iZ (np : Int)), .ref ow, .ref om, .ref ok_, .ref oK, .ref og, .ref on_, .ref oh, .ref ox, .int qn, .int qf, .ref op_, .int ql])), (ow, .inl (cI, 108000, .inl fx3)), (om, .inl (cI, 9, .inl fy3)), (oh, .inl (cI, 10000, .inl fh3))] H := hP
      have hD : va_D A [(og, .inl (cI, 32, .inl fs)), (on_, .inl (cI, 32, .inl fn)), (ok_, .inl (cI, 166400, .inl fk)), (oK, .inl (cI, 64, .inl fK)), (mo, .inr (8, [.int (iZ 0), .int (iZ (np : Int)), .ref ow, .ref om, .ref ok_, .ref oK, .ref og, .ref on_, .ref oh, .ref ox, .int qn, .int qf, .ref op_, .int ql])), (ow, .inl (cI, 108000, .inl fx3)), (om, .inl (cI, 9, .inl fy3)), (oh, .inl (cI, 10000, .inl fh3))] := hD
      show W p l e R s m args below meth c H locs _ _ Q (F0 m 119 ls [.int (iZ rb3), .long (lZ (tm : Int))])
      rw [e0] at eb3
      subst eb3
      obtain ⟨v3, hv3⟩ : ∃ z, z = up v2 4 0 := ⟨_, rfl⟩
      rw [← hv3] at w3
      have z30 : v3 0 = tv a := by rw [hv3, up_n (by decide)]; exact e0
      have z31 : v3 1 = bv a := by rw [hv3, up_n (by decide)]; exact e1
      refine lv_aload_n hx hb d_Mo_power_119 rfl (lv_at hl 1 rfl) ?_
      refine lv_iconst (v := iZ (1)) hx hb d_Mo_power_120 (by decide +kernel) ?_
      refine cv (n := 1) (wr := [(og, .inl (cI, 32, .inl fs)), (on_, .inl (cI, 32, .inl fn)), (ok_, .inl (cI, 166400, .inl fk)), (oK, .inl (cI, 64, .inl fK))]) (w1 := (fun (u : Int × (Nat → Int32) × (Nat → Int32) × (Nat → Int32)) => [(mo, .inr (8, [.int (iZ 0), .int (iZ (np : Int)), .ref ow, .ref om, .ref ok_, .ref oK, .ref og, .ref on_, .ref oh, .ref ox, .int qn, .int qf, .ref op_, .int ql])), (ow, .inl (cI, 108000, .inl u.2.1)), (om, .inl (cI, 9, .inl u.2.2.1)), (oh, .inl (cI, 10000, .inl u.2.2.2))])) (As := [.int (iZ 1)]) (rest := [.int (iZ (bl (tv a) : Int)), .long (lZ (tm : Int))]) K hP hD hK hS hA hl.1 (c_Mo_bits l D mo (iZ 0) np ow om ok_ oK og on_ oh ox qn qf op_ ql fx3 fy3 cI fh3 v3 1 H.size w3 (by decide) (by decide) (hB_lm (by rw [z31]; omega))) [4, 5, 6, 7] [0, 1, 2, 3] [0] rfl rfl rfl (by decide) (by decide) (by decide) 0 rfl rfl (big_in mw_1298 rfl) (big_in mw_10 rfl) (big_in mw_1295 rfl) (big_in mw_1297 rfl) (big_in sp_40 rfl) rfl rfl (by decide +kernel) ⟨by rw [hR]; exact Nat.le_of_ble_eq_true rfl, by rw [hR]; exact Nat.le_of_ble_eq_true rfl⟩ rfl (Nat.le_of_ble_eq_true rfl) d_Mo_power_121 ⟨by rw [hR]; exact Nat.le_of_ble_eq_true rfl, by rw [hR]; exact Nat.le_of_ble_eq_true rfl⟩ rfl (fun v u H locs hp7 hP hD hS _ => ?_)
      obtain ⟨rb4, fx4, fy4, fh4⟩ := u
      try dsimp only at hp7
      obtain ⟨rfl, eb4, w4⟩ := hp7
      have hP : va_P D cls0 [(og, .inl (cI, 32, .inl fs)), (on_, .inl (cI, 32, .inl fn)), (ok_, .inl (cI, 166400, .inl fk)), (oK, .inl (cI, 64, .inl fK)), (mo, .inr (8, [.int (iZ 0), .int (iZ (np : Int)), .ref ow, .ref om, .ref ok_, .ref oK, .ref og, .ref on_, .ref oh, .ref ox, .int qn, .int qf, .ref op_, .int ql])), (ow, .inl (cI, 108000, .inl fx4)), (om, .inl (cI, 9, .inl fy4)), (oh, .inl (cI, 10000, .inl fh4))] H := hP
      have hD : va_D A [(og, .inl (cI, 32, .inl fs)), (on_, .inl (cI, 32, .inl fn)), (ok_, .inl (cI, 166400, .inl fk)), (oK, .inl (cI, 64, .inl fK)), (mo, .inr (8, [.int (iZ 0), .int (iZ (np : Int)), .ref ow, .ref om, .ref ok_, .ref oK, .ref og, .ref on_, .ref oh, .ref ox, .int qn, .int qf, .ref op_, .int ql])), (ow, .inl (cI, 108000, .inl fx4)), (om, .inl (cI, 9, .inl fy4)), (oh, .inl (cI, 10000, .inl fh4))] := hD
      show W p l e R s m args below meth c H locs _ _ Q (F0 m 124 ls [.int (iZ rb4), .int (iZ (bl (tv a) : Int)), .long (lZ (tm : Int))])
      rw [z31] at eb4
      subst eb4
      obtain ⟨v4, hv4⟩ : ∃ z, z = up v3 4 0 := ⟨_, rfl⟩
      rw [← hv4] at w4
      have z40 : v4 0 = tv a := by rw [hv4, up_n (by decide)]; exact z30
      have z41 : v4 1 = bv a := by rw [hv4, up_n (by decide)]; exact z31
      refine zz_iadd hx hb d_Mo_power_124 ?_
      refine lv_iconst (v := iZ (2)) hx hb d_Mo_power_125 (by decide +kernel) ?_
      refine zz_isub hx hb d_Mo_power_126 ?_
      refine zz_i2l hx hb d_Mo_power_127 (by omega) ?_
      refine zz_lmul hx hb d_Mo_power_128 ?_
      obtain ⟨lv, hlv⟩ : ∃ z : Int, z = ((tm : Int) * ((bl (tv a) : Int) + (bl (bv a) : Int) - 2)) := ⟨_, rfl⟩
      rw [show ((tm : Int) * ((bl (tv a) : Int) + (bl (bv a) : Int) - 2) : Int) = lv by rw [hlv]; first | done | rw [Int.neg_neg]]
      have blv : -3000 ≤ lv ∧ lv < 1000000000 := by rw [hlv]; exact pw_rng htm (by have z := bl_le_lm (tv a); omega) (by have z := bl_le_lm (bv a); omega)
      refine lv_lstore (lv' := [(5, .long (lZ lv)), (4, .int (iZ (tm : Int))), (0, .ref mo), (1, .int (iZ (to : Int))), (2, .int (iZ (a : Int))), (3, .int (iZ (tm : Int)))]) hx hb d_Mo_power_129 hl (by decide) rfl (fun ls hl => ?_)
      refine lv_aload_n hx hb d_Mo_power_131 rfl (lv_at hl 2 rfl) ?_
      refine va_get (D := D) (ci := 8) (v := .ref og) (C := R_Mo) (T := F_Mo) (N := 14) hx hb hts i_Mo hown hK hP 4 rfl rfl 6 (by decide) (hts _ (big_in mw_1121 rfl)) (fun _ h9 => h9) rfl d_Mo_power_132 ?_
      refine lv_iload_n hx hb d_Mo_power_135 rfl (lv_at hl 4 rfl) ?_
      refine zz_iald hx hb hK hP 0 0 rfl rfl (a) (by omega) (by omega) (by omega) d_Mo_power_136 ?_
      rw [hMR.2.1 a (by omega)]
      refine zz_if_eq (tgt := 163) hx hb d_Mo_power_137 (by decide) (by omega) (fun c137 => ?_) (fun c137 => ?_)
      · refine lv_aload_n hx hb d_Mo_power_163 rfl (lv_at hl 2 rfl) ?_
        refine lv_iconst (v := iZ (0)) hx hb d_Mo_power_164 (by decide +kernel) ?_
        refine lv_iload hx hb d_Mo_power_165 (lv_at hl 1 rfl) ?_
        have t0_ : tv a = 0 := ja2.mp (by omega)
        have b1_ : bv a = 1 := by rw [t0_] at ja1; exact (Nat.coprime_zero_left _).mp ja1
        have lv0 : lv ≤ 33000 := by rw [hlv, t0_, b1_, show bl 0 = 0 from rfl, show bl 1 = 1 by decide]; omega
        have cap := pw_cap (u := tv a) (w := bv a) htm (by rw [← hlv]; omega)
        refine cv (n := 2) (wr := [(og, .inl (cI, 32, .inl fs)), (on_, .inl (cI, 32, .inl fn)), (ok_, .inl (cI, 166400, .inl fk)), (oK, .inl (cI, 64, .inl fK)), (oh, .inl (cI, 10000, .inl fh4))]) (w1 := (fun (u : (Nat → Int32) × (Nat → Int32) × (Nat → Nat)) => [(mo, .inr (8, [.int (iZ 0), .int (iZ (np : Int)), .ref ow, .ref om, .ref ok_, .ref oK, .ref og, .ref on_, .ref oh, .ref ox, .int qn, .int qf, .ref op_, .int ql])), (ow, .inl (cI, 108000, .inl u.1)), (om, .inl (cI, 9, .inl u.2.1))])) (As := [.int (iZ 0), .int (iZ (tm : Int))]) (rest := []) K hP hD hK hS hA hl.1 (c_Mo_raise l D mo (iZ 0) np ow om ok_ oK og on_ oh ox qn qf op_ ql fx4 fy4 cI v4 0 tm H.size w4 (by decide) htm (by rw [z40]; exact pw_nd cap.1) (w4.n (by decide))) [4, 5, 6] [0, 1, 2, 3, 7] [0] rfl rfl rfl (by decide) (by decide) (by decide) 0 rfl rfl (big_in mw_1303 rfl) (big_in mw_10 rfl) (big_in mw_1300 rfl) (big_in mw_1302 rfl) (big_in sp_41 rfl) rfl rfl (by decide +kernel) ⟨by rw [hR]; exact Nat.le_of_ble_eq_true rfl, by rw [hR]; exact Nat.le_of_ble_eq_true rfl⟩ rfl (Nat.le_of_ble_eq_true rfl) d_Mo_power_167 ⟨by rw [hR]; exact Nat.le_of_ble_eq_true rfl, by rw [hR]; exact Nat.le_of_ble_eq_true rfl⟩ rfl (fun v u H locs hp8 hP hD hS _ => ?_)
        obtain ⟨fx5, fy5, v5⟩ := u
        try dsimp only at hp8
        obtain ⟨rfl, w5, z50, z5o⟩ := hp8
        have hP : va_P D cls0 [(og, .inl (cI, 32, .inl fs)), (on_, .inl (cI, 32, .inl fn)), (ok_, .inl (cI, 166400, .inl fk)), (oK, .inl (cI, 64, .inl fK)), (oh, .inl (cI, 10000, .inl fh4)), (mo, .inr (8, [.int (iZ 0), .int (iZ (np : Int)), .ref ow, .ref om, .ref ok_, .ref oK, .ref og, .ref on_, .ref oh, .ref ox, .int qn, .int qf, .ref op_, .int ql])), (ow, .inl (cI, 108000, .inl fx5)), (om, .inl (cI, 9, .inl fy5))] H := hP
        have hD : va_D A [(og, .inl (cI, 32, .inl fs)), (on_, .inl (cI, 32, .inl fn)), (ok_, .inl (cI, 166400, .inl fk)), (oK, .inl (cI, 64, .inl fK)), (oh, .inl (cI, 10000, .inl fh4)), (mo, .inr (8, [.int (iZ 0), .int (iZ (np : Int)), .ref ow, .ref om, .ref ok_, .ref oK, .ref og, .ref on_, .ref oh, .ref ox, .int qn, .int qf, .ref op_, .int ql])), (ow, .inl (cI, 108000, .inl fx5)), (om, .inl (cI, 9, .inl fy5))] := hD
        show W p l e R s m args below meth c H locs _ _ Q (F0 m 170 ls [])
        rw [z40] at z50
        have z51 : v5 1 = bv a := by rw [z5o 1 (by decide) (by decide)]; exact z41
        refine lv_aload_n hx hb d_Mo_power_170 rfl (lv_at hl 2 rfl) ?_
        refine lv_iconst (v := iZ (1)) hx hb d_Mo_power_171 (by decide +kernel) ?_
        refine lv_iload hx hb d_Mo_power_172 (lv_at hl 1 rfl) ?_
        refine cv (n := 2) (wr := [(og, .inl (cI, 32, .inl fs)), (on_, .inl (cI, 32, .inl fn)), (ok_, .inl (cI, 166400, .inl fk)), (oK, .inl (cI, 64, .inl fK)), (oh, .inl (cI, 10000, .inl fh4))]) (w1 := (fun (u : (Nat → Int32) × (Nat → Int32) × (Nat → Nat)) => [(mo, .inr (8, [.int (iZ 0), .int (iZ (np : Int)), .ref ow, .ref om, .ref ok_, .ref oK, .ref og, .ref on_, .ref oh, .ref ox, .int qn, .int qf, .ref op_, .int ql])), (ow, .inl (cI, 108000, .inl u.1)), (om, .inl (cI, 9, .inl u.2.1))])) (As := [.int (iZ 1), .int (iZ (tm : Int))]) (rest := []) K hP hD hK hS hA hl.1 (c_Mo_raise l D mo (iZ 0) np ow om ok_ oK og on_ oh ox qn qf op_ ql fx5 fy5 cI v5 1 tm H.size w5 (by decide) htm (by rw [z51]; exact pw_nd cap.2) (w5.n (by decide))) [5, 6, 7] [0, 1, 2, 3, 4] [0] rfl rfl rfl (by decide) (by decide) (by decide) 0 rfl rfl (big_in mw_1303 rfl) (big_in mw_10 rfl) (big_in mw_1300 rfl) (big_in mw_1302 rfl) (big_in sp_41 rfl) rfl rfl (by decide +kernel) ⟨by rw [hR]; exact Nat.le_of_ble_eq_true rfl, by rw [hR]; exact Nat.le_of_ble_eq_true rfl⟩ rfl (Nat.le_of_ble_eq_true rfl) d_Mo_power_174 ⟨by rw [hR]; exact Nat.le_of_ble_eq_true rfl, by rw [hR]; exact Nat.le_of_ble_eq_true rfl⟩ rfl (fun v u H locs hp9 hP hD hS _ => ?_)
        obtain ⟨fx6, fy6, v6⟩ := u
        try dsimp only at hp9
        obtain ⟨rfl, w6, z61, z6o⟩ := hp9
        have hP : va_P D cls0 [(og, .inl (cI, 32, .inl fs)), (on_, .inl (cI, 32, .inl fn)), (ok_, .inl (cI, 166400, .inl fk)), (oK, .inl (cI, 64, .inl fK)), (oh, .inl (cI, 10000, .inl fh4)), (mo, .inr (8, [.int (iZ 0), .int (iZ (np : Int)), .ref ow, .ref om, .ref ok_, .ref oK, .ref og, .ref on_, .ref oh, .ref ox, .int qn, .int qf, .ref op_, .int ql])), (ow, .inl (cI, 108000, .inl fx6)), (om, .inl (cI, 9, .inl fy6))] H := hP
        have hD : va_D A [(og, .inl (cI, 32, .inl fs)), (on_, .inl (cI, 32, .inl fn)), (ok_, .inl (cI, 166400, .inl fk)), (oK, .inl (cI, 64, .inl fK)), (oh, .inl (cI, 10000, .inl fh4)), (mo, .inr (8, [.int (iZ 0), .int (iZ (np : Int)), .ref ow, .ref om, .ref ok_, .ref oK, .ref og, .ref on_, .ref oh, .ref ox, .int qn, .int qf, .ref op_, .int ql])), (ow, .inl (cI, 108000, .inl fx6)), (om, .inl (cI, 9, .inl fy6))] := hD
        show W p l e R s m args below meth c H locs _ _ Q (F0 m 177 ls [])
        rw [z51] at z61
        have z60 : v6 0 = (tv a) ^ tm := by rw [z6o 0 (by decide) (by decide)]; exact z50
        refine lv_aload_n hx hb d_Mo_power_177 rfl (lv_at hl 2 rfl) ?_
        refine lv_iload_n hx hb d_Mo_power_178 rfl (lv_at hl 3 rfl) ?_
        refine lv_iload hx hb d_Mo_power_179 (lv_at hl 1 rfl) ?_
        refine lv_iconst (v := iZ (2)) hx hb d_Mo_power_181 (by decide +kernel) ?_
        refine zz_irem hx hb d_Mo_power_182 (by omega) (by omega) ?_
        refine lv_iconst (v := iZ (1)) hx hb d_Mo_power_183 (by decide +kernel) ?_
        refine zz_icmp_ne (tgt := 196) hx hb d_Mo_power_184 (by decide) (by omega) (by omega) (fun c184 => ?_) (fun c184 => ?_)
        · refine lv_iconst (v := iZ (1)) hx hb d_Mo_power_196 (by decide +kernel) ?_
          refine lv_iconst (v := iZ (4)) hx hb d_Mo_power_197 (by decide +kernel) ?_
          refine cv (n := 3) (wr := []) (w1 := (fun (u : (Nat → Int32) × (Nat → Int32) × (Nat → Int32) × (Nat → Nat)) => [(mo, .inr (8, [.int (iZ 4), .int (iZ (np : Int)), .ref ow, .ref om, .ref ok_, .ref oK, .ref og, .ref on_, .ref oh, .ref ox, .int qn, .int qf, .ref op_, .int ql])), (ow, .inl (cI, 108000, .inl u.1)), (om, .inl (cI, 9, .inl u.2.1)), (oh, .inl (cI, 10000, .inl u.2.2.1)), (ok_, .inl (cI, 166400, .inl fk)), (oK, .inl (cI, 64, .inl fK)), (og, .inl (cI, 32, .inl fs)), (on_, .inl (cI, 32, .inl fn))])) (As := [.int (iZ (to : Int)), .int (iZ 1), .int (iZ 4)]) (rest := []) K hP hD hK hS hA hl.1 (c_Mo_storeX l D mo (iZ 0) np ow om ok_ oK og on_ oh ox qn qf op_ ql fx6 fy6 cI fh4 fk fK fs fn v6 tv bv sg to 1 4 H.size w6 hMR (by omega) hnd hnp (by omega) (by decide) (by rw [z60]; exact pw_lm cap.1) (by rw [z61]; exact pw_lm cap.2) (by rw [z60, z61]; exact hfit)) [5, 6, 7, 4, 2, 3, 0, 1] [] [0] rfl rfl rfl (by decide) (by decide) (by decide) 0 rfl rfl (big_in mw_1215 rfl) (big_in mw_10 rfl) (big_in mw_1212 rfl) (big_in mw_1214 rfl) (big_in sp_27 rfl) rfl rfl (by decide +kernel) ⟨by rw [hR]; exact Nat.le_of_ble_eq_true rfl, by rw [hR]; exact Nat.le_of_ble_eq_true rfl⟩ rfl (Nat.le_of_ble_eq_true rfl) d_Mo_power_198 ⟨by rw [hR]; exact Nat.le_of_ble_eq_true rfl, by rw [hR]; exact Nat.le_of_ble_eq_true rfl⟩ rfl (fun v u H locs hp10 hP hD hS _ => ?_)
          obtain ⟨fa, fb, fc, v9⟩ := u
          try dsimp only at hp10
          obtain ⟨rfl, w9⟩ := hp10
          have hP : va_P D cls0 [(mo, .inr (8, [.int (iZ 4), .int (iZ (np : Int)), .ref ow, .ref om, .ref ok_, .ref oK, .ref og, .ref on_, .ref oh, .ref ox, .int qn, .int qf, .ref op_, .int ql])), (ow, .inl (cI, 108000, .inl fa)), (om, .inl (cI, 9, .inl fb)), (oh, .inl (cI, 10000, .inl fc)), (ok_, .inl (cI, 166400, .inl fk)), (oK, .inl (cI, 64, .inl fK)), (og, .inl (cI, 32, .inl fs)), (on_, .inl (cI, 32, .inl fn))] H := hP
          have hD : va_D A [(mo, .inr (8, [.int (iZ 4), .int (iZ (np : Int)), .ref ow, .ref om, .ref ok_, .ref oK, .ref og, .ref on_, .ref oh, .ref ox, .int qn, .int qf, .ref op_, .int ql])), (ow, .inl (cI, 108000, .inl fa)), (om, .inl (cI, 9, .inl fb)), (oh, .inl (cI, 10000, .inl fc)), (ok_, .inl (cI, 166400, .inl fk)), (oK, .inl (cI, 64, .inl fK)), (og, .inl (cI, 32, .inl fs)), (on_, .inl (cI, 32, .inl fn))] := hD
          show W p l e R s m args below meth c H locs _ _ Q (F0 m 201 ls [.int (iZ 0)])
          have hP9 : va_P D cls0 [(mo, .inr (8, [.int (iZ 4), .int (iZ (np : Int)), .ref ow, .ref om, .ref ok_, .ref oK, .ref og, .ref on_, .ref oh, .ref ox, .int qn, .int qf, .ref op_, .int ql])), (ow, .inl (cI, 108000, .inl fa)), (om, .inl (cI, 9, .inl fb)), (oh, .inl (cI, 10000, .inl fc)), (ok_, .inl (cI, 166400, .inl fk)), (oK, .inl (cI, 64, .inl fK)), (og, .inl (cI, 32, .inl fs)), (on_, .inl (cI, 32, .inl fn))] H := hP.sub [0, 1, 2, 3, 4, 5, 6, 7] rfl
          have hD9 : va_D A [(mo, .inr (8, [.int (iZ 4), .int (iZ (np : Int)), .ref ow, .ref om, .ref ok_, .ref oK, .ref og, .ref on_, .ref oh, .ref ox, .int qn, .int qf, .ref op_, .int ql])), (ow, .inl (cI, 108000, .inl fa)), (om, .inl (cI, 9, .inl fb)), (oh, .inl (cI, 10000, .inl fc)), (ok_, .inl (cI, 166400, .inl fk)), (oK, .inl (cI, 64, .inl fK)), (og, .inl (cI, 32, .inl fs)), (on_, .inl (cI, 32, .inl fn))] := hD.sub [0, 1, 2, 3, 4, 5, 6, 7] (by decide) rfl
          rw [hQ, ← hAe]
          refine r_i (v := (iZ 0)) K (fa, fb, fc, v9) hS d_Mo_power_201 ?_ (fun t ht hv => ?_)
          · exact ⟨rfl, w9⟩
          · exact ⟨by rw [ht]; exact hP9, va_K.moved hv hK, by rw [← hAe]; exact hD9⟩
        · refine lv_aload_n hx hb d_Mo_power_187 rfl (lv_at hl 2 rfl) ?_
          refine va_get (D := D) (ci := 8) (v := .ref og) (C := R_Mo) (T := F_Mo) (N := 14) hx hb hts i_Mo hown hK hP 5 rfl rfl 6 (by decide) (hts _ (big_in mw_1121 rfl)) (fun _ h9 => h9) rfl d_Mo_power_188 ?_
          refine lv_iload_n hx hb d_Mo_power_191 rfl (lv_at hl 4 rfl) ?_
          refine zz_iald hx hb hK hP 0 0 rfl rfl (a) (by omega) (by omega) (by omega) d_Mo_power_192 ?_
          rw [hMR.2.1 a (by omega)]
          refine lv_goto (tgt := 197) hx hb d_Mo_power_193 (by decide) ?_
          refine lv_iconst (v := iZ (4)) hx hb d_Mo_power_197 (by decide +kernel) ?_
          refine cv (n := 3) (wr := []) (w1 := (fun (u : (Nat → Int32) × (Nat → Int32) × (Nat → Int32) × (Nat → Nat)) => [(mo, .inr (8, [.int (iZ 4), .int (iZ (np : Int)), .ref ow, .ref om, .ref ok_, .ref oK, .ref og, .ref on_, .ref oh, .ref ox, .int qn, .int qf, .ref op_, .int ql])), (ow, .inl (cI, 108000, .inl u.1)), (om, .inl (cI, 9, .inl u.2.1)), (oh, .inl (cI, 10000, .inl u.2.2.1)), (ok_, .inl (cI, 166400, .inl fk)), (oK, .inl (cI, 64, .inl fK)), (og, .inl (cI, 32, .inl fs)), (on_, .inl (cI, 32, .inl fn))])) (As := [.int (iZ (to : Int)), .int (iZ (sg a)), .int (iZ 4)]) (rest := []) K hP hD hK hS hA hl.1 (c_Mo_storeX l D mo (iZ 0) np ow om ok_ oK og on_ oh ox qn qf op_ ql fx6 fy6 cI fh4 fk fK fs fn v6 tv bv sg to (sg a) 4 H.size w6 hMR (by omega) hnd hnp (by omega) (by decide) (by rw [z60]; exact pw_lm cap.1) (by rw [z61]; exact pw_lm cap.2) (by rw [z60, z61]; exact hfit)) [5, 6, 7, 4, 2, 3, 0, 1] [] [0] rfl rfl rfl (by decide) (by decide) (by decide) 0 rfl rfl (big_in mw_1215 rfl) (big_in mw_10 rfl) (big_in mw_1212 rfl) (big_in mw_1214 rfl) (big_in sp_27 rfl) rfl rfl (by decide +kernel) ⟨by rw [hR]; exact Nat.le_of_ble_eq_true rfl, by rw [hR]; exact Nat.le_of_ble_eq_true rfl⟩ rfl (Nat.le_of_ble_eq_true rfl) d_Mo_power_198 ⟨by rw [hR]; exact Nat.le_of_ble_eq_true rfl, by rw [hR]; exact Nat.le_of_ble_eq_true rfl⟩ rfl (fun v u H locs hp11 hP hD hS _ => ?_)
          obtain ⟨fa, fb, fc, v9⟩ := u
          try dsimp only at hp11
          obtain ⟨rfl, w9⟩ := hp11
          have hP : va_P D cls0 [(mo, .inr (8, [.int (iZ 4), .int (iZ (np : Int)), .ref ow, .ref om, .ref ok_, .ref oK, .ref og, .ref on_, .ref oh, .ref ox, .int qn, .int qf, .ref op_, .int ql])), (ow, .inl (cI, 108000, .inl fa)), (om, .inl (cI, 9, .inl fb)), (oh, .inl (cI, 10000, .inl fc)), (ok_, .inl (cI, 166400, .inl fk)), (oK, .inl (cI, 64, .inl fK)), (og, .inl (cI, 32, .inl fs)), (on_, .inl (cI, 32, .inl fn))] H := hP
          have hD : va_D A [(mo, .inr (8, [.int (iZ 4), .int (iZ (np : Int)), .ref ow, .ref om, .ref ok_, .ref oK, .ref og, .ref on_, .ref oh, .ref ox, .int qn, .int qf, .ref op_, .int ql])), (ow, .inl (cI, 108000, .inl fa)), (om, .inl (cI, 9, .inl fb)), (oh, .inl (cI, 10000, .inl fc)), (ok_, .inl (cI, 166400, .inl fk)), (oK, .inl (cI, 64, .inl fK)), (og, .inl (cI, 32, .inl fs)), (on_, .inl (cI, 32, .inl fn))] := hD
          show W p l e R s m args below meth c H locs _ _ Q (F0 m 201 ls [.int (iZ 0)])
          have hP9 : va_P D cls0 [(mo, .inr (8, [.int (iZ 4), .int (iZ (np : Int)), .ref ow, .ref om, .ref ok_, .ref oK, .ref og, .ref on_, .ref oh, .ref ox, .int qn, .int qf, .ref op_, .int ql])), (ow, .inl (cI, 108000, .inl fa)), (om, .inl (cI, 9, .inl fb)), (oh, .inl (cI, 10000, .inl fc)), (ok_, .inl (cI, 166400, .inl fk)), (oK, .inl (cI, 64, .inl fK)), (og, .inl (cI, 32, .inl fs)), (on_, .inl (cI, 32, .inl fn))] H := hP.sub [0, 1, 2, 3, 4, 5, 6, 7] rfl
          have hD9 : va_D A [(mo, .inr (8, [.int (iZ 4), .int (iZ (np : Int)), .ref ow, .ref om, .ref ok_, .ref oK, .ref og, .ref on_, .ref oh, .ref ox, .int qn, .int qf, .ref op_, .int ql])), (ow, .inl (cI, 108000, .inl fa)), (om, .inl (cI, 9, .inl fb)), (oh, .inl (cI, 10000, .inl fc)), (ok_, .inl (cI, 166400, .inl fk)), (oK, .inl (cI, 64, .inl fK)), (og, .inl (cI, 32, .inl fs)), (on_, .inl (cI, 32, .inl fn))] := hD.sub [0, 1, 2, 3, 4, 5, 6, 7] (by decide) rfl
          rw [hQ, ← hAe]
          refine r_i (v := (iZ 0)) K (fa, fb, fc, v9) hS d_Mo_power_201 ?_ (fun t ht hv => ?_)
          · exact ⟨rfl, w9⟩
          · exact ⟨by rw [ht]; exact hP9, va_K.moved hv hK, by rw [← hAe]; exact hD9⟩
      · have ta0 : 0 < tv a := Nat.pos_of_ne_zero (fun z => by have y := ja2.mpr z; omega)
        refine lv_aload_n hx hb d_Mo_power_140 rfl (lv_at hl 2 rfl) ?_
        refine lv_lload hx hb d_Mo_power_141 (lv_at hl 0 rfl) ?_
        refine lv_ldc2 (v := lZ (33000)) hx hb hown (hts _ (big_in mw_1299 rfl)) d_Mo_power_143 ?_
        refine zz_lcmp_le (tgt := 154) hx hb d_Mo_power_146 d_Mo_power_147 (by decide) (by omega) (by omega) (fun c146 => ?_) (fun c146 => ?_)
        · refine lv_iconst (v := iZ (0)) hx hb d_Mo_power_154 (by decide +kernel) ?_
          refine cv (n := 1) (wr := [(og, .inl (cI, 32, .inl fs)), (on_, .inl (cI, 32, .inl fn)), (ok_, .inl (cI, 166400, .inl fk)), (oK, .inl (cI, 64, .inl fK)), (ow, .inl (cI, 108000, .inl fx4)), (om, .inl (cI, 9, .inl fy4)), (oh, .inl (cI, 10000, .inl fh4))]) (w1 := (fun (u : Int) => [(mo, .inr (8, [.int (iZ 0), .int (iZ (np : Int)), .ref ow, .ref om, .ref ok_, .ref oK, .ref og, .ref on_, .ref oh, .ref ox, .int qn, .int qf, .ref op_, .int ql]))])) (As := [.int (iZ 0)]) (rest := []) K hP hD hK hS hA hl.1 (c_Mo_refuses l D mo (iZ 0) np ow om ok_ oK og on_ oh ox qn qf op_ ql 0 H.size (by omega)) [4] [0, 1, 2, 3, 5, 6, 7] [] rfl rfl rfl (by decide) (by decide) (by decide) 0 rfl rfl (big_in mw_1176 rfl) (big_in mw_10 rfl) (big_in mw_1173 rfl) (big_in mw_1175 rfl) (big_in sp_18 rfl) rfl rfl (by decide +kernel) ⟨by rw [hR]; exact Nat.le_of_ble_eq_true rfl, by rw [hR]; exact Nat.le_of_ble_eq_true rfl⟩ rfl (Nat.le_of_ble_eq_true rfl) d_Mo_power_155 ⟨by rw [hR]; exact Nat.le_of_ble_eq_true rfl, by rw [hR]; exact Nat.le_of_ble_eq_true rfl⟩ rfl (fun v u H locs hp12 hP hD hS _ => ?_)
          obtain ⟨rf2, rfl⟩ : ∃ z, z = u := ⟨_, rfl⟩
          obtain ⟨rfl, prf2⟩ := hp12
          have hP : va_P D cls0 [(og, .inl (cI, 32, .inl fs)), (on_, .inl (cI, 32, .inl fn)), (ok_, .inl (cI, 166400, .inl fk)), (oK, .inl (cI, 64, .inl fK)), (ow, .inl (cI, 108000, .inl fx4)), (om, .inl (cI, 9, .inl fy4)), (oh, .inl (cI, 10000, .inl fh4)), (mo, .inr (8, [.int (iZ 0), .int (iZ (np : Int)), .ref ow, .ref om, .ref ok_, .ref oK, .ref og, .ref on_, .ref oh, .ref ox, .int qn, .int qf, .ref op_, .int ql]))] H := hP
          have hD : va_D A [(og, .inl (cI, 32, .inl fs)), (on_, .inl (cI, 32, .inl fn)), (ok_, .inl (cI, 166400, .inl fk)), (oK, .inl (cI, 64, .inl fK)), (ow, .inl (cI, 108000, .inl fx4)), (om, .inl (cI, 9, .inl fy4)), (oh, .inl (cI, 10000, .inl fh4)), (mo, .inr (8, [.int (iZ 0), .int (iZ (np : Int)), .ref ow, .ref om, .ref ok_, .ref oK, .ref og, .ref on_, .ref oh, .ref ox, .int qn, .int qf, .ref op_, .int ql]))] := hD
          show W p l e R s m args below meth c H locs _ _ Q (F0 m 158 ls [.int (iZ rf2)])
          refine zz_if_eq (tgt := 163) hx hb d_Mo_power_158 (by decide) (by omega) (fun c158 => ?_) (fun c158 => False.elim (by omega))
          refine lv_aload_n hx hb d_Mo_power_163 rfl (lv_at hl 2 rfl) ?_
          refine lv_iconst (v := iZ (0)) hx hb d_Mo_power_164 (by decide +kernel) ?_
          refine lv_iload hx hb d_Mo_power_165 (lv_at hl 1 rfl) ?_
          have cap := pw_cap (u := tv a) (w := bv a) htm (by rw [← hlv]; omega)
          refine cv (n := 2) (wr := [(og, .inl (cI, 32, .inl fs)), (on_, .inl (cI, 32, .inl fn)), (ok_, .inl (cI, 166400, .inl fk)), (oK, .inl (cI, 64, .inl fK)), (oh, .inl (cI, 10000, .inl fh4))]) (w1 := (fun (u : (Nat → Int32) × (Nat → Int32) × (Nat → Nat)) => [(mo, .inr (8, [.int (iZ 0), .int (iZ (np : Int)), .ref ow, .ref om, .ref ok_, .ref oK, .ref og, .ref on_, .ref oh, .ref ox, .int qn, .int qf, .ref op_, .int ql])), (ow, .inl (cI, 108000, .inl u.1)), (om, .inl (cI, 9, .inl u.2.1))])) (As := [.int (iZ 0), .int (iZ (tm : Int))]) (rest := []) K hP hD hK hS hA hl.1 (c_Mo_raise l D mo (iZ 0) np ow om ok_ oK og on_ oh ox qn qf op_ ql fx4 fy4 cI v4 0 tm H.size w4 (by decide) htm (by rw [z40]; exact pw_nd cap.1) (w4.n (by decide))) [7, 4, 5] [0, 1, 2, 3, 6] [0] rfl rfl rfl (by decide) (by decide) (by decide) 0 rfl rfl (big_in mw_1303 rfl) (big_in mw_10 rfl) (big_in mw_1300 rfl) (big_in mw_1302 rfl) (big_in sp_41 rfl) rfl rfl (by decide +kernel) ⟨by rw [hR]; exact Nat.le_of_ble_eq_true rfl, by rw [hR]; exact Nat.le_of_ble_eq_true rfl⟩ rfl (Nat.le_of_ble_eq_true rfl) d_Mo_power_167 ⟨by rw [hR]; exact Nat.le_of_ble_eq_true rfl, by rw [hR]; exact Nat.le_of_ble_eq_true rfl⟩ rfl (fun v u H locs hp13 hP hD hS _ => ?_)
          obtain ⟨fx5, fy5, v5⟩ := u
          try dsimp only at hp13
          obtain ⟨rfl, w5, z50, z5o⟩ := hp13
          have hP : va_P D cls0 [(og, .inl (cI, 32, .inl fs)), (on_, .inl (cI, 32, .inl fn)), (ok_, .inl (cI, 166400, .inl fk)), (oK, .inl (cI, 64, .inl fK)), (oh, .inl (cI, 10000, .inl fh4)), (mo, .inr (8, [.int (iZ 0), .int (iZ (np : Int)), .ref ow, .ref om, .ref ok_, .ref oK, .ref og, .ref on_, .ref oh, .ref ox, .int qn, .int qf, .ref op_, .int ql])), (ow, .inl (cI, 108000, .inl fx5)), (om, .inl (cI, 9, .inl fy5))] H := hP
          have hD : va_D A [(og, .inl (cI, 32, .inl fs)), (on_, .inl (cI, 32, .inl fn)), (ok_, .inl (cI, 166400, .inl fk)), (oK, .inl (cI, 64, .inl fK)), (oh, .inl (cI, 10000, .inl fh4)), (mo, .inr (8, [.int (iZ 0), .int (iZ (np : Int)), .ref ow, .ref om, .ref ok_, .ref oK, .ref og, .ref on_, .ref oh, .ref ox, .int qn, .int qf, .ref op_, .int ql])), (ow, .inl (cI, 108000, .inl fx5)), (om, .inl (cI, 9, .inl fy5))] := hD
          show W p l e R s m args below meth c H locs _ _ Q (F0 m 170 ls [])
          rw [z40] at z50
          have z51 : v5 1 = bv a := by rw [z5o 1 (by decide) (by decide)]; exact z41
          refine lv_aload_n hx hb d_Mo_power_170 rfl (lv_at hl 2 rfl) ?_
          refine lv_iconst (v := iZ (1)) hx hb d_Mo_power_171 (by decide +kernel) ?_
          refine lv_iload hx hb d_Mo_power_172 (lv_at hl 1 rfl) ?_
          refine cv (n := 2) (wr := [(og, .inl (cI, 32, .inl fs)), (on_, .inl (cI, 32, .inl fn)), (ok_, .inl (cI, 166400, .inl fk)), (oK, .inl (cI, 64, .inl fK)), (oh, .inl (cI, 10000, .inl fh4))]) (w1 := (fun (u : (Nat → Int32) × (Nat → Int32) × (Nat → Nat)) => [(mo, .inr (8, [.int (iZ 0), .int (iZ (np : Int)), .ref ow, .ref om, .ref ok_, .ref oK, .ref og, .ref on_, .ref oh, .ref ox, .int qn, .int qf, .ref op_, .int ql])), (ow, .inl (cI, 108000, .inl u.1)), (om, .inl (cI, 9, .inl u.2.1))])) (As := [.int (iZ 1), .int (iZ (tm : Int))]) (rest := []) K hP hD hK hS hA hl.1 (c_Mo_raise l D mo (iZ 0) np ow om ok_ oK og on_ oh ox qn qf op_ ql fx5 fy5 cI v5 1 tm H.size w5 (by decide) htm (by rw [z51]; exact pw_nd cap.2) (w5.n (by decide))) [5, 6, 7] [0, 1, 2, 3, 4] [0] rfl rfl rfl (by decide) (by decide) (by decide) 0 rfl rfl (big_in mw_1303 rfl) (big_in mw_10 rfl) (big_in mw_1300 rfl) (big_in mw_1302 rfl) (big_in sp_41 rfl) rfl rfl (by decide +kernel) ⟨by rw [hR]; exact Nat.le_of_ble_eq_true rfl, by rw [hR]; exact Nat.le_of_ble_eq_true rfl⟩ rfl (Nat.le_of_ble_eq_true rfl) d_Mo_power_174 ⟨by rw [hR]; exact Nat.le_of_ble_eq_true rfl, by rw [hR]; exact Nat.le_of_ble_eq_true rfl⟩ rfl (fun v u H locs hp14 hP hD hS _ => ?_)
          obtain ⟨fx6, fy6, v6⟩ := u
          try dsimp only at hp14
          obtain ⟨rfl, w6, z61, z6o⟩ := hp14
          have hP : va_P D cls0 [(og, .inl (cI, 32, .inl fs)), (on_, .inl (cI, 32, .inl fn)), (ok_, .inl (cI, 166400, .inl fk)), (oK, .inl (cI, 64, .inl fK)), (oh, .inl (cI, 10000, .inl fh4)), (mo, .inr (8, [.int (iZ 0), .int (iZ (np : Int)), .ref ow, .ref om, .ref ok_, .ref oK, .ref og, .ref on_, .ref oh, .ref ox, .int qn, .int qf, .ref op_, .int ql])), (ow, .inl (cI, 108000, .inl fx6)), (om, .inl (cI, 9, .inl fy6))] H := hP
          have hD : va_D A [(og, .inl (cI, 32, .inl fs)), (on_, .inl (cI, 32, .inl fn)), (ok_, .inl (cI, 166400, .inl fk)), (oK, .inl (cI, 64, .inl fK)), (oh, .inl (cI, 10000, .inl fh4)), (mo, .inr (8, [.int (iZ 0), .int (iZ (np : Int)), .ref ow, .ref om, .ref ok_, .ref oK, .ref og, .ref on_, .ref oh, .ref ox, .int qn, .int qf, .ref op_, .int ql])), (ow, .inl (cI, 108000, .inl fx6)), (om, .inl (cI, 9, .inl fy6))] := hD
          show W p l e R s m args below meth c H locs _ _ Q (F0 m 177 ls [])
          rw [z51] at z61
          have z60 : v6 0 = (tv a) ^ tm := by rw [z6o 0 (by decide) (by decide)]; exact z50
          refine lv_aload_n hx hb d_Mo_power_177 rfl (lv_at hl 2 rfl) ?_
          refine lv_iload_n hx hb d_Mo_power_178 rfl (lv_at hl 3 rfl) ?_
          refine lv_iload hx hb d_Mo_power_179 (lv_at hl 1 rfl) ?_
          refine lv_iconst (v := iZ (2)) hx hb d_Mo_power_181 (by decide +kernel) ?_
          refine zz_irem hx hb d_Mo_power_182 (by omega) (by omega) ?_
          refine lv_iconst (v := iZ (1)) hx hb d_Mo_power_183 (by decide +kernel) ?_
          refine zz_icmp_ne (tgt := 196) hx hb d_Mo_power_184 (by decide) (by omega) (by omega) (fun c184 => ?_) (fun c184 => ?_)
          · refine lv_iconst (v := iZ (1)) hx hb d_Mo_power_196 (by decide +kernel) ?_
            refine lv_iconst (v := iZ (4)) hx hb d_Mo_power_197 (by decide +kernel) ?_
            refine cv (n := 3) (wr := []) (w1 := (fun (u : (Nat → Int32) × (Nat → Int32) × (Nat → Int32) × (Nat → Nat)) => [(mo, .inr (8, [.int (iZ 4), .int (iZ (np : Int)), .ref ow, .ref om, .ref ok_, .ref oK, .ref og, .ref on_, .ref oh, .ref ox, .int qn, .int qf, .ref op_, .int ql])), (ow, .inl (cI, 108000, .inl u.1)), (om, .inl (cI, 9, .inl u.2.1)), (oh, .inl (cI, 10000, .inl u.2.2.1)), (ok_, .inl (cI, 166400, .inl fk)), (oK, .inl (cI, 64, .inl fK)), (og, .inl (cI, 32, .inl fs)), (on_, .inl (cI, 32, .inl fn))])) (As := [.int (iZ (to : Int)), .int (iZ 1), .int (iZ 4)]) (rest := []) K hP hD hK hS hA hl.1 (c_Mo_storeX l D mo (iZ 0) np ow om ok_ oK og on_ oh ox qn qf op_ ql fx6 fy6 cI fh4 fk fK fs fn v6 tv bv sg to 1 4 H.size w6 hMR (by omega) hnd hnp (by omega) (by decide) (by rw [z60]; exact pw_lm cap.1) (by rw [z61]; exact pw_lm cap.2) (by rw [z60, z61]; exact hfit)) [5, 6, 7, 4, 2, 3, 0, 1] [] [0] rfl rfl rfl (by decide) (by decide) (by decide) 0 rfl rfl (big_in mw_1215 rfl) (big_in mw_10 rfl) (big_in mw_1212 rfl) (big_in mw_1214 rfl) (big_in sp_27 rfl) rfl rfl (by decide +kernel) ⟨by rw [hR]; exact Nat.le_of_ble_eq_true rfl, by rw [hR]; exact Nat.le_of_ble_eq_true rfl⟩ rfl (Nat.le_of_ble_eq_true rfl) d_Mo_power_198 ⟨by rw [hR]; exact Nat.le_of_ble_eq_true rfl, by rw [hR]; exact Nat.le_of_ble_eq_true rfl⟩ rfl (fun v u H locs hp15 hP hD hS _ => ?_)
            obtain ⟨fa, fb, fc, v9⟩ := u
            try dsimp only at hp15
            obtain ⟨rfl, w9⟩ := hp15
            have hP : va_P D cls0 [(mo, .inr (8, [.int (iZ 4), .int (iZ (np : Int)), .ref ow, .ref om, .ref ok_, .ref oK, .ref og, .ref on_, .ref oh, .ref ox, .int qn, .int qf, .ref op_, .int ql])), (ow, .inl (cI, 108000, .inl fa)), (om, .inl (cI, 9, .inl fb)), (oh, .inl (cI, 10000, .inl fc)), (ok_, .inl (cI, 166400, .inl fk)), (oK, .inl (cI, 64, .inl fK)), (og, .inl (cI, 32, .inl fs)), (on_, .inl (cI, 32, .inl fn))] H := hP
            have hD : va_D A [(mo, .inr (8, [.int (iZ 4), .int (iZ (np : Int)), .ref ow, .ref om, .ref ok_, .ref oK, .ref og, .ref on_, .ref oh, .ref ox, .int qn, .int qf, .ref op_, .int ql])), (ow, .inl (cI, 108000, .inl fa)), (om, .inl (cI, 9, .inl fb)), (oh, .inl (cI, 10000, .inl fc)), (ok_, .inl (cI, 166400, .inl fk)), (oK, .inl (cI, 64, .inl fK)), (og, .inl (cI, 32, .inl fs)), (on_, .inl (cI, 32, .inl fn))] := hD
            show W p l e R s m args below meth c H locs _ _ Q (F0 m 201 ls [.int (iZ 0)])
            have hP9 : va_P D cls0 [(mo, .inr (8, [.int (iZ 4), .int (iZ (np : Int)), .ref ow, .ref om, .ref ok_, .ref oK, .ref og, .ref on_, .ref oh, .ref ox, .int qn, .int qf, .ref op_, .int ql])), (ow, .inl (cI, 108000, .inl fa)), (om, .inl (cI, 9, .inl fb)), (oh, .inl (cI, 10000, .inl fc)), (ok_, .inl (cI, 166400, .inl fk)), (oK, .inl (cI, 64, .inl fK)), (og, .inl (cI, 32, .inl fs)), (on_, .inl (cI, 32, .inl fn))] H := hP.sub [0, 1, 2, 3, 4, 5, 6, 7] rfl
            have hD9 : va_D A [(mo, .inr (8, [.int (iZ 4), .int (iZ (np : Int)), .ref ow, .ref om, .ref ok_, .ref oK, .ref og, .ref on_, .ref oh, .ref ox, .int qn, .int qf, .ref op_, .int ql])), (ow, .inl (cI, 108000, .inl fa)), (om, .inl (cI, 9, .inl fb)), (oh, .inl (cI, 10000, .inl fc)), (ok_, .inl (cI, 166400, .inl fk)), (oK, .inl (cI, 64, .inl fK)), (og, .inl (cI, 32, .inl fs)), (on_, .inl (cI, 32, .inl fn))] := hD.sub [0, 1, 2, 3, 4, 5, 6, 7] (by decide) rfl
            rw [hQ, ← hAe]
            refine r_i (v := (iZ 0)) K (fa, fb, fc, v9) hS d_Mo_power_201 ?_ (fun t ht hv => ?_)
            · exact ⟨rfl, w9⟩
            · exact ⟨by rw [ht]; exact hP9, va_K.moved hv hK, by rw [← hAe]; exact hD9⟩
          · refine lv_aload_n hx hb d_Mo_power_187 rfl (lv_at hl 2 rfl) ?_
            refine va_get (D := D) (ci := 8) (v := .ref og) (C := R_Mo) (T := F_Mo) (N := 14) hx hb hts i_Mo hown hK hP 5 rfl rfl 6 (by decide) (hts _ (big_in mw_1121 rfl)) (fun _ h9 => h9) rfl d_Mo_power_188 ?_
            refine lv_iload_n hx hb d_Mo_power_191 rfl (lv_at hl 4 rfl) ?_
            refine zz_iald hx hb hK hP 0 0 rfl rfl (a) (by omega) (by omega) (by omega) d_Mo_power_192 ?_
            rw [hMR.2.1 a (by omega)]
            refine lv_goto (tgt := 197) hx hb d_Mo_power_193 (by decide) ?_
            refine lv_iconst (v := iZ (4)) hx hb d_Mo_power_197 (by decide +kernel) ?_
            refine cv (n := 3) (wr := []) (w1 := (fun (u : (Nat → Int32) × (Nat → Int32) × (Nat → Int32) × (Nat → Nat)) => [(mo, .inr (8, [.int (iZ 4), .int (iZ (np : Int)), .ref ow, .ref om, .ref ok_, .ref oK, .ref og, .ref on_, .ref oh, .ref ox, .int qn, .int qf, .ref op_, .int ql])), (ow, .inl (cI, 108000, .inl u.1)), (om, .inl (cI, 9, .inl u.2.1)), (oh, .inl (cI, 10000, .inl u.2.2.1)), (ok_, .inl (cI, 166400, .inl fk)), (oK, .inl (cI, 64, .inl fK)), (og, .inl (cI, 32, .inl fs)), (on_, .inl (cI, 32, .inl fn))])) (As := [.int (iZ (to : Int)), .int (iZ (sg a)), .int (iZ 4)]) (rest := []) K hP hD hK hS hA hl.1 (c_Mo_storeX l D mo (iZ 0) np ow om ok_ oK og on_ oh ox qn qf op_ ql fx6 fy6 cI fh4 fk fK fs fn v6 tv bv sg to (sg a) 4 H.size w6 hMR (by omega) hnd hnp (by omega) (by decide) (by rw [z60]; exact pw_lm cap.1) (by rw [z61]; exact pw_lm cap.2) (by rw [z60, z61]; exact hfit)) [5, 6, 7, 4, 2, 3, 0, 1] [] [0] rfl rfl rfl (by decide) (by decide) (by decide) 0 rfl rfl (big_in mw_1215 rfl) (big_in mw_10 rfl) (big_in mw_1212 rfl) (big_in mw_1214 rfl) (big_in sp_27 rfl) rfl rfl (by decide +kernel) ⟨by rw [hR]; exact Nat.le_of_ble_eq_true rfl, by rw [hR]; exact Nat.le_of_ble_eq_true rfl⟩ rfl (Nat.le_of_ble_eq_true rfl) d_Mo_power_198 ⟨by rw [hR]; exact Nat.le_of_ble_eq_true rfl, by rw [hR]; exact Nat.le_of_ble_eq_true rfl⟩ rfl (fun v u H locs hp16 hP hD hS _ => ?_)
            obtain ⟨fa, fb, fc, v9⟩ := u
            try dsimp only at hp16
            obtain ⟨rfl, w9⟩ := hp16
            have hP : va_P D cls0 [(mo, .inr (8, [.int (iZ 4), .int (iZ (np : Int)), .ref ow, .ref om, .ref ok_, .ref oK, .ref og, .ref on_, .ref oh, .ref ox, .int qn, .int qf, .ref op_, .int ql])), (ow, .inl (cI, 108000, .inl fa)), (om, .inl (cI, 9, .inl fb)), (oh, .inl (cI, 10000, .inl fc)), (ok_, .inl (cI, 166400, .inl fk)), (oK, .inl (cI, 64, .inl fK)), (og, .inl (cI, 32, .inl fs)), (on_, .inl (cI, 32, .inl fn))] H := hP
            have hD : va_D A [(mo, .inr (8, [.int (iZ 4), .int (iZ (np : Int)), .ref ow, .ref om, .ref ok_, .ref oK, .ref og, .ref on_, .ref oh, .ref ox, .int qn, .int qf, .ref op_, .int ql])), (ow, .inl (cI, 108000, .inl fa)), (om, .inl (cI, 9, .inl fb)), (oh, .inl (cI, 10000, .inl fc)), (ok_, .inl (cI, 166400, .inl fk)), (oK, .inl (cI, 64, .inl fK)), (og, .inl (cI, 32, .inl fs)), (on_, .inl (cI, 32, .inl fn))] := hD
            show W p l e R s m args below meth c H locs _ _ Q (F0 m 201 ls [.int (iZ 0)])
            have hP9 : va_P D cls0 [(mo, .inr (8, [.int (iZ 4), .int (iZ (np : Int)), .ref ow, .ref om, .ref ok_, .ref oK, .ref og, .ref on_, .ref oh, .ref ox, .int qn, .int qf, .ref op_, .int ql])), (ow, .inl (cI, 108000, .inl fa)), (om, .inl (cI, 9, .inl fb)), (oh, .inl (cI, 10000, .inl fc)), (ok_, .inl (cI, 166400, .inl fk)), (oK, .inl (cI, 64, .inl fK)), (og, .inl (cI, 32, .inl fs)), (on_, .inl (cI, 32, .inl fn))] H := hP.sub [0, 1, 2, 3, 4, 5, 6, 7] rfl
            have hD9 : va_D A [(mo, .inr (8, [.int (iZ 4), .int (iZ (np : Int)), .ref ow, .ref om, .ref ok_, .ref oK, .ref og, .ref on_, .ref oh, .ref ox, .int qn, .int qf, .ref op_, .int ql])), (ow, .inl (cI, 108000, .inl fa)), (om, .inl (cI, 9, .inl fb)), (oh, .inl (cI, 10000, .inl fc)), (ok_, .inl (cI, 166400, .inl fk)), (oK, .inl (cI, 64, .inl fK)), (og, .inl (cI, 32, .inl fs)), (on_, .inl (cI, 32, .inl fn))] := hD.sub [0, 1, 2, 3, 4, 5, 6, 7] (by decide) rfl
            rw [hQ, ← hAe]
            refine r_i (v := (iZ 0)) K (fa, fb, fc, v9) hS d_Mo_power_201 ?_ (fun t ht hv => ?_)
            · exact ⟨rfl, w9⟩
            · exact ⟨by rw [ht]; exact hP9, va_K.moved hv hK, by rw [← hAe]; exact hD9⟩
        · refine lv_iconst (v := iZ (4)) hx hb d_Mo_power_150 (by decide +kernel) ?_
          refine lv_goto (tgt := 155) hx hb d_Mo_power_151 (by decide) ?_
          refine cv (n := 1) (wr := [(og, .inl (cI, 32, .inl fs)), (on_, .inl (cI, 32, .inl fn)), (ok_, .inl (cI, 166400, .inl fk)), (oK, .inl (cI, 64, .inl fK)), (ow, .inl (cI, 108000, .inl fx4)), (om, .inl (cI, 9, .inl fy4)), (oh, .inl (cI, 10000, .inl fh4))]) (w1 := (fun (u : Int) => [(mo, .inr (8, [.int (iZ 4), .int (iZ (np : Int)), .ref ow, .ref om, .ref ok_, .ref oK, .ref og, .ref on_, .ref oh, .ref ox, .int qn, .int qf, .ref op_, .int ql]))])) (As := [.int (iZ 4)]) (rest := []) K hP hD hK hS hA hl.1 (c_Mo_refuses l D mo (iZ 0) np ow om ok_ oK og on_ oh ox qn qf op_ ql 4 H.size (by omega)) [4] [0, 1, 2, 3, 5, 6, 7] [] rfl rfl rfl (by decide) (by decide) (by decide) 0 rfl rfl (big_in mw_1176 rfl) (big_in mw_10 rfl) (big_in mw_1173 rfl) (big_in mw_1175 rfl) (big_in sp_18 rfl) rfl rfl (by decide +kernel) ⟨by rw [hR]; exact Nat.le_of_ble_eq_true rfl, by rw [hR]; exact Nat.le_of_ble_eq_true rfl⟩ rfl (Nat.le_of_ble_eq_true rfl) d_Mo_power_155 ⟨by rw [hR]; exact Nat.le_of_ble_eq_true rfl, by rw [hR]; exact Nat.le_of_ble_eq_true rfl⟩ rfl (fun v u H locs hp17 hP hD hS _ => ?_)
          obtain ⟨rf2, rfl⟩ : ∃ z, z = u := ⟨_, rfl⟩
          obtain ⟨rfl, prf2⟩ := hp17
          have hP : va_P D cls0 [(og, .inl (cI, 32, .inl fs)), (on_, .inl (cI, 32, .inl fn)), (ok_, .inl (cI, 166400, .inl fk)), (oK, .inl (cI, 64, .inl fK)), (ow, .inl (cI, 108000, .inl fx4)), (om, .inl (cI, 9, .inl fy4)), (oh, .inl (cI, 10000, .inl fh4)), (mo, .inr (8, [.int (iZ 4), .int (iZ (np : Int)), .ref ow, .ref om, .ref ok_, .ref oK, .ref og, .ref on_, .ref oh, .ref ox, .int qn, .int qf, .ref op_, .int ql]))] H := hP
          have hD : va_D A [(og, .inl (cI, 32, .inl fs)), (on_, .inl (cI, 32, .inl fn)), (ok_, .inl (cI, 166400, .inl fk)), (oK, .inl (cI, 64, .inl fK)), (ow, .inl (cI, 108000, .inl fx4)), (om, .inl (cI, 9, .inl fy4)), (oh, .inl (cI, 10000, .inl fh4)), (mo, .inr (8, [.int (iZ 4), .int (iZ (np : Int)), .ref ow, .ref om, .ref ok_, .ref oK, .ref og, .ref on_, .ref oh, .ref ox, .int qn, .int qf, .ref op_, .int ql]))] := hD
          show W p l e R s m args below meth c H locs _ _ Q (F0 m 158 ls [.int (iZ rf2)])
          refine zz_if_eq (tgt := 163) hx hb d_Mo_power_158 (by decide) (by omega) (fun c158 => False.elim (by omega)) (fun c158 => ?_)
          refine lv_iconst (v := iZ (0)) hx hb d_Mo_power_161 (by decide +kernel) ?_
          have hP9 : va_P D cls0 [(mo, .inr (8, [.int (iZ 4), .int (iZ (np : Int)), .ref ow, .ref om, .ref ok_, .ref oK, .ref og, .ref on_, .ref oh, .ref ox, .int qn, .int qf, .ref op_, .int ql])), (ow, .inl (cI, 108000, .inl fx4)), (om, .inl (cI, 9, .inl fy4)), (oh, .inl (cI, 10000, .inl fh4)), (ok_, .inl (cI, 166400, .inl fk)), (oK, .inl (cI, 64, .inl fK)), (og, .inl (cI, 32, .inl fs)), (on_, .inl (cI, 32, .inl fn))] H := hP.sub [7, 4, 5, 6, 2, 3, 0, 1] rfl
          have hD9 : va_D A [(mo, .inr (8, [.int (iZ 4), .int (iZ (np : Int)), .ref ow, .ref om, .ref ok_, .ref oK, .ref og, .ref on_, .ref oh, .ref ox, .int qn, .int qf, .ref op_, .int ql])), (ow, .inl (cI, 108000, .inl fx4)), (om, .inl (cI, 9, .inl fy4)), (oh, .inl (cI, 10000, .inl fh4)), (ok_, .inl (cI, 166400, .inl fk)), (oK, .inl (cI, 64, .inl fK)), (og, .inl (cI, 32, .inl fs)), (on_, .inl (cI, 32, .inl fn))] := hD.sub [7, 4, 5, 6, 2, 3, 0, 1] (by decide) rfl
          rw [hQ, ← hAe]
          refine r_i (v := (iZ 0)) K (fx4, fy4, fh4, v4) hS d_Mo_power_162 ?_ (fun t ht hv => ?_)
          · exact ⟨rfl, w4⟩
          · exact ⟨by rw [ht]; exact hP9, va_K.moved hv hK, by rw [← hAe]; exact hD9⟩
    · refine lv_iconst (v := iZ (1)) hx hb d_Mo_power_15 (by decide +kernel) ?_
      refine lv_goto (tgt := 55) hx hb d_Mo_power_16 (by decide) ?_
      exfalso
      omega
set_option maxHeartbeats 4000000 in
set_option maxRecDepth 100000 in
/-- power(to, a, n) -/
theorem c_Mo_powerDn (l : Launch) (D : va_G) (mo : Nat) (qc : Int32) (np : Nat) (ow : Nat) (om : Nat) (ok_ : Nat) (oK : Nat) (og : Nat) (on_ : Nat) (oh : Nat) (ox : Nat) (qn : Int32) (qf : Int32) (op_ : Nat) (ql : Int32) (fw : Nat → Int32) (fm : Nat → Int32) (cI : ClassId) (fh : Nat → Int32) (fk : Nat → Int32) (fK : Nat → Int32) (fs : Nat → Int32) (fn : Nat → Int32) (val : Nat → Nat) (tv : Nat → Nat) (bv : Nat → Nat) (sg : Nat → Int) (to : Nat) (a : Nat) (tm : Nat) (sz : Nat) (hW : WB fw fm val) (hMR : MoR fk fK fs fn tv bv sg) (hnd : ndS tv bv 32 ≤ np) (hnp : np ≤ 1024) (J : RgC tv bv sg) (hbv : ∀ r, r < 32 → 0 < bv r) (t1 : to < 32) (t2 : a < 32) (htm : tm ≤ 1000) (hs0 : sg a ≠ 0) (htm0 : 0 < tm) (hfit : ndS tv bv 32 + (lm ((bv a) ^ tm) + lm ((tv a) ^ tm)) ≤ np + (lm (tv to) + lm (bv to))) : Met l y_Mo_power (wsB y_Mo_power b_Mo_power 7 (some .int)) ({ frames := 4, cells := 0, slots := 0, locals := 93 }) (va_Pc [.ref mo, .int (iZ (to : Int)), .int (iZ (a : Int)), .int (iZ (-(tm : Int)))] (wPre D [(cI, .int)] [(mo, .inr (8, [.int qc, .int (iZ (np : Int)), .ref ow, .ref om, .ref ok_, .ref oK, .ref og, .ref on_, .ref oh, .ref ox, .int qn, .int qf, .ref op_, .int ql])), (ow, .inl (cI, 108000, .inl fw)), (om, .inl (cI, 9, .inl fm)), (oh, .inl (cI, 10000, .inl fh)), (ok_, .inl (cI, 166400, .inl fk)), (oK, .inl (cI, 64, .inl fK)), (og, .inl (cI, 32, .inl fs)), (on_, .inl (cI, 32, .inl fn))] sz)) (va_QV (fun (v_9 : Option Value) (u_9 : (Nat → Int32) × (Nat → Int32) × (Nat → Int32) × (Nat → Int32) × (Nat → Int32) × (Nat → Int32) × (Nat → Int32) × (Nat → Nat)) => v_9 = some (.int (iZ ((lm ((bv a) ^ tm) : Int) + (lm ((tv a) ^ tm) : Int)))) ∧ (WB u_9.1 u_9.2.1 u_9.2.2.2.2.2.2.2) ∧ (MoR u_9.2.2.2.1 u_9.2.2.2.2.1 u_9.2.2.2.2.2.1 u_9.2.2.2.2.2.2.1 (up tv to ((bv a) ^ tm)) (up bv to ((tv a) ^ tm)) (up sg to (if (bv a) ^ tm = 0 then 0 else (if tm % 2 = 1 then sg a else 1))))) (fun u_9 => wPost D [(cI, .int)] [(mo, .inr (8, [.int qc, .int (iZ (np : Int)), .ref ow, .ref om, .ref ok_, .ref oK, .ref og, .ref on_, .ref oh, .ref ox, .int qn, .int qf, .ref op_, .int ql])), (ow, .inl (cI, 108000, .inl fw)), (om, .inl (cI, 9, .inl fm)), (oh, .inl (cI, 10000, .inl fh)), (ok_, .inl (cI, 166400, .inl fk)), (oK, .inl (cI, 64, .inl fK)), (og, .inl (cI, 32, .inl fs)), (on_, .inl (cI, 32, .inl fn))] [(mo, .inr (8, [.int (iZ 0), .int (iZ (np : Int)), .ref ow, .ref om, .ref ok_, .ref oK, .ref og, .ref on_, .ref oh, .ref ox, .int qn, .int qf, .ref op_, .int ql])), (ow, .inl (cI, 108000, .inl u_9.1)), (om, .inl (cI, 9, .inl u_9.2.1)), (oh, .inl (cI, 10000, .inl u_9.2.2.1)), (ok_, .inl (cI, 166400, .inl u_9.2.2.2.1)), (oK, .inl (cI, 64, .inl u_9.2.2.2.2.1)), (og, .inl (cI, 32, .inl u_9.2.2.2.2.2.1)), (on_, .inl (cI, 32, .inl u_9.2.2.2.2.2.2.1))] sz) (va_A [(mo, .inr (8, [.int qc, .int (iZ (np : Int)), .ref ow, .ref om, .ref ok_, .ref oK, .ref og, .ref on_, .ref oh, .ref ox, .int qn, .int qf, .ref op_, .int ql])), (ow, .inl (cI, 108000, .inl fw)), (om, .inl (cI, 9, .inl fm)), (oh, .inl (cI, 10000, .inl fh)), (ok_, .inl (cI, 166400, .inl fk)), (oK, .inl (cI, 64, .inl fK)), (og, .inl (cI, 32, .inl fs)), (on_, .inl (cI, 32, .inl fn))] sz)) 0 0 (va_A [(mo, .inr (8, [.int qc, .int (iZ (np : Int)), .ref ow, .ref om, .ref ok_, .ref oK, .ref og, .ref on_, .ref oh, .ref ox, .int qn, .int qf, .ref op_, .int ql])), (ow, .inl (cI, 108000, .inl fw)), (om, .inl (cI, 9, .inl fm)), (oh, .inl (cI, 10000, .inl fh)), (ok_, .inl (cI, 166400, .inl fk)), (oK, .inl (cI, 64, .inl fK)), (og, .inl (cI, 32, .inl fs)), (on_, .inl (cI, 32, .inl fn))] sz) := by
  refine met_enter (by decide +kernel) (Nat.le_of_ble_eq_true rfl) ?_
  intro p e s m args below meth c ls A R Q H locs K hin hAe hA hR hQ hP hK hD hS hl
  obtain ⟨hx, hb, hml, hrt, hlk, hts, hown, hno⟩ := id K
  have hl : lv_has ls 7 [(0, .ref mo), (1, .int (iZ (to : Int))), (2, .int (iZ (a : Int))), (3, .int (iZ (-(tm : Int))))] := hl
  have hlr : ∀ q, q < 32 → lm (tv q) + lm (bv q) ≤ 1024 := fun q hq => by have z := ndS_le (tv := tv) (bv := bv) hq; omega
  have hnt : ∀ q, q < 32 → nd (tv q) ≤ 2600 := fun q hq => by have z := nd_lm (v := tv q) (L := 1024) (by have y := hlr q hq; omega); omega
  have hnb : ∀ q, q < 32 → nd (bv q) ≤ 2600 := fun q hq => by have z := nd_lm (v := bv q) (L := 1024) (by have y := hlr q hq; omega); omega
  obtain ⟨ja1, ja2, ja3⟩ := J a (by omega)
  have pa := hbv a (by omega)
  have la := hlr a (by omega)
  have n1 := hnt a (by omega)
  have n2 := hnb a (by omega)
  have bb1 := bl_le_lm (tv a)
  have bb2 := bl_le_lm (bv a)
  have lto := ndS_le (tv := tv) (bv := bv) t1
  refine lv_aload_n hx hb d_Mo_power_0 rfl (lv_at hl 0 rfl) ?_
  refine lv_iload_n hx hb d_Mo_power_1 rfl (lv_at hl 1 rfl) ?_
  refine cs (n := 1) (wr := [(mo, .inr (8, [.int qc, .int (iZ (np : Int)), .ref ow, .ref om, .ref ok_, .ref oK, .ref og, .ref on_, .ref oh, .ref ox, .int qn, .int qf, .ref op_, .int ql])), (ow, .inl (cI, 108000, .inl fw)), (om, .inl (cI, 9, .inl fm)), (oh, .inl (cI, 10000, .inl fh)), (ok_, .inl (cI, 166400, .inl fk)), (oK, .inl (cI, 64, .inl fK)), (og, .inl (cI, 32, .inl fs)), (on_, .inl (cI, 32, .inl fn))]) (w1 := (fun (u : Int) => [])) (As := [.int (iZ (to : Int))]) (rest := [.ref mo]) K hP hD hK hS hA hl.1 (c_Mo_isRegister l D (to : Int) H.size (by omega)) [] [0, 1, 2, 3, 4, 5, 6, 7] [] rfl rfl rfl (by decide) (by decide) (by decide) (big_in mw_1172 rfl) (big_in mw_10 rfl) (big_in mw_1170 rfl) (big_in mw_1171 rfl) rfl rfl (by decide +kernel) ⟨by rw [hR]; exact Nat.le_of_ble_eq_true rfl, by rw [hR]; exact Nat.le_of_ble_eq_true rfl⟩ rfl (Nat.le_of_ble_eq_true rfl) d_Mo_power_2 ⟨by rw [hR]; exact Nat.le_of_ble_eq_true rfl, by rw [hR]; exact Nat.le_of_ble_eq_true rfl⟩ rfl (fun v u H locs hp1 hP hD hS _ => ?_)
  obtain ⟨r2, rfl⟩ : ∃ z, z = u := ⟨_, rfl⟩
  obtain ⟨rfl, p2⟩ := hp1
  have hP : va_P D cls0 [(mo, .inr (8, [.int qc, .int (iZ (np : Int)), .ref ow, .ref om, .ref ok_, .ref oK, .ref og, .ref on_, .ref oh, .ref ox, .int qn, .int qf, .ref op_, .int ql])), (ow, .inl (cI, 108000, .inl fw)), (om, .inl (cI, 9, .inl fm)), (oh, .inl (cI, 10000, .inl fh)), (ok_, .inl (cI, 166400, .inl fk)), (oK, .inl (cI, 64, .inl fK)), (og, .inl (cI, 32, .inl fs)), (on_, .inl (cI, 32, .inl fn))] H := hP
  have hD : va_D A [(mo, .inr (8, [.int qc, .int (iZ (np : Int)), .ref ow, .ref om, .ref ok_, .ref oK, .ref og, .ref on_, .ref oh, .ref ox, .int qn, .int qf, .ref op_, .int ql])), (ow, .inl (cI, 108000, .inl fw)), (om, .inl (cI, 9, .inl fm)), (oh, .inl (cI, 10000, .inl fh)), (ok_, .inl (cI, 166400, .inl fk)), (oK, .inl (cI, 64, .inl fK)), (og, .inl (cI, 32, .inl fs)), (on_, .inl (cI, 32, .inl fn))] := hD
  show W p l e R s m args below meth c H locs _ _ Q (F0 m 5 ls [.int (iZ r2), .ref mo])
  have b2 : 0 ≤ r2 ∧ r2 ≤ 1 := by omega
  refine zz_if_eq (tgt := 15) hx hb d_Mo_power_5 (by decide) (by omega) (fun c5 => ?_) (fun c5 => ?_)
  · refine lv_iconst (v := iZ (1)) hx hb d_Mo_power_15 (by decide +kernel) ?_
    refine lv_goto (tgt := 55) hx hb d_Mo_power_16 (by decide) ?_
    exfalso
    omega
  · refine lv_iload_n hx hb d_Mo_power_8 rfl (lv_at hl 2 rfl) ?_
    refine cs (n := 1) (wr := [(mo, .inr (8, [.int qc, .int (iZ (np : Int)), .ref ow, .ref om, .ref ok_, .ref oK, .ref og, .ref on_, .ref oh, .ref ox, .int qn, .int qf, .ref op_, .int ql])), (ow, .inl (cI, 108000, .inl fw)), (om, .inl (cI, 9, .inl fm)), (oh, .inl (cI, 10000, .inl fh)), (ok_, .inl (cI, 166400, .inl fk)), (oK, .inl (cI, 64, .inl fK)), (og, .inl (cI, 32, .inl fs)), (on_, .inl (cI, 32, .inl fn))]) (w1 := (fun (u : Int) => [])) (As := [.int (iZ (a : Int))]) (rest := [.ref mo]) K hP hD hK hS hA hl.1 (c_Mo_isRegister l D (a : Int) H.size (by omega)) [] [0, 1, 2, 3, 4, 5, 6, 7] [] rfl rfl rfl (by decide) (by decide) (by decide) (big_in mw_1172 rfl) (big_in mw_10 rfl) (big_in mw_1170 rfl) (big_in mw_1171 rfl) rfl rfl (by decide +kernel) ⟨by rw [hR]; exact Nat.le_of_ble_eq_true rfl, by rw [hR]; exact Nat.le_of_ble_eq_true rfl⟩ rfl (Nat.le_of_ble_eq_true rfl) d_Mo_power_9 ⟨by rw [hR]; exact Nat.le_of_ble_eq_true rfl, by rw [hR]; exact Nat.le_of_ble_eq_true rfl⟩ rfl (fun v u H locs hp2 hP hD hS _ => ?_)
    obtain ⟨r9, rfl⟩ : ∃ z, z = u := ⟨_, rfl⟩
    obtain ⟨rfl, p9⟩ := hp2
    have hP : va_P D cls0 [(mo, .inr (8, [.int qc, .int (iZ (np : Int)), .ref ow, .ref om, .ref ok_, .ref oK, .ref og, .ref on_, .ref oh, .ref ox, .int qn, .int qf, .ref op_, .int ql])), (ow, .inl (cI, 108000, .inl fw)), (om, .inl (cI, 9, .inl fm)), (oh, .inl (cI, 10000, .inl fh)), (ok_, .inl (cI, 166400, .inl fk)), (oK, .inl (cI, 64, .inl fK)), (og, .inl (cI, 32, .inl fs)), (on_, .inl (cI, 32, .inl fn))] H := hP
    have hD : va_D A [(mo, .inr (8, [.int qc, .int (iZ (np : Int)), .ref ow, .ref om, .ref ok_, .ref oK, .ref og, .ref on_, .ref oh, .ref ox, .int qn, .int qf, .ref op_, .int ql])), (ow, .inl (cI, 108000, .inl fw)), (om, .inl (cI, 9, .inl fm)), (oh, .inl (cI, 10000, .inl fh)), (ok_, .inl (cI, 166400, .inl fk)), (oK, .inl (cI, 64, .inl fK)), (og, .inl (cI, 32, .inl fs)), (on_, .inl (cI, 32, .inl fn))] := hD
    show W p l e R s m args below meth c H locs _ _ Q (F0 m 12 ls [.int (iZ r9), .ref mo])
    have b9 : 0 ≤ r9 ∧ r9 ≤ 1 := by omega
    refine zz_if_ne (tgt := 19) hx hb d_Mo_power_12 (by decide) (by omega) (fun c12 => ?_) (fun c12 => ?_)
    · refine lv_iload_n hx hb d_Mo_power_19 rfl (lv_at hl 3 rfl) ?_
      refine lv_sipush (v := iZ (-1000)) hx hb d_Mo_power_20 (by decide +kernel) ?_
      refine zz_icmp_lt (tgt := 33) hx hb d_Mo_power_23 (by decide) (by omega) (by omega) (fun c23 => False.elim (by omega)) (fun c23 => ?_)
      refine lv_iload_n hx hb d_Mo_power_26 rfl (lv_at hl 3 rfl) ?_
      refine lv_sipush (v := iZ (1000)) hx hb d_Mo_power_27 (by decide +kernel) ?_
      refine zz_icmp_le (tgt := 37) hx hb d_Mo_power_30 (by decide) (by omega) (by omega) (fun c30 => ?_) (fun c30 => False.elim (by omega))
      refine lv_iload_n hx hb d_Mo_power_37 rfl (lv_at hl 3 rfl) ?_
      refine zz_if_ge (tgt := 54) hx hb d_Mo_power_38 (by decide) (by omega) (fun c38 => False.elim (by omega)) (fun c38 => ?_)
      refine lv_aload_n hx hb d_Mo_power_41 rfl (lv_at hl 0 rfl) ?_
      refine va_get (D := D) (ci := 8) (v := .ref og) (C := R_Mo) (T := F_Mo) (N := 14) hx hb hts i_Mo hown hK hP 0 rfl rfl 6 (by decide) (hts _ (big_in mw_1121 rfl)) (fun _ h9 => h9) rfl d_Mo_power_42 ?_
      refine lv_iload_n hx hb d_Mo_power_45 rfl (lv_at hl 2 rfl) ?_
      refine zz_iald hx hb hK hP 6 0 rfl rfl (a) (by omega) (by omega) (by omega) d_Mo_power_46 ?_
      rw [hMR.2.1 a (by omega)]
      refine zz_if_ne (tgt := 54) hx hb d_Mo_power_47 (by decide) (by omega) (fun c47 => ?_) (fun c47 => False.elim (by omega))
      refine lv_iconst (v := iZ (0)) hx hb d_Mo_power_54 (by decide +kernel) ?_
      refine cv (n := 1) (wr := [(ow, .inl (cI, 108000, .inl fw)), (om, .inl (cI, 9, .inl fm)), (oh, .inl (cI, 10000, .inl fh)), (ok_, .inl (cI, 166400, .inl fk)), (oK, .inl (cI, 64, .inl fK)), (og, .inl (cI, 32, .inl fs)), (on_, .inl (cI, 32, .inl fn))]) (w1 := (fun (u : Int) => [(mo, .inr (8, [.int (iZ 0), .int (iZ (np : Int)), .ref ow, .ref om, .ref ok_, .ref oK, .ref og, .ref on_, .ref oh, .ref ox, .int qn, .int qf, .ref op_, .int ql]))])) (As := [.int (iZ 0)]) (rest := []) K hP hD hK hS hA hl.1 (c_Mo_refuses l D mo qc np ow om ok_ oK og on_ oh ox qn qf op_ ql 0 H.size (by omega)) [0] [1, 2, 3, 4, 5, 6, 7] [] rfl rfl rfl (by decide) (by decide) (by decide) 0 rfl rfl (big_in mw_1176 rfl) (big_in mw_10 rfl) (big_in mw_1173 rfl) (big_in mw_1175 rfl) (big_in sp_18 rfl) rfl rfl (by decide +kernel) ⟨by rw [hR]; exact Nat.le_of_ble_eq_true rfl, by rw [hR]; exact Nat.le_of_ble_eq_true rfl⟩ rfl (Nat.le_of_ble_eq_true rfl) d_Mo_power_55 ⟨by rw [hR]; exact Nat.le_of_ble_eq_true rfl, by rw [hR]; exact Nat.le_of_ble_eq_true rfl⟩ rfl (fun v u H locs hp3 hP hD hS _ => ?_)
      obtain ⟨rf, rfl⟩ : ∃ z, z = u := ⟨_, rfl⟩
      obtain ⟨rfl, prf⟩ := hp3
      have hP : va_P D cls0 [(ow, .inl (cI, 108000, .inl fw)), (om, .inl (cI, 9, .inl fm)), (oh, .inl (cI, 10000, .inl fh)), (ok_, .inl (cI, 166400, .inl fk)), (oK, .inl (cI, 64, .inl fK)), (og, .inl (cI, 32, .inl fs)), (on_, .inl (cI, 32, .inl fn)), (mo, .inr (8, [.int (iZ 0), .int (iZ (np : Int)), .ref ow, .ref om, .ref ok_, .ref oK, .ref og, .ref on_, .ref oh, .ref ox, .int qn, .int qf, .ref op_, .int ql]))] H := hP
      have hD : va_D A [(ow, .inl (cI, 108000, .inl fw)), (om, .inl (cI, 9, .inl fm)), (oh, .inl (cI, 10000, .inl fh)), (ok_, .inl (cI, 166400, .inl fk)), (oK, .inl (cI, 64, .inl fK)), (og, .inl (cI, 32, .inl fs)), (on_, .inl (cI, 32, .inl fn)), (mo, .inr (8, [.int (iZ 0), .int (iZ (np : Int)), .ref ow, .ref om, .ref ok_, .ref oK, .ref og, .ref on_, .ref oh, .ref ox, .int qn, .int qf, .ref op_, .int ql]))] := hD
      show W p l e R s m args below meth c H locs _ _ Q (F0 m 58 ls [.int (iZ rf)])
      refine zz_if_eq (tgt := 63) hx hb d_Mo_power_58 (by decide) (by omega) (fun c58 => ?_) (fun c58 => False.elim (by omega))
      refine lv_iload_n hx hb d_Mo_power_63 rfl (lv_at hl 3 rfl) ?_
      refine zz_if_ge (tgt := 72) hx hb d_Mo_power_64 (by decide) (by omega) (fun c64 => False.elim (by omega)) (fun c64 => ?_)
      refine lv_iload_n hx hb d_Mo_power_67 rfl (lv_at hl 3 rfl) ?_
      refine zz_ineg hx hb d_Mo_power_68 ?_
      refine lv_goto (tgt := 73) hx hb d_Mo_power_69 (by decide) ?_
      refine lv_istore (lv' := [(4, .int (iZ (-(-(tm : Int))))), (0, .ref mo), (1, .int (iZ (to : Int))), (2, .int (iZ (a : Int))), (3, .int (iZ (-(tm : Int))))]) hx hb d_Mo_power_73 hl (by decide) rfl (fun ls hl => ?_)
      refine lv_aload_n hx hb d_Mo_power_75 rfl (lv_at hl 1 rfl) ?_
      refine lv_iconst (v := iZ (0)) hx hb d_Mo_power_76 (by decide +kernel) ?_
      refine lv_iconst (v := iZ (2)) hx hb d_Mo_power_77 (by decide +kernel) ?_
      refine lv_iload_n hx hb d_Mo_power_78 rfl (lv_at hl 3 rfl) ?_
      refine zz_imul hx hb d_Mo_power_79 ?_
      refine lv_iload_n hx hb d_Mo_power_80 rfl (lv_at hl 4 rfl) ?_
      refine zz_if_ge (tgt := 88) hx hb d_Mo_power_81 (by decide) (by omega) (fun c81 => False.elim (by omega)) (fun c81 => ?_)
      refine lv_iconst (v := iZ (1)) hx hb d_Mo_power_84 (by decide +kernel) ?_
      refine lv_goto (tgt := 89) hx hb d_Mo_power_85 (by decide) ?_
      refine zz_iadd hx hb d_Mo_power_89 ?_
      rw [show (2 * (a : Int) + 1 : Int) = ((2 * a + 1 : Nat) : Int) by omega]
      refine cv (n := 2) (wr := [(oh, .inl (cI, 10000, .inl fh)), (og, .inl (cI, 32, .inl fs)), (on_, .inl (cI, 32, .inl fn))]) (w1 := (fun (u : (Nat → Int32) × (Nat → Int32)) => [(mo, .inr (8, [.int (iZ 0), .int (iZ (np : Int)), .ref ow, .ref om, .ref ok_, .ref oK, .ref og, .ref on_, .ref oh, .ref ox, .int qn, .int qf, .ref op_, .int ql])), (ow, .inl (cI, 108000, .inl u.1)), (om, .inl (cI, 9, .inl u.2)), (ok_, .inl (cI, 166400, .inl fk)), (oK, .inl (cI, 64, .inl fK))])) (As := [.int (iZ 0), .int (iZ ((2 * a + 1 : Nat) : Int))]) (rest := []) K hP hD hK hS hA hl.1 (c_Mo_load l D mo (iZ 0) np ow om ok_ oK og on_ oh ox qn qf op_ ql fw fm cI fk fK val (kvf tv bv) 0 (2 * a + 1) H.size hW hMR.1 (by decide) (by omega)) [7, 0, 1, 3, 4] [2, 5, 6] [0] rfl rfl rfl (by decide) (by decide) (by decide) 0 rfl rfl (big_in mw_1238 rfl) (big_in mw_10 rfl) (big_in mw_1235 rfl) (big_in mw_1237 rfl) (big_in sp_31 rfl) rfl rfl (by decide +kernel) ⟨by rw [hR]; exact Nat.le_of_ble_eq_true rfl, by rw [hR]; exact Nat.le_of_ble_eq_true rfl⟩ rfl (Nat.le_of_ble_eq_true rfl) d_Mo_power_90 ⟨by rw [hR]; exact Nat.le_of_ble_eq_true rfl, by rw [hR]; exact Nat.le_of_ble_eq_true rfl⟩ rfl (fun v u H locs hp4 hP hD hS _ => ?_)
      obtain ⟨fx1, fy1⟩ := u
      try dsimp only at hp4
      obtain ⟨rfl, w1⟩ := hp4
      have hP : va_P D cls0 [(oh, .inl (cI, 10000, .inl fh)), (og, .inl (cI, 32, .inl fs)), (on_, .inl (cI, 32, .inl fn)), (mo, .inr (8, [.int (iZ 0), .int (iZ (np : Int)), .ref ow, .ref om, .ref ok_, .ref oK, .ref og, .ref on_, .ref oh, .ref ox, .int qn, .int qf, .ref op_, .int ql])), (ow, .inl (cI, 108000, .inl fx1)), (om, .inl (cI, 9, .inl fy1)), (ok_, .inl (cI, 166400, .inl fk)), (oK, .inl (cI, 64, .inl fK))] H := hP
      have hD : va_D A [(oh, .inl (cI, 10000, .inl fh)), (og, .inl (cI, 32, .inl fs)), (on_, .inl (cI, 32, .inl fn)), (mo, .inr (8, [.int (iZ 0), .int (iZ (np : Int)), .ref ow, .ref om, .ref ok_, .ref oK, .ref og, .ref on_, .ref oh, .ref ox, .int qn, .int qf, .ref op_, .int ql])), (ow, .inl (cI, 108000, .inl fx1)), (om, .inl (cI, 9, .inl fy1)), (ok_, .inl (cI, 166400, .inl fk)), (oK, .inl (cI, 64, .inl fK))] := hD
      show W p l e R s m args below meth c H locs _ _ Q (F0 m 93 ls [])
      rw [kvf_1] at w1
      obtain ⟨v1, hv1⟩ : ∃ z, z = up val 0 (bv a) := ⟨_, rfl⟩
      rw [← hv1] at w1
      refine lv_aload_n hx hb d_Mo_power_93 rfl (lv_at hl 1 rfl) ?_
      refine lv_iconst (v := iZ (1)) hx hb d_Mo_power_94 (by decide +kernel) ?_
      refine lv_iconst (v := iZ (2)) hx hb d_Mo_power_95 (by decide +kernel) ?_
      refine lv_iload_n hx hb d_Mo_power_96 rfl (lv_at hl 3 rfl) ?_
      refine zz_imul hx hb d_Mo_power_97 ?_
      refine lv_iload_n hx hb d_Mo_power_98 rfl (lv_at hl 4 rfl) ?_
      refine zz_if_ge (tgt := 106) hx hb d_Mo_power_99 (by decide) (by omega) (fun c99 => False.elim (by omega)) (fun c99 => ?_)
      refine lv_iconst (v := iZ (0)) hx hb d_Mo_power_102 (by decide +kernel) ?_
      refine lv_goto (tgt := 107) hx hb d_Mo_power_103 (by decide) ?_
      refine zz_iadd hx hb d_Mo_power_107 ?_
      rw [show (2 * (a : Int) + 0 : Int) = ((2 * a : Nat) : Int) by omega]
      refine cv (n := 2) (wr := [(oh, .inl (cI, 10000, .inl fh)), (og, .inl (cI, 32, .inl fs)), (on_, .inl (cI, 32, .inl fn))]) (w1 := (fun (u : (Nat → Int32) × (Nat → Int32)) => [(mo, .inr (8, [.int (iZ 0), .int (iZ (np : Int)), .ref ow, .ref om, .ref ok_, .ref oK, .ref og, .ref on_, .ref oh, .ref ox, .int qn, .int qf, .ref op_, .int ql])), (ow, .inl (cI, 108000, .inl u.1)), (om, .inl (cI, 9, .inl u.2)), (ok_, .inl (cI, 166400, .inl fk)), (oK, .inl (cI, 64, .inl fK))])) (As := [.int (iZ 1), .int (iZ ((2 * a : Nat) : Int))]) (rest := []) K hP hD hK hS hA hl.1 (c_Mo_load l D mo (iZ 0) np ow om ok_ oK og on_ oh ox qn qf op_ ql fx1 fy1 cI fk fK v1 (kvf tv bv) 1 (2 * a) H.size w1 hMR.1 (by decide) (by omega)) [3, 4, 5, 6, 7] [0, 1, 2] [0] rfl rfl rfl (by decide) (by decide) (by decide) 0 rfl rfl (big_in mw_1238 rfl) (big_in mw_10 rfl) (big_in mw_1235 rfl) (big_in mw_1237 rfl) (big_in sp_31 rfl) rfl rfl (by decide +kernel) ⟨by rw [hR]; exact Nat.le_of_ble_eq_true rfl, by rw [hR]; exact Nat.le_of_ble_eq_true rfl⟩ rfl (Nat.le_of_ble_eq_true rfl) d_Mo_power_108 ⟨by rw [hR]; exact Nat.le_of_ble_eq_true rfl, by rw [hR]; exact Nat.le_of_ble_eq_true rfl⟩ rfl (fun v u H locs hp5 hP hD hS _ => ?_)
      obtain ⟨fx2, fy2⟩ := u
      try dsimp only at hp5
      obtain ⟨rfl, w2⟩ := hp5
      have hP : va_P D cls0 [(oh, .inl (cI, 10000, .inl fh)), (og, .inl (cI, 32, .inl fs)), (on_, .inl (cI, 32, .inl fn)), (mo, .inr (8, [.int (iZ 0), .int (iZ (np : Int)), .ref ow, .ref om, .ref ok_, .ref oK, .ref og, .ref on_, .ref oh, .ref ox, .int qn, .int qf, .ref op_, .int ql])), (ow, .inl (cI, 108000, .inl fx2)), (om, .inl (cI, 9, .inl fy2)), (ok_, .inl (cI, 166400, .inl fk)), (oK, .inl (cI, 64, .inl fK))] H := hP
      have hD : va_D A [(oh, .inl (cI, 10000, .inl fh)), (og, .inl (cI, 32, .inl fs)), (on_, .inl (cI, 32, .inl fn)), (mo, .inr (8, [.int (iZ 0), .int (iZ (np : Int)), .ref ow, .ref om, .ref ok_, .ref oK, .ref og, .ref on_, .ref oh, .ref ox, .int qn, .int qf, .ref op_, .int ql])), (ow, .inl (cI, 108000, .inl fx2)), (om, .inl (cI, 9, .inl fy2)), (ok_, .inl (cI, 166400, .inl fk)), (oK, .inl (cI, 64, .inl fK))] := hD
      show W p l e R s m args below meth c H locs _ _ Q (F0 m 111 ls [])
      rw [kvf_0] at w2
      obtain ⟨v2, hv2⟩ : ∃ z, z = up v1 1 (tv a) := ⟨_, rfl⟩
      rw [← hv2] at w2
      have e0 : v2 0 = bv a := by rw [hv2, up_n (by decide), hv1, up_s]
      have e1 : v2 1 = tv a := by rw [hv2, up_s]
      refine lv_iload hx hb d_Mo_power_111 (lv_at hl 0 rfl) ?_
      refine zz_i2l hx hb d_Mo_power_113 (by omega) ?_
      refine lv_aload_n hx hb d_Mo_power_114 rfl (lv_at hl 1 rfl) ?_
      refine lv_iconst (v := iZ (0)) hx hb d_Mo_power_115 (by decide +kernel) ?_
      refine cv (n := 1) (wr := [(og, .inl (cI, 32, .inl fs)), (on_, .inl (cI, 32, .inl fn)), (ok_, .inl (cI, 166400, .inl fk)), (oK, .inl (cI, 64, .inl fK))]) (w1 := (fun (u : Int × (Nat → Int32) × (Nat → Int32) × (Nat → Int32)) => [(mo, .inr (8, [.int (iZ 0), .int (iZ (np : Int)), .ref ow, .ref om, .ref ok_, .ref oK, .ref og, .ref on_, .ref oh, .ref ox, .int qn, .int qf, .ref op_, .int ql])), (ow, .inl (cI, 108000, .inl u.2.1)), (om, .inl (cI, 9, .inl u.2.2.1)), (oh, .inl (cI, 10000, .inl u.2.2.2))])) (As := [.int (iZ 0)]) (rest := [.long (lZ (-(-(tm : Int))))]) K hP hD hK hS hA hl.1 (c_Mo_bits l D mo (iZ 0) np ow om ok_ oK og on_ oh ox qn qf op_ ql fx2 fy2 cI fh v2 0 H.size w2 (by decide) (by decide) (hB_lm (by rw [e0]; omega))) [3, 4, 5, 0] [1, 2, 6, 7] [0] rfl rfl rfl (by decide) (by decide) (by decide) 0 rfl rfl (big_in mw_1298 rfl) (big_in mw_10 rfl) (big_in mw_1295 rfl) (big_in mw_1297 rfl) (big_in sp_40 rfl) rfl rfl (by decide +kernel) ⟨by rw [hR]; exact Nat.le_of_ble_eq_true rfl, by rw [hR]; exact Nat.le_of_ble_eq_true rfl⟩ rfl (Nat.le_of_ble_eq_true rfl) d_Mo_power_116 ⟨by rw [hR]; exact Nat.le_of_ble_eq_true rfl, by rw [hR]; exact Nat.le_of_ble_eq_true rfl⟩ rfl (fun v u H locs hp6 hP hD hS _ => ?_)
      obtain ⟨rb3, fx3, fy3, fh3⟩ := u
      try dsimp only at hp6
      obtain ⟨rfl, eb3, w3⟩ := hp6
      have hP : va_P D cls0 [(og, .inl (cI, 32, .inl fs)), (on_, .inl (cI, 32, .inl fn)), (ok_, .inl (cI, 166400, .inl fk)), (oK, .inl (cI, 64, .inl fK)), (mo, .inr (8, [.int (iZ 0), .int (iZ (np : Int)), .ref ow, .ref om, .ref ok_, .ref oK, .ref og, .ref on_, .ref oh, .ref ox, .int qn, .int qf, .ref op_, .int ql])), (ow, .inl (cI, 108000, .inl fx3)), (om, .inl (cI, 9, .inl fy3)), (oh, .inl (cI, 10000, .inl fh3))] H := hP
      have hD : va_D A [(og, .inl (cI, 32, .inl fs)), (on_, .inl (cI, 32, .inl fn)), (ok_, .inl (cI, 166400, .inl fk)), (oK, .inl (cI, 64, .inl fK)), (mo, .inr (8, [.int (iZ 0), .int (iZ (np : Int)), .ref ow, .ref om, .ref ok_, .ref oK, .ref og, .ref on_, .ref oh, .ref ox, .int qn, .int qf, .ref op_, .int ql])), (ow, .inl (cI, 108000, .inl fx3)), (om, .inl (cI, 9, .inl fy3)), (oh, .inl (cI, 10000, .inl fh3))] := hD
      show W p l e R s m args below meth c H locs _ _ Q (F0 m 119 ls [.int (iZ rb3), .long (lZ (-(-(tm : Int))))])
      rw [e0] at eb3
      subst eb3
      obtain ⟨v3, hv3⟩ : ∃ z, z = up v2 4 0 := ⟨_, rfl⟩
      rw [← hv3] at w3
      have z30 : v3 0 = bv a := by rw [hv3, up_n (by decide)]; exact e0
      have z31 : v3 1 = tv a := by rw [hv3, up_n (by decide)]; exact e1
      refine lv_aload_n hx hb d_Mo_power_119 rfl (lv_at hl 1 rfl) ?_
      refine lv_iconst (v := iZ (1)) hx hb d_Mo_power_120 (by decide +kernel) ?_
      refine cv (n := 1) (wr := [(og, .inl (cI, 32, .inl fs)), (on_, .inl (cI, 32, .inl fn)), (ok_, .inl (cI, 166400, .inl fk)), (oK, .inl (cI, 64, .inl fK))]) (w1 := (fun (u : Int × (Nat → Int32) × (Nat → Int32) × (Nat → Int32)) => [(mo, .inr (8, [.int (iZ 0), .int (iZ (np : Int)), .ref ow, .ref om, .ref ok_, .ref oK, .ref og, .ref on_, .ref oh, .ref ox, .int qn, .int qf, .ref op_, .int ql])), (ow, .inl (cI, 108000, .inl u.2.1)), (om, .inl (cI, 9, .inl u.2.2.1)), (oh, .inl (cI, 10000, .inl u.2.2.2))])) (As := [.int (iZ 1)]) (rest := [.int (iZ (bl (bv a) : Int)), .long (lZ (-(-(tm : Int))))]) K hP hD hK hS hA hl.1 (c_Mo_bits l D mo (iZ 0) np ow om ok_ oK og on_ oh ox qn qf op_ ql fx3 fy3 cI fh3 v3 1 H.size w3 (by decide) (by decide) (hB_lm (by rw [z31]; omega))) [4, 5, 6, 7] [0, 1, 2, 3] [0] rfl rfl rfl (by decide) (by decide) (by decide) 0 rfl rfl (big_in mw_1298 rfl) (big_in mw_10 rfl) (big_in mw_1295 rfl) (big_in mw_1297 rfl) (big_in sp_40 rfl) rfl rfl (by decide +kernel) ⟨by rw [hR]; exact Nat.le_of_ble_eq_true rfl, by rw [hR]; exact Nat.le_of_ble_eq_true rfl⟩ rfl (Nat.le_of_ble_eq_true rfl) d_Mo_power_121 ⟨by rw [hR]; exact Nat.le_of_ble_eq_true rfl, by rw [hR]; exact Nat.le_of_ble_eq_true rfl⟩ rfl (fun v u H locs hp7 hP hD hS _ => ?_)
      obtain ⟨rb4, fx4, fy4, fh4⟩ := u
      try dsimp only at hp7
      obtain ⟨rfl, eb4, w4⟩ := hp7
      have hP : va_P D cls0 [(og, .inl (cI, 32, .inl fs)), (on_, .inl (cI, 32, .inl fn)), (ok_, .inl (cI, 166400, .inl fk)), (oK, .inl (cI, 64, .inl fK)), (mo, .inr (8, [.int (iZ 0), .int (iZ (np : Int)), .ref ow, .ref om, .ref ok_, .ref oK, .ref og, .ref on_, .ref oh, .ref ox, .int qn, .int qf, .ref op_, .int ql])), (ow, .inl (cI, 108000, .inl fx4)), (om, .inl (cI, 9, .inl fy4)), (oh, .inl (cI, 10000, .inl fh4))] H := hP
      have hD : va_D A [(og, .inl (cI, 32, .inl fs)), (on_, .inl (cI, 32, .inl fn)), (ok_, .inl (cI, 166400, .inl fk)), (oK, .inl (cI, 64, .inl fK)), (mo, .inr (8, [.int (iZ 0), .int (iZ (np : Int)), .ref ow, .ref om, .ref ok_, .ref oK, .ref og, .ref on_, .ref oh, .ref ox, .int qn, .int qf, .ref op_, .int ql])), (ow, .inl (cI, 108000, .inl fx4)), (om, .inl (cI, 9, .inl fy4)), (oh, .inl (cI, 10000, .inl fh4))] := hD
      show W p l e R s m args below meth c H locs _ _ Q (F0 m 124 ls [.int (iZ rb4), .int (iZ (bl (bv a) : Int)), .long (lZ (-(-(tm : Int))))])
      rw [z31] at eb4
      subst eb4
      obtain ⟨v4, hv4⟩ : ∃ z, z = up v3 4 0 := ⟨_, rfl⟩
      rw [← hv4] at w4
      have z40 : v4 0 = bv a := by rw [hv4, up_n (by decide)]; exact z30
      have z41 : v4 1 = tv a := by rw [hv4, up_n (by decide)]; exact z31
      refine zz_iadd hx hb d_Mo_power_124 ?_
      refine lv_iconst (v := iZ (2)) hx hb d_Mo_power_125 (by decide +kernel) ?_
      refine zz_isub hx hb d_Mo_power_126 ?_
      refine zz_i2l hx hb d_Mo_power_127 (by omega) ?_
      refine zz_lmul hx hb d_Mo_power_128 ?_
      obtain ⟨lv, hlv⟩ : ∃ z : Int, z = ((tm : Int) * ((bl (bv a) : Int) + (bl (tv a) : Int) - 2)) := ⟨_, rfl⟩
      rw [show ((-(-(tm : Int))) * ((bl (bv a) : Int) + (bl (tv a) : Int) - 2) : Int) = lv by rw [hlv]; first | done | rw [Int.neg_neg]]
      have blv : -3000 ≤ lv ∧ lv < 1000000000 := by rw [hlv]; exact pw_rng htm (by have z := bl_le_lm (bv a); omega) (by have z := bl_le_lm (tv a); omega)
      refine lv_lstore (lv' := [(5, .long (lZ lv)), (4, .int (iZ (-(-(tm : Int))))), (0, .ref mo), (1, .int (iZ (to : Int))), (2, .int (iZ (a : Int))), (3, .int (iZ (-(tm : Int))))]) hx hb d_Mo_power_129 hl (by decide) rfl (fun ls hl => ?_)
      refine lv_aload_n hx hb d_Mo_power_131 rfl (lv_at hl 2 rfl) ?_
      refine va_get (D := D) (ci := 8) (v := .ref og) (C := R_Mo) (T := F_Mo) (N := 14) hx hb hts i_Mo hown hK hP 4 rfl rfl 6 (by decide) (hts _ (big_in mw_1121 rfl)) (fun _ h9 => h9) rfl d_Mo_power_132 ?_
      refine lv_iload_n hx hb d_Mo_power_135 rfl (lv_at hl 4 rfl) ?_
      refine zz_iald hx hb hK hP 0 0 rfl rfl (a) (by omega) (by omega) (by omega) d_Mo_power_136 ?_
      rw [hMR.2.1 a (by omega)]
      refine zz_if_eq (tgt := 163) hx hb d_Mo_power_137 (by decide) (by omega) (fun c137 => False.elim (by omega)) (fun c137 => ?_)
      have ta0 : 0 < tv a := Nat.pos_of_ne_zero (fun z => by have y := ja2.mpr z; omega)
      refine lv_aload_n hx hb d_Mo_power_140 rfl (lv_at hl 2 rfl) ?_
      refine lv_lload hx hb d_Mo_power_141 (lv_at hl 0 rfl) ?_
      refine lv_ldc2 (v := lZ (33000)) hx hb hown (hts _ (big_in mw_1299 rfl)) d_Mo_power_143 ?_
      refine zz_lcmp_le (tgt := 154) hx hb d_Mo_power_146 d_Mo_power_147 (by decide) (by omega) (by omega) (fun c146 => ?_) (fun c146 => ?_)
      · refine lv_iconst (v := iZ (0)) hx hb d_Mo_power_154 (by decide +kernel) ?_
        refine cv (n := 1) (wr := [(og, .inl (cI, 32, .inl fs)), (on_, .inl (cI, 32, .inl fn)), (ok_, .inl (cI, 166400, .inl fk)), (oK, .inl (cI, 64, .inl fK)), (ow, .inl (cI, 108000, .inl fx4)), (om, .inl (cI, 9, .inl fy4)), (oh, .inl (cI, 10000, .inl fh4))]) (w1 := (fun (u : Int) => [(mo, .inr (8, [.int (iZ 0), .int (iZ (np : Int)), .ref ow, .ref om, .ref ok_, .ref oK, .ref og, .ref on_, .ref oh, .ref ox, .int qn, .int qf, .ref op_, .int ql]))])) (As := [.int (iZ 0)]) (rest := []) K hP hD hK hS hA hl.1 (c_Mo_refuses l D mo (iZ 0) np ow om ok_ oK og on_ oh ox qn qf op_ ql 0 H.size (by omega)) [4] [0, 1, 2, 3, 5, 6, 7] [] rfl rfl rfl (by decide) (by decide) (by decide) 0 rfl rfl (big_in mw_1176 rfl) (big_in mw_10 rfl) (big_in mw_1173 rfl) (big_in mw_1175 rfl) (big_in sp_18 rfl) rfl rfl (by decide +kernel) ⟨by rw [hR]; exact Nat.le_of_ble_eq_true rfl, by rw [hR]; exact Nat.le_of_ble_eq_true rfl⟩ rfl (Nat.le_of_ble_eq_true rfl) d_Mo_power_155 ⟨by rw [hR]; exact Nat.le_of_ble_eq_true rfl, by rw [hR]; exact Nat.le_of_ble_eq_true rfl⟩ rfl (fun v u H locs hp8 hP hD hS _ => ?_)
        obtain ⟨rf2, rfl⟩ : ∃ z, z = u := ⟨_, rfl⟩
        obtain ⟨rfl, prf2⟩ := hp8
        have hP : va_P D cls0 [(og, .inl (cI, 32, .inl fs)), (on_, .inl (cI, 32, .inl fn)), (ok_, .inl (cI, 166400, .inl fk)), (oK, .inl (cI, 64, .inl fK)), (ow, .inl (cI, 108000, .inl fx4)), (om, .inl (cI, 9, .inl fy4)), (oh, .inl (cI, 10000, .inl fh4)), (mo, .inr (8, [.int (iZ 0), .int (iZ (np : Int)), .ref ow, .ref om, .ref ok_, .ref oK, .ref og, .ref on_, .ref oh, .ref ox, .int qn, .int qf, .ref op_, .int ql]))] H := hP
        have hD : va_D A [(og, .inl (cI, 32, .inl fs)), (on_, .inl (cI, 32, .inl fn)), (ok_, .inl (cI, 166400, .inl fk)), (oK, .inl (cI, 64, .inl fK)), (ow, .inl (cI, 108000, .inl fx4)), (om, .inl (cI, 9, .inl fy4)), (oh, .inl (cI, 10000, .inl fh4)), (mo, .inr (8, [.int (iZ 0), .int (iZ (np : Int)), .ref ow, .ref om, .ref ok_, .ref oK, .ref og, .ref on_, .ref oh, .ref ox, .int qn, .int qf, .ref op_, .int ql]))] := hD
        show W p l e R s m args below meth c H locs _ _ Q (F0 m 158 ls [.int (iZ rf2)])
        refine zz_if_eq (tgt := 163) hx hb d_Mo_power_158 (by decide) (by omega) (fun c158 => ?_) (fun c158 => False.elim (by omega))
        refine lv_aload_n hx hb d_Mo_power_163 rfl (lv_at hl 2 rfl) ?_
        refine lv_iconst (v := iZ (0)) hx hb d_Mo_power_164 (by decide +kernel) ?_
        refine lv_iload hx hb d_Mo_power_165 (lv_at hl 1 rfl) ?_
        have cap := pw_cap (u := bv a) (w := tv a) htm (by rw [← hlv]; omega)
        rw [show (-(-(tm : Int)) : Int) = (tm : Int) by omega]
        refine cv (n := 2) (wr := [(og, .inl (cI, 32, .inl fs)), (on_, .inl (cI, 32, .inl fn)), (ok_, .inl (cI, 166400, .inl fk)), (oK, .inl (cI, 64, .inl fK)), (oh, .inl (cI, 10000, .inl fh4))]) (w1 := (fun (u : (Nat → Int32) × (Nat → Int32) × (Nat → Nat)) => [(mo, .inr (8, [.int (iZ 0), .int (iZ (np : Int)), .ref ow, .ref om, .ref ok_, .ref oK, .ref og, .ref on_, .ref oh, .ref ox, .int qn, .int qf, .ref op_, .int ql])), (ow, .inl (cI, 108000, .inl u.1)), (om, .inl (cI, 9, .inl u.2.1))])) (As := [.int (iZ 0), .int (iZ (tm : Int))]) (rest := []) K hP hD hK hS hA hl.1 (c_Mo_raise l D mo (iZ 0) np ow om ok_ oK og on_ oh ox qn qf op_ ql fx4 fy4 cI v4 0 tm H.size w4 (by decide) htm (by rw [z40]; exact pw_nd cap.1) (w4.n (by decide))) [7, 4, 5] [0, 1, 2, 3, 6] [0] rfl rfl rfl (by decide) (by decide) (by decide) 0 rfl rfl (big_in mw_1303 rfl) (big_in mw_10 rfl) (big_in mw_1300 rfl) (big_in mw_1302 rfl) (big_in sp_41 rfl) rfl rfl (by decide +kernel) ⟨by rw [hR]; exact Nat.le_of_ble_eq_true rfl, by rw [hR]; exact Nat.le_of_ble_eq_true rfl⟩ rfl (Nat.le_of_ble_eq_true rfl) d_Mo_power_167 ⟨by rw [hR]; exact Nat.le_of_ble_eq_true rfl, by rw [hR]; exact Nat.le_of_ble_eq_true rfl⟩ rfl (fun v u H locs hp9 hP hD hS _ => ?_)
        obtain ⟨fx5, fy5, v5⟩ := u
        try dsimp only at hp9
        obtain ⟨rfl, w5, z50, z5o⟩ := hp9
        have hP : va_P D cls0 [(og, .inl (cI, 32, .inl fs)), (on_, .inl (cI, 32, .inl fn)), (ok_, .inl (cI, 166400, .inl fk)), (oK, .inl (cI, 64, .inl fK)), (oh, .inl (cI, 10000, .inl fh4)), (mo, .inr (8, [.int (iZ 0), .int (iZ (np : Int)), .ref ow, .ref om, .ref ok_, .ref oK, .ref og, .ref on_, .ref oh, .ref ox, .int qn, .int qf, .ref op_, .int ql])), (ow, .inl (cI, 108000, .inl fx5)), (om, .inl (cI, 9, .inl fy5))] H := hP
        have hD : va_D A [(og, .inl (cI, 32, .inl fs)), (on_, .inl (cI, 32, .inl fn)), (ok_, .inl (cI, 166400, .inl fk)), (oK, .inl (cI, 64, .inl fK)), (oh, .inl (cI, 10000, .inl fh4)), (mo, .inr (8, [.int (iZ 0), .int (iZ (np : Int)), .ref ow, .ref om, .ref ok_, .ref oK, .ref og, .ref on_, .ref oh, .ref ox, .int qn, .int qf, .ref op_, .int ql])), (ow, .inl (cI, 108000, .inl fx5)), (om, .inl (cI, 9, .inl fy5))] := hD
        show W p l e R s m args below meth c H locs _ _ Q (F0 m 170 ls [])
        rw [z40] at z50
        have z51 : v5 1 = tv a := by rw [z5o 1 (by decide) (by decide)]; exact z41
        refine lv_aload_n hx hb d_Mo_power_170 rfl (lv_at hl 2 rfl) ?_
        refine lv_iconst (v := iZ (1)) hx hb d_Mo_power_171 (by decide +kernel) ?_
        refine lv_iload hx hb d_Mo_power_172 (lv_at hl 1 rfl) ?_
        rw [show (-(-(tm : Int)) : Int) = (tm : Int) by omega]
        refine cv (n := 2) (wr := [(og, .inl (cI, 32, .inl fs)), (on_, .inl (cI, 32, .inl fn)), (ok_, .inl (cI, 166400, .inl fk)), (oK, .inl (cI, 64, .inl fK)), (oh, .inl (cI, 10000, .inl fh4))]) (w1 := (fun (u : (Nat → Int32) × (Nat → Int32) × (Nat → Nat)) => [(mo, .inr (8, [.int (iZ 0), .int (iZ (np : Int)), .ref ow, .ref om, .ref ok_, .ref oK, .ref og, .ref on_, .ref oh, .ref ox, .int qn, .int qf, .ref op_, .int ql])), (ow, .inl (cI, 108000, .inl u.1)), (om, .inl (cI, 9, .inl u.2.1))])) (As := [.int (iZ 1), .int (iZ (tm : Int))]) (rest := []) K hP hD hK hS hA hl.1 (c_Mo_raise l D mo (iZ 0) np ow om ok_ oK og on_ oh ox qn qf op_ ql fx5 fy5 cI v5 1 tm H.size w5 (by decide) htm (by rw [z51]; exact pw_nd cap.2) (w5.n (by decide))) [5, 6, 7] [0, 1, 2, 3, 4] [0] rfl rfl rfl (by decide) (by decide) (by decide) 0 rfl rfl (big_in mw_1303 rfl) (big_in mw_10 rfl) (big_in mw_1300 rfl) (big_in mw_1302 rfl) (big_in sp_41 rfl) rfl rfl (by decide +kernel) ⟨by rw [hR]; exact Nat.le_of_ble_eq_true rfl, by rw [hR]; exact Nat.le_of_ble_eq_true rfl⟩ rfl (Nat.le_of_ble_eq_true rfl) d_Mo_power_174 ⟨by rw [hR]; exact Nat.le_of_ble_eq_true rfl, by rw [hR]; exact Nat.le_of_ble_eq_true rfl⟩ rfl (fun v u H locs hp10 hP hD hS _ => ?_)
        obtain ⟨fx6, fy6, v6⟩ := u
        try dsimp only at hp10
        obtain ⟨rfl, w6, z61, z6o⟩ := hp10
        have hP : va_P D cls0 [(og, .inl (cI, 32, .inl fs)), (on_, .inl (cI, 32, .inl fn)), (ok_, .inl (cI, 166400, .inl fk)), (oK, .inl (cI, 64, .inl fK)), (oh, .inl (cI, 10000, .inl fh4)), (mo, .inr (8, [.int (iZ 0), .int (iZ (np : Int)), .ref ow, .ref om, .ref ok_, .ref oK, .ref og, .ref on_, .ref oh, .ref ox, .int qn, .int qf, .ref op_, .int ql])), (ow, .inl (cI, 108000, .inl fx6)), (om, .inl (cI, 9, .inl fy6))] H := hP
        have hD : va_D A [(og, .inl (cI, 32, .inl fs)), (on_, .inl (cI, 32, .inl fn)), (ok_, .inl (cI, 166400, .inl fk)), (oK, .inl (cI, 64, .inl fK)), (oh, .inl (cI, 10000, .inl fh4)), (mo, .inr (8, [.int (iZ 0), .int (iZ (np : Int)), .ref ow, .ref om, .ref ok_, .ref oK, .ref og, .ref on_, .ref oh, .ref ox, .int qn, .int qf, .ref op_, .int ql])), (ow, .inl (cI, 108000, .inl fx6)), (om, .inl (cI, 9, .inl fy6))] := hD
        show W p l e R s m args below meth c H locs _ _ Q (F0 m 177 ls [])
        rw [z51] at z61
        have z60 : v6 0 = (bv a) ^ tm := by rw [z6o 0 (by decide) (by decide)]; exact z50
        refine lv_aload_n hx hb d_Mo_power_177 rfl (lv_at hl 2 rfl) ?_
        refine lv_iload_n hx hb d_Mo_power_178 rfl (lv_at hl 3 rfl) ?_
        refine lv_iload hx hb d_Mo_power_179 (lv_at hl 1 rfl) ?_
        refine lv_iconst (v := iZ (2)) hx hb d_Mo_power_181 (by decide +kernel) ?_
        refine zz_irem hx hb d_Mo_power_182 (by omega) (by omega) ?_
        refine lv_iconst (v := iZ (1)) hx hb d_Mo_power_183 (by decide +kernel) ?_
        refine zz_icmp_ne (tgt := 196) hx hb d_Mo_power_184 (by decide) (by omega) (by omega) (fun c184 => ?_) (fun c184 => ?_)
        · refine lv_iconst (v := iZ (1)) hx hb d_Mo_power_196 (by decide +kernel) ?_
          refine lv_iconst (v := iZ (4)) hx hb d_Mo_power_197 (by decide +kernel) ?_
          refine cv (n := 3) (wr := []) (w1 := (fun (u : (Nat → Int32) × (Nat → Int32) × (Nat → Int32) × (Nat → Int32) × (Nat → Int32) × (Nat → Int32) × (Nat → Int32) × (Nat → Nat)) => [(mo, .inr (8, [.int (iZ 0), .int (iZ (np : Int)), .ref ow, .ref om, .ref ok_, .ref oK, .ref og, .ref on_, .ref oh, .ref ox, .int qn, .int qf, .ref op_, .int ql])), (ow, .inl (cI, 108000, .inl u.1)), (om, .inl (cI, 9, .inl u.2.1)), (oh, .inl (cI, 10000, .inl u.2.2.1)), (ok_, .inl (cI, 166400, .inl u.2.2.2.1)), (oK, .inl (cI, 64, .inl u.2.2.2.2.1)), (og, .inl (cI, 32, .inl u.2.2.2.2.2.1)), (on_, .inl (cI, 32, .inl u.2.2.2.2.2.2.1))])) (As := [.int (iZ (to : Int)), .int (iZ 1), .int (iZ 4)]) (rest := []) K hP hD hK hS hA hl.1 (c_Mo_store l D mo (iZ 0) np ow om ok_ oK og on_ oh ox qn qf op_ ql fx6 fy6 cI fh4 fk fK fs fn v6 tv bv sg to 1 4 H.size w6 hMR (by omega) hnd hnp (by omega) (by decide) (by rw [z60]; exact pw_lm cap.1) (by rw [z61]; exact pw_lm cap.2) (by rw [z60, z61]; exact hfit)) [5, 6, 7, 4, 2, 3, 0, 1] [] [0] rfl rfl rfl (by decide) (by decide) (by decide) 0 rfl rfl (big_in mw_1215 rfl) (big_in mw_10 rfl) (big_in mw_1212 rfl) (big_in mw_1214 rfl) (big_in sp_27 rfl) rfl rfl (by decide +kernel) ⟨by rw [hR]; exact Nat.le_of_ble_eq_true rfl, by rw [hR]; exact Nat.le_of_ble_eq_true rfl⟩ rfl (Nat.le_of_ble_eq_true rfl) d_Mo_power_198 ⟨by rw [hR]; exact Nat.le_of_ble_eq_true rfl, by rw [hR]; exact Nat.le_of_ble_eq_true rfl⟩ rfl (fun v u H locs hp11 hP hD hS _ => ?_)
          obtain ⟨fa, fb, fc, fd, fe, ff, fg, v9⟩ := u
          try dsimp only at hp11
          obtain ⟨rfl, w9, q9⟩ := hp11
          have hP : va_P D cls0 [(mo, .inr (8, [.int (iZ 0), .int (iZ (np : Int)), .ref ow, .ref om, .ref ok_, .ref oK, .ref og, .ref on_, .ref oh, .ref ox, .int qn, .int qf, .ref op_, .int ql])), (ow, .inl (cI, 108000, .inl fa)), (om, .inl (cI, 9, .inl fb)), (oh, .inl (cI, 10000, .inl fc)), (ok_, .inl (cI, 166400, .inl fd)), (oK, .inl (cI, 64, .inl fe)), (og, .inl (cI, 32, .inl ff)), (on_, .inl (cI, 32, .inl fg))] H := hP
          have hD : va_D A [(mo, .inr (8, [.int (iZ 0), .int (iZ (np : Int)), .ref ow, .ref om, .ref ok_, .ref oK, .ref og, .ref on_, .ref oh, .ref ox, .int qn, .int qf, .ref op_, .int ql])), (ow, .inl (cI, 108000, .inl fa)), (om, .inl (cI, 9, .inl fb)), (oh, .inl (cI, 10000, .inl fc)), (ok_, .inl (cI, 166400, .inl fd)), (oK, .inl (cI, 64, .inl fe)), (og, .inl (cI, 32, .inl ff)), (on_, .inl (cI, 32, .inl fg))] := hD
          show W p l e R s m args below meth c H locs _ _ Q (F0 m 201 ls [.int (iZ ((lm (v6 0) : Int) + (lm (v6 1) : Int)))])
          rw [z60, z61]
          rw [z60, z61] at q9
          have hP9 : va_P D cls0 [(mo, .inr (8, [.int (iZ 0), .int (iZ (np : Int)), .ref ow, .ref om, .ref ok_, .ref oK, .ref og, .ref on_, .ref oh, .ref ox, .int qn, .int qf, .ref op_, .int ql])), (ow, .inl (cI, 108000, .inl fa)), (om, .inl (cI, 9, .inl fb)), (oh, .inl (cI, 10000, .inl fc)), (ok_, .inl (cI, 166400, .inl fd)), (oK, .inl (cI, 64, .inl fe)), (og, .inl (cI, 32, .inl ff)), (on_, .inl (cI, 32, .inl fg))] H := hP.sub [0, 1, 2, 3, 4, 5, 6, 7] rfl
          have hD9 : va_D A [(mo, .inr (8, [.int (iZ 0), .int (iZ (np : Int)), .ref ow, .ref om, .ref ok_, .ref oK, .ref og, .ref on_, .ref oh, .ref ox, .int qn, .int qf, .ref op_, .int ql])), (ow, .inl (cI, 108000, .inl fa)), (om, .inl (cI, 9, .inl fb)), (oh, .inl (cI, 10000, .inl fc)), (ok_, .inl (cI, 166400, .inl fd)), (oK, .inl (cI, 64, .inl fe)), (og, .inl (cI, 32, .inl ff)), (on_, .inl (cI, 32, .inl fg))] := hD.sub [0, 1, 2, 3, 4, 5, 6, 7] (by decide) rfl
          rw [hQ, ← hAe]
          refine r_i (v := (iZ ((lm (((bv a) ^ tm)) : Int) + (lm (((tv a) ^ tm)) : Int)))) K (fa, fb, fc, fd, fe, ff, fg, v9) hS d_Mo_power_201 ?_ (fun t ht hv => ?_)
          · try dsimp only
            refine ⟨rfl, w9, ?_⟩
            rw [show (if tm % 2 = 1 then sg a else 1) = 1 by first | exact if_pos (by omega) | exact if_neg (by omega)]
            exact q9
          · exact ⟨by rw [ht]; exact hP9, va_K.moved hv hK, by rw [← hAe]; exact hD9⟩
        · refine lv_aload_n hx hb d_Mo_power_187 rfl (lv_at hl 2 rfl) ?_
          refine va_get (D := D) (ci := 8) (v := .ref og) (C := R_Mo) (T := F_Mo) (N := 14) hx hb hts i_Mo hown hK hP 5 rfl rfl 6 (by decide) (hts _ (big_in mw_1121 rfl)) (fun _ h9 => h9) rfl d_Mo_power_188 ?_
          refine lv_iload_n hx hb d_Mo_power_191 rfl (lv_at hl 4 rfl) ?_
          refine zz_iald hx hb hK hP 0 0 rfl rfl (a) (by omega) (by omega) (by omega) d_Mo_power_192 ?_
          rw [hMR.2.1 a (by omega)]
          refine lv_goto (tgt := 197) hx hb d_Mo_power_193 (by decide) ?_
          refine lv_iconst (v := iZ (4)) hx hb d_Mo_power_197 (by decide +kernel) ?_
          refine cv (n := 3) (wr := []) (w1 := (fun (u : (Nat → Int32) × (Nat → Int32) × (Nat → Int32) × (Nat → Int32) × (Nat → Int32) × (Nat → Int32) × (Nat → Int32) × (Nat → Nat)) => [(mo, .inr (8, [.int (iZ 0), .int (iZ (np : Int)), .ref ow, .ref om, .ref ok_, .ref oK, .ref og, .ref on_, .ref oh, .ref ox, .int qn, .int qf, .ref op_, .int ql])), (ow, .inl (cI, 108000, .inl u.1)), (om, .inl (cI, 9, .inl u.2.1)), (oh, .inl (cI, 10000, .inl u.2.2.1)), (ok_, .inl (cI, 166400, .inl u.2.2.2.1)), (oK, .inl (cI, 64, .inl u.2.2.2.2.1)), (og, .inl (cI, 32, .inl u.2.2.2.2.2.1)), (on_, .inl (cI, 32, .inl u.2.2.2.2.2.2.1))])) (As := [.int (iZ (to : Int)), .int (iZ (sg a)), .int (iZ 4)]) (rest := []) K hP hD hK hS hA hl.1 (c_Mo_store l D mo (iZ 0) np ow om ok_ oK og on_ oh ox qn qf op_ ql fx6 fy6 cI fh4 fk fK fs fn v6 tv bv sg to (sg a) 4 H.size w6 hMR (by omega) hnd hnp (by omega) (by decide) (by rw [z60]; exact pw_lm cap.1) (by rw [z61]; exact pw_lm cap.2) (by rw [z60, z61]; exact hfit)) [5, 6, 7, 4, 2, 3, 0, 1] [] [0] rfl rfl rfl (by decide) (by decide) (by decide) 0 rfl rfl (big_in mw_1215 rfl) (big_in mw_10 rfl) (big_in mw_1212 rfl) (big_in mw_1214 rfl) (big_in sp_27 rfl) rfl rfl (by decide +kernel) ⟨by rw [hR]; exact Nat.le_of_ble_eq_true rfl, by rw [hR]; exact Nat.le_of_ble_eq_true rfl⟩ rfl (Nat.le_of_ble_eq_true rfl) d_Mo_power_198 ⟨by rw [hR]; exact Nat.le_of_ble_eq_true rfl, by rw [hR]; exact Nat.le_of_ble_eq_true rfl⟩ rfl (fun v u H locs hp12 hP hD hS _ => ?_)
          obtain ⟨fa, fb, fc, fd, fe, ff, fg, v9⟩ := u
          try dsimp only at hp12
          obtain ⟨rfl, w9, q9⟩ := hp12
          have hP : va_P D cls0 [(mo, .inr (8, [.int (iZ 0), .int (iZ (np : Int)), .ref ow, .ref om, .ref ok_, .ref oK, .ref og, .ref on_, .ref oh, .ref ox, .int qn, .int qf, .ref op_, .int ql])), (ow, .inl (cI, 108000, .inl fa)), (om, .inl (cI, 9, .inl fb)), (oh, .inl (cI, 10000, .inl fc)), (ok_, .inl (cI, 166400, .inl fd)), (oK, .inl (cI, 64, .inl fe)), (og, .inl (cI, 32, .inl ff)), (on_, .inl (cI, 32, .inl fg))] H := hP
          have hD : va_D A [(mo, .inr (8, [.int (iZ 0), .int (iZ (np : Int)), .ref ow, .ref om, .ref ok_, .ref oK, .ref og, .ref on_, .ref oh, .ref ox, .int qn, .int qf, .ref op_, .int ql])), (ow, .inl (cI, 108000, .inl fa)), (om, .inl (cI, 9, .inl fb)), (oh, .inl (cI, 10000, .inl fc)), (ok_, .inl (cI, 166400, .inl fd)), (oK, .inl (cI, 64, .inl fe)), (og, .inl (cI, 32, .inl ff)), (on_, .inl (cI, 32, .inl fg))] := hD
          show W p l e R s m args below meth c H locs _ _ Q (F0 m 201 ls [.int (iZ ((lm (v6 0) : Int) + (lm (v6 1) : Int)))])
          rw [z60, z61]
          rw [z60, z61] at q9
          have hP9 : va_P D cls0 [(mo, .inr (8, [.int (iZ 0), .int (iZ (np : Int)), .ref ow, .ref om, .ref ok_, .ref oK, .ref og, .ref on_, .ref oh, .ref ox, .int qn, .int qf, .ref op_, .int ql])), (ow, .inl (cI, 108000, .inl fa)), (om, .inl (cI, 9, .inl fb)), (oh, .inl (cI, 10000, .inl fc)), (ok_, .inl (cI, 166400, .inl fd)), (oK, .inl (cI, 64, .inl fe)), (og, .inl (cI, 32, .inl ff)), (on_, .inl (cI, 32, .inl fg))] H := hP.sub [0, 1, 2, 3, 4, 5, 6, 7] rfl
          have hD9 : va_D A [(mo, .inr (8, [.int (iZ 0), .int (iZ (np : Int)), .ref ow, .ref om, .ref ok_, .ref oK, .ref og, .ref on_, .ref oh, .ref ox, .int qn, .int qf, .ref op_, .int ql])), (ow, .inl (cI, 108000, .inl fa)), (om, .inl (cI, 9, .inl fb)), (oh, .inl (cI, 10000, .inl fc)), (ok_, .inl (cI, 166400, .inl fd)), (oK, .inl (cI, 64, .inl fe)), (og, .inl (cI, 32, .inl ff)), (on_, .inl (cI, 32, .inl fg))] := hD.sub [0, 1, 2, 3, 4, 5, 6, 7] (by decide) rfl
          rw [hQ, ← hAe]
          refine r_i (v := (iZ ((lm (((bv a) ^ tm)) : Int) + (lm (((tv a) ^ tm)) : Int)))) K (fa, fb, fc, fd, fe, ff, fg, v9) hS d_Mo_power_201 ?_ (fun t ht hv => ?_)
          · try dsimp only
            refine ⟨rfl, w9, ?_⟩
            rw [show (if tm % 2 = 1 then sg a else 1) = sg a by first | exact if_pos (by omega) | exact if_neg (by omega)]
            exact q9
          · exact ⟨by rw [ht]; exact hP9, va_K.moved hv hK, by rw [← hAe]; exact hD9⟩
      · refine lv_iconst (v := iZ (4)) hx hb d_Mo_power_150 (by decide +kernel) ?_
        refine lv_goto (tgt := 155) hx hb d_Mo_power_151 (by decide) ?_
        have big_ : 1024 < lm ((bv a) ^ tm) + lm ((tv a) ^ tm) := pw_need pa ta0 (by rw [← hlv]; omega)
        exfalso
        omega
    · refine lv_iconst (v := iZ (1)) hx hb d_Mo_power_15 (by decide +kernel) ?_
      refine lv_goto (tgt := 55) hx hb d_Mo_power_16 (by decide) ?_
      exfalso
      omega
set_option maxHeartbeats 4000000 in
set_option maxRecDepth 100000 in
/-- power(to, a, n) -/
theorem f_Mo_powerDn (l : Launch) (D : va_G) (mo : Nat) (qc : Int32) (np : Nat) (ow : Nat) (om : Nat) (ok_ : Nat) (oK : Nat) (og : Nat) (on_ : Nat) (oh : Nat) (ox : Nat) (qn : Int32) (qf : Int32) (op_ : Nat) (ql : Int32) (fw : Nat → Int32) (fm : Nat → Int32) (cI : ClassId) (fh : Nat → Int32) (fk : Nat → Int32) (fK : Nat → Int32) (fs : Nat → Int32) (fn : Nat → Int32) (val : Nat → Nat) (tv : Nat → Nat) (bv : Nat → Nat) (sg : Nat → Int) (to : Nat) (a : Nat) (tm : Nat) (sz : Nat) (hW : WB fw fm val) (hMR : MoR fk fK fs fn tv bv sg) (hnd : ndS tv bv 32 ≤ np) (hnp : np ≤ 1024) (J : RgC tv bv sg) (hbv : ∀ r, r < 32 → 0 < bv r) (t1 : to < 32) (t2 : a < 32) (htm : tm ≤ 1000) (hs0 : sg a ≠ 0) (htm0 : 0 < tm) (hfit : np + (lm (tv to) + lm (bv to)) < ndS tv bv 32 + (lm ((bv a) ^ tm) + lm ((tv a) ^ tm))) : Met l y_Mo_power (wsB y_Mo_power b_Mo_power 7 (some .int)) ({ frames := 4, cells := 0, slots := 0, locals := 93 }) (va_Pc [.ref mo, .int (iZ (to : Int)), .int (iZ (a : Int)), .int (iZ (-(tm : Int)))] (wPre D [(cI, .int)] [(mo, .inr (8, [.int qc, .int (iZ (np : Int)), .ref ow, .ref om, .ref ok_, .ref oK, .ref og, .ref on_, .ref oh, .ref ox, .int qn, .int qf, .ref op_, .int ql])), (ow, .inl (cI, 108000, .inl fw)), (om, .inl (cI, 9, .inl fm)), (oh, .inl (cI, 10000, .inl fh)), (ok_, .inl (cI, 166400, .inl fk)), (oK, .inl (cI, 64, .inl fK)), (og, .inl (cI, 32, .inl fs)), (on_, .inl (cI, 32, .inl fn))] sz)) (va_QV (fun (v_9 : Option Value) (u_9 : (Nat → Int32) × (Nat → Int32) × (Nat → Int32) × (Nat → Nat)) => v_9 = some (.int (iZ 0)) ∧ (WB u_9.1 u_9.2.1 u_9.2.2.2)) (fun u_9 => wPost D [(cI, .int)] [(mo, .inr (8, [.int qc, .int (iZ (np : Int)), .ref ow, .ref om, .ref ok_, .ref oK, .ref og, .ref on_, .ref oh, .ref ox, .int qn, .int qf, .ref op_, .int ql])), (ow, .inl (cI, 108000, .inl fw)), (om, .inl (cI, 9, .inl fm)), (oh, .inl (cI, 10000, .inl fh)), (ok_, .inl (cI, 166400, .inl fk)), (oK, .inl (cI, 64, .inl fK)), (og, .inl (cI, 32, .inl fs)), (on_, .inl (cI, 32, .inl fn))] [(mo, .inr (8, [.int (iZ 4), .int (iZ (np : Int)), .ref ow, .ref om, .ref ok_, .ref oK, .ref og, .ref on_, .ref oh, .ref ox, .int qn, .int qf, .ref op_, .int ql])), (ow, .inl (cI, 108000, .inl u_9.1)), (om, .inl (cI, 9, .inl u_9.2.1)), (oh, .inl (cI, 10000, .inl u_9.2.2.1)), (ok_, .inl (cI, 166400, .inl fk)), (oK, .inl (cI, 64, .inl fK)), (og, .inl (cI, 32, .inl fs)), (on_, .inl (cI, 32, .inl fn))] sz) (va_A [(mo, .inr (8, [.int qc, .int (iZ (np : Int)), .ref ow, .ref om, .ref ok_, .ref oK, .ref og, .ref on_, .ref oh, .ref ox, .int qn, .int qf, .ref op_, .int ql])), (ow, .inl (cI, 108000, .inl fw)), (om, .inl (cI, 9, .inl fm)), (oh, .inl (cI, 10000, .inl fh)), (ok_, .inl (cI, 166400, .inl fk)), (oK, .inl (cI, 64, .inl fK)), (og, .inl (cI, 32, .inl fs)), (on_, .inl (cI, 32, .inl fn))] sz)) 0 0 (va_A [(mo, .inr (8, [.int qc, .int (iZ (np : Int)), .ref ow, .ref om, .ref ok_, .ref oK, .ref og, .ref on_, .ref oh, .ref ox, .int qn, .int qf, .ref op_, .int ql])), (ow, .inl (cI, 108000, .inl fw)), (om, .inl (cI, 9, .inl fm)), (oh, .inl (cI, 10000, .inl fh)), (ok_, .inl (cI, 166400, .inl fk)), (oK, .inl (cI, 64, .inl fK)), (og, .inl (cI, 32, .inl fs)), (on_, .inl (cI, 32, .inl fn))] sz) := by
  refine met_enter (by decide +kernel) (Nat.le_of_ble_eq_true rfl) ?_
  intro p e s m args below meth c ls A R Q H locs K hin hAe hA hR hQ hP hK hD hS hl
  obtain ⟨hx, hb, hml, hrt, hlk, hts, hown, hno⟩ := id K
  have hl : lv_has ls 7 [(0, .ref mo), (1, .int (iZ (to : Int))), (2, .int (iZ (a : Int))), (3, .int (iZ (-(tm : Int))))] := hl
  have hlr : ∀ q, q < 32 → lm (tv q) + lm (bv q) ≤ 1024 := fun q hq => by have z := ndS_le (tv := tv) (bv := bv) hq; omega
  have hnt : ∀ q, q < 32 → nd (tv q) ≤ 2600 := fun q hq => by have z := nd_lm (v := tv q) (L := 1024) (by have y := hlr q hq; omega); omega
  have hnb : ∀ q, q < 32 → nd (bv q) ≤ 2600 := fun q hq => by have z := nd_lm (v := bv q) (L := 1024) (by have y := hlr q hq; omega); omega
  obtain ⟨ja1, ja2, ja3⟩ := J a (by omega)
  have pa := hbv a (by omega)
  have la := hlr a (by omega)
  have n1 := hnt a (by omega)
  have n2 := hnb a (by omega)
  have bb1 := bl_le_lm (tv a)
  have bb2 := bl_le_lm (bv a)
  have lto := ndS_le (tv := tv) (bv := bv) t1
  refine lv_aload_n hx hb d_Mo_power_0 rfl (lv_at hl 0 rfl) ?_
  refine lv_iload_n hx hb d_Mo_power_1 rfl (lv_at hl 1 rfl) ?_
  refine cs (n := 1) (wr := [(mo, .inr (8, [.int qc, .int (iZ (np : Int)), .ref ow, .ref om, .ref ok_, .ref oK, .ref og, .ref on_, .ref oh, .ref ox, .int qn, .int qf, .ref op_, .int ql])), (ow, .inl (cI, 108000, .inl fw)), (om, .inl (cI, 9, .inl fm)), (oh, .inl (cI, 10000, .inl fh)), (ok_, .inl (cI, 166400, .inl fk)), (oK, .inl (cI, 64, .inl fK)), (og, .inl (cI, 32, .inl fs)), (on_, .inl (cI, 32, .inl fn))]) (w1 := (fun (u : Int) => [])) (As := [.int (iZ (to : Int))]) (rest := [.ref mo]) K hP hD hK hS hA hl.1 (c_Mo_isRegister l D (to : Int) H.size (by omega)) [] [0, 1, 2, 3, 4, 5, 6, 7] [] rfl rfl rfl (by decide) (by decide) (by decide) (big_in mw_1172 rfl) (big_in mw_10 rfl) (big_in mw_1170 rfl) (big_in mw_1171 rfl) rfl rfl (by decide +kernel) ⟨by rw [hR]; exact Nat.le_of_ble_eq_true rfl, by rw [hR]; exact Nat.le_of_ble_eq_true rfl⟩ rfl (Nat.le_of_ble_eq_true rfl) d_Mo_power_2 ⟨by rw [hR]; exact Nat.le_of_ble_eq_true rfl, by rw [hR]; exact Nat.le_of_ble_eq_true rfl⟩ rfl (fun v u H locs hp1 hP hD hS _ => ?_)
  obtain ⟨r2, rfl⟩ : ∃ z, z = u := ⟨_, rfl⟩
  obtain ⟨rfl, p2⟩ := hp1
  have hP : va_P D cls0 [(mo, .inr (8, [.int qc, .int (iZ (np : Int)), .ref ow, .ref om, .ref ok_, .ref oK, .ref og, .ref on_, .ref oh, .ref ox, .int qn, .int qf, .ref op_, .int ql])), (ow, .inl (cI, 108000, .inl fw)), (om, .inl (cI, 9, .inl fm)), (oh, .inl (cI, 10000, .inl fh)), (ok_, .inl (cI, 166400, .inl fk)), (oK, .inl (cI, 64, .inl fK)), (og, .inl (cI, 32, .inl fs)), (on_, .inl (cI, 32, .inl fn))] H := hP
  have hD : va_D A [(mo, .inr (8, [.int qc, .int (iZ (np : Int)), .ref ow, .ref om, .ref ok_, .ref oK, .ref og, .ref on_, .ref oh, .ref ox, .int qn, .int qf, .ref op_, .int ql])), (ow, .inl (cI, 108000, .inl fw)), (om, .inl (cI, 9, .inl fm)), (oh, .inl (cI, 10000, .inl fh)), (ok_, .inl (cI, 166400, .inl fk)), (oK, .inl (cI, 64, .inl fK)), (og, .inl (cI, 32, .inl fs)), (on_, .inl (cI, 32, .inl fn))] := hD
  show W p l e R s m args below meth c H locs _ _ Q (F0 m 5 ls [.int (iZ r2), .ref mo])
  have b2 : 0 ≤ r2 ∧ r2 ≤ 1 := by omega
  refine zz_if_eq (tgt := 15) hx hb d_Mo_power_5 (by decide) (by omega) (fun c5 => ?_) (fun c5 => ?_)
  · refine lv_iconst (v := iZ (1)) hx hb d_Mo_power_15 (by decide +kernel) ?_
    refine lv_goto (tgt := 55) hx hb d_Mo_power_16 (by decide) ?_
    exfalso
    omega
  · refine lv_iload_n hx hb d_Mo_power_8 rfl (lv_at hl 2 rfl) ?_
    refine cs (n := 1) (wr := [(mo, .inr (8, [.int qc, .int (iZ (np : Int)), .ref ow, .ref om, .ref ok_, .ref oK, .ref og, .ref on_, .ref oh, .ref ox, .int qn, .int qf, .ref op_, .int ql])), (ow, .inl (cI, 108000, .inl fw)), (om, .inl (cI, 9, .inl fm)), (oh, .inl (cI, 10000, .inl fh)), (ok_, .inl (cI, 166400, .inl fk)), (oK, .inl (cI, 64, .inl fK)), (og, .inl (cI, 32, .inl fs)), (on_, .inl (cI, 32, .inl fn))]) (w1 := (fun (u : Int) => [])) (As := [.int (iZ (a : Int))]) (rest := [.ref mo]) K hP hD hK hS hA hl.1 (c_Mo_isRegister l D (a : Int) H.size (by omega)) [] [0, 1, 2, 3, 4, 5, 6, 7] [] rfl rfl rfl (by decide) (by decide) (by decide) (big_in mw_1172 rfl) (big_in mw_10 rfl) (big_in mw_1170 rfl) (big_in mw_1171 rfl) rfl rfl (by decide +kernel) ⟨by rw [hR]; exact Nat.le_of_ble_eq_true rfl, by rw [hR]; exact Nat.le_of_ble_eq_true rfl⟩ rfl (Nat.le_of_ble_eq_true rfl) d_Mo_power_9 ⟨by rw [hR]; exact Nat.le_of_ble_eq_true rfl, by rw [hR]; exact Nat.le_of_ble_eq_true rfl⟩ rfl (fun v u H locs hp2 hP hD hS _ => ?_)
    obtain ⟨r9, rfl⟩ : ∃ z, z = u := ⟨_, rfl⟩
    obtain ⟨rfl, p9⟩ := hp2
    have hP : va_P D cls0 [(mo, .inr (8, [.int qc, .int (iZ (np : Int)), .ref ow, .ref om, .ref ok_, .ref oK, .ref og, .ref on_, .ref oh, .ref ox, .int qn, .int qf, .ref op_, .int ql])), (ow, .inl (cI, 108000, .inl fw)), (om, .inl (cI, 9, .inl fm)), (oh, .inl (cI, 10000, .inl fh)), (ok_, .inl (cI, 166400, .inl fk)), (oK, .inl (cI, 64, .inl fK)), (og, .inl (cI, 32, .inl fs)), (on_, .inl (cI, 32, .inl fn))] H := hP
    have hD : va_D A [(mo, .inr (8, [.int qc, .int (iZ (np : Int)), .ref ow, .ref om, .ref ok_, .ref oK, .ref og, .ref on_, .ref oh, .ref ox, .int qn, .int qf, .ref op_, .int ql])), (ow, .inl (cI, 108000, .inl fw)), (om, .inl (cI, 9, .inl fm)), (oh, .inl (cI, 10000, .inl fh)), (ok_, .inl (cI, 166400, .inl fk)), (oK, .inl (cI, 64, .inl fK)), (og, .inl (cI, 32, .inl fs)), (on_, .inl (cI, 32, .inl fn))] := hD
    show W p l e R s m args below meth c H locs _ _ Q (F0 m 12 ls [.int (iZ r9), .ref mo])
    have b9 : 0 ≤ r9 ∧ r9 ≤ 1 := by omega
    refine zz_if_ne (tgt := 19) hx hb d_Mo_power_12 (by decide) (by omega) (fun c12 => ?_) (fun c12 => ?_)
    · refine lv_iload_n hx hb d_Mo_power_19 rfl (lv_at hl 3 rfl) ?_
      refine lv_sipush (v := iZ (-1000)) hx hb d_Mo_power_20 (by decide +kernel) ?_
      refine zz_icmp_lt (tgt := 33) hx hb d_Mo_power_23 (by decide) (by omega) (by omega) (fun c23 => False.elim (by omega)) (fun c23 => ?_)
      refine lv_iload_n hx hb d_Mo_power_26 rfl (lv_at hl 3 rfl) ?_
      refine lv_sipush (v := iZ (1000)) hx hb d_Mo_power_27 (by decide +kernel) ?_
      refine zz_icmp_le (tgt := 37) hx hb d_Mo_power_30 (by decide) (by omega) (by omega) (fun c30 => ?_) (fun c30 => False.elim (by omega))
      refine lv_iload_n hx hb d_Mo_power_37 rfl (lv_at hl 3 rfl) ?_
      refine zz_if_ge (tgt := 54) hx hb d_Mo_power_38 (by decide) (by omega) (fun c38 => False.elim (by omega)) (fun c38 => ?_)
      refine lv_aload_n hx hb d_Mo_power_41 rfl (lv_at hl 0 rfl) ?_
      refine va_get (D := D) (ci := 8) (v := .ref og) (C := R_Mo) (T := F_Mo) (N := 14) hx hb hts i_Mo hown hK hP 0 rfl rfl 6 (by decide) (hts _ (big_in mw_1121 rfl)) (fun _ h9 => h9) rfl d_Mo_power_42 ?_
      refine lv_iload_n hx hb d_Mo_power_45 rfl (lv_at hl 2 rfl) ?_
      refine zz_iald hx hb hK hP 6 0 rfl rfl (a) (by omega) (by omega) (by omega) d_Mo_power_46 ?_
      rw [hMR.2.1 a (by omega)]
      refine zz_if_ne (tgt := 54) hx hb d_Mo_power_47 (by decide) (by omega) (fun c47 => ?_) (fun c47 => False.elim (by omega))
      refine lv_iconst (v := iZ (0)) hx hb d_Mo_power_54 (by decide +kernel) ?_
      refine cv (n := 1) (wr := [(ow, .inl (cI, 108000, .inl fw)), (om, .inl (cI, 9, .inl fm)), (oh, .inl (cI, 10000, .inl fh)), (ok_, .inl (cI, 166400, .inl fk)), (oK, .inl (cI, 64, .inl fK)), (og, .inl (cI, 32, .inl fs)), (on_, .inl (cI, 32, .inl fn))]) (w1 := (fun (u : Int) => [(mo, .inr (8, [.int (iZ 0), .int (iZ (np : Int)), .ref ow, .ref om, .ref ok_, .ref oK, .ref og, .ref on_, .ref oh, .ref ox, .int qn, .int qf, .ref op_, .int ql]))])) (As := [.int (iZ 0)]) (rest := []) K hP hD hK hS hA hl.1 (c_Mo_refuses l D mo qc np ow om ok_ oK og on_ oh ox qn qf op_ ql 0 H.size (by omega)) [0] [1, 2, 3, 4, 5, 6, 7] [] rfl rfl rfl (by decide) (by decide) (by decide) 0 rfl rfl (big_in mw_1176 rfl) (big_in mw_10 rfl) (big_in mw_1173 rfl) (big_in mw_1175 rfl) (big_in sp_18 rfl) rfl rfl (by decide +kernel) ⟨by rw [hR]; exact Nat.le_of_ble_eq_true rfl, by rw [hR]; exact Nat.le_of_ble_eq_true rfl⟩ rfl (Nat.le_of_ble_eq_true rfl) d_Mo_power_55 ⟨by rw [hR]; exact Nat.le_of_ble_eq_true rfl, by rw [hR]; exact Nat.le_of_ble_eq_true rfl⟩ rfl (fun v u H locs hp3 hP hD hS _ => ?_)
      obtain ⟨rf, rfl⟩ : ∃ z, z = u := ⟨_, rfl⟩
      obtain ⟨rfl, prf⟩ := hp3
      have hP : va_P D cls0 [(ow, .inl (cI, 108000, .inl fw)), (om, .inl (cI, 9, .inl fm)), (oh, .inl (cI, 10000, .inl fh)), (ok_, .inl (cI, 166400, .inl fk)), (oK, .inl (cI, 64, .inl fK)), (og, .inl (cI, 32, .inl fs)), (on_, .inl (cI, 32, .inl fn)), (mo, .inr (8, [.int (iZ 0), .int (iZ (np : Int)), .ref ow, .ref om, .ref ok_, .ref oK, .ref og, .ref on_, .ref oh, .ref ox, .int qn, .int qf, .ref op_, .int ql]))] H := hP
      have hD : va_D A [(ow, .inl (cI, 108000, .inl fw)), (om, .inl (cI, 9, .inl fm)), (oh, .inl (cI, 10000, .inl fh)), (ok_, .inl (cI, 166400, .inl fk)), (oK, .inl (cI, 64, .inl fK)), (og, .inl (cI, 32, .inl fs)), (on_, .inl (cI, 32, .inl fn)), (mo, .inr (8, [.int (iZ 0), .int (iZ (np : Int)), .ref ow, .ref om, .ref ok_, .ref oK, .ref og, .ref on_, .ref oh, .ref ox, .int qn, .int qf, .ref op_, .int ql]))] := hD
      show W p l e R s m args below meth c H locs _ _ Q (F0 m 58 ls [.int (iZ rf)])
      refine zz_if_eq (tgt := 63) hx hb d_Mo_power_58 (by decide) (by omega) (fun c58 => ?_) (fun c58 => False.elim (by omega))
      refine lv_iload_n hx hb d_Mo_power_63 rfl (lv_at hl 3 rfl) ?_
      refine zz_if_ge (tgt := 72) hx hb d_Mo_power_64 (by decide) (by omega) (fun c64 => False.elim (by omega)) (fun c64 => ?_)
      refine lv_iload_n hx hb d_Mo_power_67 rfl (lv_at hl 3 rfl) ?_
      refine zz_ineg hx hb d_Mo_power_68 ?_
      refine lv_goto (tgt := 73) hx hb d_Mo_power_69 (by decide) ?_
      refine lv_istore (lv' := [(4, .int (iZ (-(-(tm : Int))))), (0, .ref mo), (1, .int (iZ (to : Int))), (2, .int (iZ (a : Int))), (3, .int (iZ (-(tm : Int))))]) hx hb d_Mo_power_73 hl (by decide) rfl (fun ls hl => ?_)
      refine lv_aload_n hx hb d_Mo_power_75 rfl (lv_at hl 1 rfl) ?_
      refine lv_iconst (v := iZ (0)) hx hb d_Mo_power_76 (by decide +kernel) ?_
      refine lv_iconst (v := iZ (2)) hx hb d_Mo_power_77 (by decide +kernel) ?_
      refine lv_iload_n hx hb d_Mo_power_78 rfl (lv_at hl 3 rfl) ?_
      refine zz_imul hx hb d_Mo_power_79 ?_
      refine lv_iload_n hx hb d_Mo_power_80 rfl (lv_at hl 4 rfl) ?_
      refine zz_if_ge (tgt := 88) hx hb d_Mo_power_81 (by decide) (by omega) (fun c81 => False.elim (by omega)) (fun c81 => ?_)
      refine lv_iconst (v := iZ (1)) hx hb d_Mo_power_84 (by decide +kernel) ?_
      refine lv_goto (tgt := 89) hx hb d_Mo_power_85 (by decide) ?_
      refine zz_iadd hx hb d_Mo_power_89 ?_
      rw [show (2 * (a : Int) + 1 : Int) = ((2 * a + 1 : Nat) : Int) by omega]
      refine cv (n := 2) (wr := [(oh, .inl (cI, 10000, .inl fh)), (og, .inl (cI, 32, .inl fs)), (on_, .inl (cI, 32, .inl fn))]) (w1 := (fun (u : (Nat → Int32) × (Nat → Int32)) => [(mo, .inr (8, [.int (iZ 0), .int (iZ (np : Int)), .ref ow, .ref om, .ref ok_, .ref oK, .ref og, .ref on_, .ref oh, .ref ox, .int qn, .int qf, .ref op_, .int ql])), (ow, .inl (cI, 108000, .inl u.1)), (om, .inl (cI, 9, .inl u.2)), (ok_, .inl (cI, 166400, .inl fk)), (oK, .inl (cI, 64, .inl fK))])) (As := [.int (iZ 0), .int (iZ ((2 * a + 1 : Nat) : Int))]) (rest := []) K hP hD hK hS hA hl.1 (c_Mo_load l D mo (iZ 0) np ow om ok_ oK og on_ oh ox qn qf op_ ql fw fm cI fk fK val (kvf tv bv) 0 (2 * a + 1) H.size hW hMR.1 (by decide) (by omega)) [7, 0, 1, 3, 4] [2, 5, 6] [0] rfl rfl rfl (by decide) (by decide) (by decide) 0 rfl rfl (big_in mw_1238 rfl) (big_in mw_10 rfl) (big_in mw_1235 rfl) (big_in mw_1237 rfl) (big_in sp_31 rfl) rfl rfl (by decide +kernel) ⟨by rw [hR]; exact Nat.le_of_ble_eq_true rfl, by rw [hR]; exact Nat.le_of_ble_eq_true rfl⟩ rfl (Nat.le_of_ble_eq_true rfl) d_Mo_power_90 ⟨by rw [hR]; exact Nat.le_of_ble_eq_true rfl, by rw [hR]; exact Nat.le_of_ble_eq_true rfl⟩ rfl (fun v u H locs hp4 hP hD hS _ => ?_)
      obtain ⟨fx1, fy1⟩ := u
      try dsimp only at hp4
      obtain ⟨rfl, w1⟩ := hp4
      have hP : va_P D cls0 [(oh, .inl (cI, 10000, .inl fh)), (og, .inl (cI, 32, .inl fs)), (on_, .inl (cI, 32, .inl fn)), (mo, .inr (8, [.int (iZ 0), .int (iZ (np : Int)), .ref ow, .ref om, .ref ok_, .ref oK, .ref og, .ref on_, .ref oh, .ref ox, .int qn, .int qf, .ref op_, .int ql])), (ow, .inl (cI, 108000, .inl fx1)), (om, .inl (cI, 9, .inl fy1)), (ok_, .inl (cI, 166400, .inl fk)), (oK, .inl (cI, 64, .inl fK))] H := hP
      have hD : va_D A [(oh, .inl (cI, 10000, .inl fh)), (og, .inl (cI, 32, .inl fs)), (on_, .inl (cI, 32, .inl fn)), (mo, .inr (8, [.int (iZ 0), .int (iZ (np : Int)), .ref ow, .ref om, .ref ok_, .ref oK, .ref og, .ref on_, .ref oh, .ref ox, .int qn, .int qf, .ref op_, .int ql])), (ow, .inl (cI, 108000, .inl fx1)), (om, .inl (cI, 9, .inl fy1)), (ok_, .inl (cI, 166400, .inl fk)), (oK, .inl (cI, 64, .inl fK))] := hD
      show W p l e R s m args below meth c H locs _ _ Q (F0 m 93 ls [])
      rw [kvf_1] at w1
      obtain ⟨v1, hv1⟩ : ∃ z, z = up val 0 (bv a) := ⟨_, rfl⟩
      rw [← hv1] at w1
      refine lv_aload_n hx hb d_Mo_power_93 rfl (lv_at hl 1 rfl) ?_
      refine lv_iconst (v := iZ (1)) hx hb d_Mo_power_94 (by decide +kernel) ?_
      refine lv_iconst (v := iZ (2)) hx hb d_Mo_power_95 (by decide +kernel) ?_
      refine lv_iload_n hx hb d_Mo_power_96 rfl (lv_at hl 3 rfl) ?_
      refine zz_imul hx hb d_Mo_power_97 ?_
      refine lv_iload_n hx hb d_Mo_power_98 rfl (lv_at hl 4 rfl) ?_
      refine zz_if_ge (tgt := 106) hx hb d_Mo_power_99 (by decide) (by omega) (fun c99 => False.elim (by omega)) (fun c99 => ?_)
      refine lv_iconst (v := iZ (0)) hx hb d_Mo_power_102 (by decide +kernel) ?_
      refine lv_goto (tgt := 107) hx hb d_Mo_power_103 (by decide) ?_
      refine zz_iadd hx hb d_Mo_power_107 ?_
      rw [show (2 * (a : Int) + 0 : Int) = ((2 * a : Nat) : Int) by omega]
      refine cv (n := 2) (wr := [(oh, .inl (cI, 10000, .inl fh)), (og, .inl (cI, 32, .inl fs)), (on_, .inl (cI, 32, .inl fn))]) (w1 := (fun (u : (Nat → Int32) × (Nat → Int32)) => [(mo, .inr (8, [.int (iZ 0), .int (iZ (np : Int)), .ref ow, .ref om, .ref ok_, .ref oK, .ref og, .ref on_, .ref oh, .ref ox, .int qn, .int qf, .ref op_, .int ql])), (ow, .inl (cI, 108000, .inl u.1)), (om, .inl (cI, 9, .inl u.2)), (ok_, .inl (cI, 166400, .inl fk)), (oK, .inl (cI, 64, .inl fK))])) (As := [.int (iZ 1), .int (iZ ((2 * a : Nat) : Int))]) (rest := []) K hP hD hK hS hA hl.1 (c_Mo_load l D mo (iZ 0) np ow om ok_ oK og on_ oh ox qn qf op_ ql fx1 fy1 cI fk fK v1 (kvf tv bv) 1 (2 * a) H.size w1 hMR.1 (by decide) (by omega)) [3, 4, 5, 6, 7] [0, 1, 2] [0] rfl rfl rfl (by decide) (by decide) (by decide) 0 rfl rfl (big_in mw_1238 rfl) (big_in mw_10 rfl) (big_in mw_1235 rfl) (big_in mw_1237 rfl) (big_in sp_31 rfl) rfl rfl (by decide +kernel) ⟨by rw [hR]; exact Nat.le_of_ble_eq_true rfl, by rw [hR]; exact Nat.le_of_ble_eq_true rfl⟩ rfl (Nat.le_of_ble_eq_true rfl) d_Mo_power_108 ⟨by rw [hR]; exact Nat.le_of_ble_eq_true rfl, by rw [hR]; exact Nat.le_of_ble_eq_true rfl⟩ rfl (fun v u H locs hp5 hP hD hS _ => ?_)
      obtain ⟨fx2, fy2⟩ := u
      try dsimp only at hp5
      obtain ⟨rfl, w2⟩ := hp5
      have hP : va_P D cls0 [(oh, .inl (cI, 10000, .inl fh)), (og, .inl (cI, 32, .inl fs)), (on_, .inl (cI, 32, .inl fn)), (mo, .inr (8, [.int (iZ 0), .int (iZ (np : Int)), .ref ow, .ref om, .ref ok_, .ref oK, .ref og, .ref on_, .ref oh, .ref ox, .int qn, .int qf, .ref op_, .int ql])), (ow, .inl (cI, 108000, .inl fx2)), (om, .inl (cI, 9, .inl fy2)), (ok_, .inl (cI, 166400, .inl fk)), (oK, .inl (cI, 64, .inl fK))] H := hP
      have hD : va_D A [(oh, .inl (cI, 10000, .inl fh)), (og, .inl (cI, 32, .inl fs)), (on_, .inl (cI, 32, .inl fn)), (mo, .inr (8, [.int (iZ 0), .int (iZ (np : Int)), .ref ow, .ref om, .ref ok_, .ref oK, .ref og, .ref on_, .ref oh, .ref ox, .int qn, .int qf, .ref op_, .int ql])), (ow, .inl (cI, 108000, .inl fx2)), (om, .inl (cI, 9, .inl fy2)), (ok_, .inl (cI, 166400, .inl fk)), (oK, .inl (cI, 64, .inl fK))] := hD
      show W p l e R s m args below meth c H locs _ _ Q (F0 m 111 ls [])
      rw [kvf_0] at w2
      obtain ⟨v2, hv2⟩ : ∃ z, z = up v1 1 (tv a) := ⟨_, rfl⟩
      rw [← hv2] at w2
      have e0 : v2 0 = bv a := by rw [hv2, up_n (by decide), hv1, up_s]
      have e1 : v2 1 = tv a := by rw [hv2, up_s]
      refine lv_iload hx hb d_Mo_power_111 (lv_at hl 0 rfl) ?_
      refine zz_i2l hx hb d_Mo_power_113 (by omega) ?_
      refine lv_aload_n hx hb d_Mo_power_114 rfl (lv_at hl 1 rfl) ?_
      refine lv_iconst (v := iZ (0)) hx hb d_Mo_power_115 (by decide +kernel) ?_
      refine cv (n := 1) (wr := [(og, .inl (cI, 32, .inl fs)), (on_, .inl (cI, 32, .inl fn)), (ok_, .inl (cI, 166400, .inl fk)), (oK, .inl (cI, 64, .inl fK))]) (w1 := (fun (u : Int × (Nat → Int32) × (Nat → Int32) × (Nat → Int32)) => [(mo, .inr (8, [.int (iZ 0), .int (iZ (np : Int)), .ref ow, .ref om, .ref ok_, .ref oK, .ref og, .ref on_, .ref oh, .ref ox, .int qn, .int qf, .ref op_, .int ql])), (ow, .inl (cI, 108000, .inl u.2.1)), (om, .inl (cI, 9, .inl u.2.2.1)), (oh, .inl (cI, 10000, .inl u.2.2.2))])) (As := [.int (iZ 0)]) (rest := [.long (lZ (-(-(tm : Int))))]) K hP hD hK hS hA hl.1 (c_Mo_bits l D mo (iZ 0) np ow om ok_ oK og on_ oh ox qn qf op_ ql fx2 fy2 cI fh v2 0 H.size w2 (by decide) (by decide) (hB_lm (by rw [e0]; omega))) [3, 4, 5, 0] [1, 2, 6, 7] [0] rfl rfl rfl (by decide) (by decide) (by decide) 0 rfl rfl (big_in mw_1298 rfl) (big_in mw_10 rfl) (big_in mw_1295 rfl) (big_in mw_1297 rfl) (big_in sp_40 rfl) rfl rfl (by decide +kernel) ⟨by rw [hR]; exact Nat.le_of_ble_eq_true rfl, by rw [hR]; exact Nat.le_of_ble_eq_true rfl⟩ rfl (Nat.le_of_ble_eq_true rfl) d_Mo_power_116 ⟨by rw [hR]; exact Nat.le_of_ble_eq_true rfl, by rw [hR]; exact Nat.le_of_ble_eq_true rfl⟩ rfl (fun v u H locs hp6 hP hD hS _ => ?_)
      obtain ⟨rb3, fx3, fy3, fh3⟩ := u
      try dsimp only at hp6
      obtain ⟨rfl, eb3, w3⟩ := hp6
      have hP : va_P D cls0 [(og, .inl (cI, 32, .inl fs)), (on_, .inl (cI, 32, .inl fn)), (ok_, .inl (cI, 166400, .inl fk)), (oK, .inl (cI, 64, .inl fK)), (mo, .inr (8, [.int (iZ 0), .int (iZ (np : Int)), .ref ow, .ref om, .ref ok_, .ref oK, .ref og, .ref on_, .ref oh, .ref ox, .int qn, .int qf, .ref op_, .int ql])), (ow, .inl (cI, 108000, .inl fx3)), (om, .inl (cI, 9, .inl fy3)), (oh, .inl (cI, 10000, .inl fh3))] H := hP
      have hD : va_D A [(og, .inl (cI, 32, .inl fs)), (on_, .inl (cI, 32, .inl fn)), (ok_, .inl (cI, 166400, .inl fk)), (oK, .inl (cI, 64, .inl fK)), (mo, .inr (8, [.int (iZ 0), .int (iZ (np : Int)), .ref ow, .ref om, .ref ok_, .ref oK, .ref og, .ref on_, .ref oh, .ref ox, .int qn, .int qf, .ref op_, .int ql])), (ow, .inl (cI, 108000, .inl fx3)), (om, .inl (cI, 9, .inl fy3)), (oh, .inl (cI, 10000, .inl fh3))] := hD
      show W p l e R s m args below meth c H locs _ _ Q (F0 m 119 ls [.int (iZ rb3), .long (lZ (-(-(tm : Int))))])
      rw [e0] at eb3
      subst eb3
      obtain ⟨v3, hv3⟩ : ∃ z, z = up v2 4 0 := ⟨_, rfl⟩
      rw [← hv3] at w3
      have z30 : v3 0 = bv a := by rw [hv3, up_n (by decide)]; exact e0
      have z31 : v3 1 = tv a := by rw [hv3, up_n (by decide)]; exact e1
      refine lv_aload_n hx hb d_Mo_power_119 rfl (lv_at hl 1 rfl) ?_
      refine lv_iconst (v := iZ (1)) hx hb d_Mo_power_120 (by decide +kernel) ?_
      refine cv (n := 1) (wr := [(og, .inl (cI, 32, .inl fs)), (on_, .inl (cI, 32, .inl fn)), (ok_, .inl (cI, 166400, .inl fk)), (oK, .inl (cI, 64, .inl fK))]) (w1 := (fun (u : Int × (Nat → Int32) × (Nat → Int32) × (Nat → Int32)) => [(mo, .inr (8, [.int (iZ 0), .int (iZ (np : Int)), .ref ow, .ref om, .ref ok_, .ref oK, .ref og, .ref on_, .ref oh, .ref ox, .int qn, .int qf, .ref op_, .int ql])), (ow, .inl (cI, 108000, .inl u.2.1)), (om, .inl (cI, 9, .inl u.2.2.1)), (oh, .inl (cI, 10000, .inl u.2.2.2))])) (As := [.int (iZ 1)]) (rest := [.int (iZ (bl (bv a) : Int)), .long (lZ (-(-(tm : Int))))]) K hP hD hK hS hA hl.1 (c_Mo_bits l D mo (iZ 0) np ow om ok_ oK og on_ oh ox qn qf op_ ql fx3 fy3 cI fh3 v3 1 H.size w3 (by decide) (by decide) (hB_lm (by rw [z31]; omega))) [4, 5, 6, 7] [0, 1, 2, 3] [0] rfl rfl rfl (by decide) (by decide) (by decide) 0 rfl rfl (big_in mw_1298 rfl) (big_in mw_10 rfl) (big_in mw_1295 rfl) (big_in mw_1297 rfl) (big_in sp_40 rfl) rfl rfl (by decide +kernel) ⟨by rw [hR]; exact Nat.le_of_ble_eq_true rfl, by rw [hR]; exact Nat.le_of_ble_eq_true rfl⟩ rfl (Nat.le_of_ble_eq_true rfl) d_Mo_power_121 ⟨by rw [hR]; exact Nat.le_of_ble_eq_true rfl, by rw [hR]; exact Nat.le_of_ble_eq_true rfl⟩ rfl (fun v u H locs hp7 hP hD hS _ => ?_)
      obtain ⟨rb4, fx4, fy4, fh4⟩ := u
      try dsimp only at hp7
      obtain ⟨rfl, eb4, w4⟩ := hp7
      have hP : va_P D cls0 [(og, .inl (cI, 32, .inl fs)), (on_, .inl (cI, 32, .inl fn)), (ok_, .inl (cI, 166400, .inl fk)), (oK, .inl (cI, 64, .inl fK)), (mo, .inr (8, [.int (iZ 0), .int (iZ (np : Int)), .ref ow, .ref om, .ref ok_, .ref oK, .ref og, .ref on_, .ref oh, .ref ox, .int qn, .int qf, .ref op_, .int ql])), (ow, .inl (cI, 108000, .inl fx4)), (om, .inl (cI, 9, .inl fy4)), (oh, .inl (cI, 10000, .inl fh4))] H := hP
      have hD : va_D A [(og, .inl (cI, 32, .inl fs)), (on_, .inl (cI, 32, .inl fn)), (ok_, .inl (cI, 166400, .inl fk)), (oK, .inl (cI, 64, .inl fK)), (mo, .inr (8, [.int (iZ 0), .int (iZ (np : Int)), .ref ow, .ref om, .ref ok_, .ref oK, .ref og, .ref on_, .ref oh, .ref ox, .int qn, .int qf, .ref op_, .int ql])), (ow, .inl (cI, 108000, .inl fx4)), (om, .inl (cI, 9, .inl fy4)), (oh, .inl (cI, 10000, .inl fh4))] := hD
      show W p l e R s m args below meth c H locs _ _ Q (F0 m 124 ls [.int (iZ rb4), .int (iZ (bl (bv a) : Int)), .long (lZ (-(-(tm : Int))))])
      rw [z31] at eb4
      subst eb4
      obtain ⟨v4, hv4⟩ : ∃ z, z = up v3 4 0 := ⟨_, rfl⟩
      rw [← hv4] at w4
      have z40 : v4 0 = bv a := by rw [hv4, up_n (by decide)]; exact z30
      have z41 : v4 1 = tv a := by rw [hv4, up_n (by decide)]; exact z31
      refine zz_iadd hx hb d_Mo_power_124 ?_
      refine lv_iconst (v := iZ (2)) hx hb d_Mo_power_125 (by decide +kernel) ?_
      refine zz_isub hx hb d_Mo_power_126 ?_
      refine zz_i2l hx hb d_Mo_power_127 (by omega) ?_
      refine zz_lmul hx hb d_Mo_power_128 ?_
      obtain ⟨lv, hlv⟩ : ∃ z : Int, z = ((tm : Int) * ((bl (bv a) : Int) + (bl (tv a) : Int) - 2)) := ⟨_, rfl⟩
      rw [show ((-(-(tm : Int))) * ((bl (bv a) : Int) + (bl (tv a) : Int) - 2) : Int) = lv by rw [hlv]; first | done | rw [Int.neg_neg]]
      have blv : -3000 ≤ lv ∧ lv < 1000000000 := by rw [hlv]; exact pw_rng htm (by have z := bl_le_lm (bv a); omega) (by have z := bl_le_lm (tv a); omega)
      refine lv_lstore (lv' := [(5, .long (lZ lv)), (4, .int (iZ (-(-(tm : Int))))), (0, .ref mo), (1, .int (iZ (to : Int))), (2, .int (iZ (a : Int))), (3, .int (iZ (-(tm : Int))))]) hx hb d_Mo_power_129 hl (by decide) rfl (fun ls hl => ?_)
      refine lv_aload_n hx hb d_Mo_power_131 rfl (lv_at hl 2 rfl) ?_
      refine va_get (D := D) (ci := 8) (v := .ref og) (C := R_Mo) (T := F_Mo) (N := 14) hx hb hts i_Mo hown hK hP 4 rfl rfl 6 (by decide) (hts _ (big_in mw_1121 rfl)) (fun _ h9 => h9) rfl d_Mo_power_132 ?_
      refine lv_iload_n hx hb d_Mo_power_135 rfl (lv_at hl 4 rfl) ?_
      refine zz_iald hx hb hK hP 0 0 rfl rfl (a) (by omega) (by omega) (by omega) d_Mo_power_136 ?_
      rw [hMR.2.1 a (by omega)]
      refine zz_if_eq (tgt := 163) hx hb d_Mo_power_137 (by decide) (by omega) (fun c137 => False.elim (by omega)) (fun c137 => ?_)
      have ta0 : 0 < tv a := Nat.pos_of_ne_zero (fun z => by have y := ja2.mpr z; omega)
      refine lv_aload_n hx hb d_Mo_power_140 rfl (lv_at hl 2 rfl) ?_
      refine lv_lload hx hb d_Mo_power_141 (lv_at hl 0 rfl) ?_
      refine lv_ldc2 (v := lZ (33000)) hx hb hown (hts _ (big_in mw_1299 rfl)) d_Mo_power_143 ?_
      refine zz_lcmp_le (tgt := 154) hx hb d_Mo_power_146 d_Mo_power_147 (by decide) (by omega) (by omega) (fun c146 => ?_) (fun c146 => ?_)
      · refine lv_iconst (v := iZ (0)) hx hb d_Mo_power_154 (by decide +kernel) ?_
        refine cv (n := 1) (wr := [(og, .inl (cI, 32, .inl fs)), (on_, .inl (cI, 32, .inl fn)), (ok_, .inl (cI, 166400, .inl fk)), (oK, .inl (cI, 64, .inl fK)), (ow, .inl (cI, 108000, .inl fx4)), (om, .inl (cI, 9, .inl fy4)), (oh, .inl (cI, 10000, .inl fh4))]) (w1 := (fun (u : Int) => [(mo, .inr (8, [.int (iZ 0), .int (iZ (np : Int)), .ref ow, .ref om, .ref ok_, .ref oK, .ref og, .ref on_, .ref oh, .ref ox, .int qn, .int qf, .ref op_, .int ql]))])) (As := [.int (iZ 0)]) (rest := []) K hP hD hK hS hA hl.1 (c_Mo_refuses l D mo (iZ 0) np ow om ok_ oK og on_ oh ox qn qf op_ ql 0 H.size (by omega)) [4] [0, 1, 2, 3, 5, 6, 7] [] rfl rfl rfl (by decide) (by decide) (by decide) 0 rfl rfl (big_in mw_1176 rfl) (big_in mw_10 rfl) (big_in mw_1173 rfl) (big_in mw_1175 rfl) (big_in sp_18 rfl) rfl rfl (by decide +kernel) ⟨by rw [hR]; exact Nat.le_of_ble_eq_true rfl, by rw [hR]; exact Nat.le_of_ble_eq_true rfl⟩ rfl (Nat.le_of_ble_eq_true rfl) d_Mo_power_155 ⟨by rw [hR]; exact Nat.le_of_ble_eq_true rfl, by rw [hR]; exact Nat.le_of_ble_eq_true rfl⟩ rfl (fun v u H locs hp8 hP hD hS _ => ?_)
        obtain ⟨rf2, rfl⟩ : ∃ z, z = u := ⟨_, rfl⟩
        obtain ⟨rfl, prf2⟩ := hp8
        have hP : va_P D cls0 [(og, .inl (cI, 32, .inl fs)), (on_, .inl (cI, 32, .inl fn)), (ok_, .inl (cI, 166400, .inl fk)), (oK, .inl (cI, 64, .inl fK)), (ow, .inl (cI, 108000, .inl fx4)), (om, .inl (cI, 9, .inl fy4)), (oh, .inl (cI, 10000, .inl fh4)), (mo, .inr (8, [.int (iZ 0), .int (iZ (np : Int)), .ref ow, .ref om, .ref ok_, .ref oK, .ref og, .ref on_, .ref oh, .ref ox, .int qn, .int qf, .ref op_, .int ql]))] H := hP
        have hD : va_D A [(og, .inl (cI, 32, .inl fs)), (on_, .inl (cI, 32, .inl fn)), (ok_, .inl (cI, 166400, .inl fk)), (oK, .inl (cI, 64, .inl fK)), (ow, .inl (cI, 108000, .inl fx4)), (om, .inl (cI, 9, .inl fy4)), (oh, .inl (cI, 10000, .inl fh4)), (mo, .inr (8, [.int (iZ 0), .int (iZ (np : Int)), .ref ow, .ref om, .ref ok_, .ref oK, .ref og, .ref on_, .ref oh, .ref ox, .int qn, .int qf, .ref op_, .int ql]))] := hD
        show W p l e R s m args below meth c H locs _ _ Q (F0 m 158 ls [.int (iZ rf2)])
        refine zz_if_eq (tgt := 163) hx hb d_Mo_power_158 (by decide) (by omega) (fun c158 => ?_) (fun c158 => False.elim (by omega))
        refine lv_aload_n hx hb d_Mo_power_163 rfl (lv_at hl 2 rfl) ?_
        refine lv_iconst (v := iZ (0)) hx hb d_Mo_power_164 (by decide +kernel) ?_
        refine lv_iload hx hb d_Mo_power_165 (lv_at hl 1 rfl) ?_
        have cap := pw_cap (u := bv a) (w := tv a) htm (by rw [← hlv]; omega)
        rw [show (-(-(tm : Int)) : Int) = (tm : Int) by omega]
        refine cv (n := 2) (wr := [(og, .inl (cI, 32, .inl fs)), (on_, .inl (cI, 32, .inl fn)), (ok_, .inl (cI, 166400, .inl fk)), (oK, .inl (cI, 64, .inl fK)), (oh, .inl (cI, 10000, .inl fh4))]) (w1 := (fun (u : (Nat → Int32) × (Nat → Int32) × (Nat → Nat)) => [(mo, .inr (8, [.int (iZ 0), .int (iZ (np : Int)), .ref ow, .ref om, .ref ok_, .ref oK, .ref og, .ref on_, .ref oh, .ref ox, .int qn, .int qf, .ref op_, .int ql])), (ow, .inl (cI, 108000, .inl u.1)), (om, .inl (cI, 9, .inl u.2.1))])) (As := [.int (iZ 0), .int (iZ (tm : Int))]) (rest := []) K hP hD hK hS hA hl.1 (c_Mo_raise l D mo (iZ 0) np ow om ok_ oK og on_ oh ox qn qf op_ ql fx4 fy4 cI v4 0 tm H.size w4 (by decide) htm (by rw [z40]; exact pw_nd cap.1) (w4.n (by decide))) [7, 4, 5] [0, 1, 2, 3, 6] [0] rfl rfl rfl (by decide) (by decide) (by decide) 0 rfl rfl (big_in mw_1303 rfl) (big_in mw_10 rfl) (big_in mw_1300 rfl) (big_in mw_1302 rfl) (big_in sp_41 rfl) rfl rfl (by decide +kernel) ⟨by rw [hR]; exact Nat.le_of_ble_eq_true rfl, by rw [hR]; exact Nat.le_of_ble_eq_true rfl⟩ rfl (Nat.le_of_ble_eq_true rfl) d_Mo_power_167 ⟨by rw [hR]; exact Nat.le_of_ble_eq_true rfl, by rw [hR]; exact Nat.le_of_ble_eq_true rfl⟩ rfl (fun v u H locs hp9 hP hD hS _ => ?_)
        obtain ⟨fx5, fy5, v5⟩ := u
        try dsimp only at hp9
        obtain ⟨rfl, w5, z50, z5o⟩ := hp9
        have hP : va_P D cls0 [(og, .inl (cI, 32, .inl fs)), (on_, .inl (cI, 32, .inl fn)), (ok_, .inl (cI, 166400, .inl fk)), (oK, .inl (cI, 64, .inl fK)), (oh, .inl (cI, 10000, .inl fh4)), (mo, .inr (8, [.int (iZ 0), .int (iZ (np : Int)), .ref ow, .ref om, .ref ok_, .ref oK, .ref og, .ref on_, .ref oh, .ref ox, .int qn, .int qf, .ref op_, .int ql])), (ow, .inl (cI, 108000, .inl fx5)), (om, .inl (cI, 9, .inl fy5))] H := hP
        have hD : va_D A [(og, .inl (cI, 32, .inl fs)), (on_, .inl (cI, 32, .inl fn)), (ok_, .inl (cI, 166400, .inl fk)), (oK, .inl (cI, 64, .inl fK)), (oh, .inl (cI, 10000, .inl fh4)), (mo, .inr (8, [.int (iZ 0), .int (iZ (np : Int)), .ref ow, .ref om, .ref ok_, .ref oK, .ref og, .ref on_, .ref oh, .ref ox, .int qn, .int qf, .ref op_, .int ql])), (ow, .inl (cI, 108000, .inl fx5)), (om, .inl (cI, 9, .inl fy5))] := hD
        show W p l e R s m args below meth c H locs _ _ Q (F0 m 170 ls [])
        rw [z40] at z50
        have z51 : v5 1 = tv a := by rw [z5o 1 (by decide) (by decide)]; exact z41
        refine lv_aload_n hx hb d_Mo_power_170 rfl (lv_at hl 2 rfl) ?_
        refine lv_iconst (v := iZ (1)) hx hb d_Mo_power_171 (by decide +kernel) ?_
        refine lv_iload hx hb d_Mo_power_172 (lv_at hl 1 rfl) ?_
        rw [show (-(-(tm : Int)) : Int) = (tm : Int) by omega]
        refine cv (n := 2) (wr := [(og, .inl (cI, 32, .inl fs)), (on_, .inl (cI, 32, .inl fn)), (ok_, .inl (cI, 166400, .inl fk)), (oK, .inl (cI, 64, .inl fK)), (oh, .inl (cI, 10000, .inl fh4))]) (w1 := (fun (u : (Nat → Int32) × (Nat → Int32) × (Nat → Nat)) => [(mo, .inr (8, [.int (iZ 0), .int (iZ (np : Int)), .ref ow, .ref om, .ref ok_, .ref oK, .ref og, .ref on_, .ref oh, .ref ox, .int qn, .int qf, .ref op_, .int ql])), (ow, .inl (cI, 108000, .inl u.1)), (om, .inl (cI, 9, .inl u.2.1))])) (As := [.int (iZ 1), .int (iZ (tm : Int))]) (rest := []) K hP hD hK hS hA hl.1 (c_Mo_raise l D mo (iZ 0) np ow om ok_ oK og on_ oh ox qn qf op_ ql fx5 fy5 cI v5 1 tm H.size w5 (by decide) htm (by rw [z51]; exact pw_nd cap.2) (w5.n (by decide))) [5, 6, 7] [0, 1, 2, 3, 4] [0] rfl rfl rfl (by decide) (by decide) (by decide) 0 rfl rfl (big_in mw_1303 rfl) (big_in mw_10 rfl) (big_in mw_1300 rfl) (big_in mw_1302 rfl) (big_in sp_41 rfl) rfl rfl (by decide +kernel) ⟨by rw [hR]; exact Nat.le_of_ble_eq_true rfl, by rw [hR]; exact Nat.le_of_ble_eq_true rfl⟩ rfl (Nat.le_of_ble_eq_true rfl) d_Mo_power_174 ⟨by rw [hR]; exact Nat.le_of_ble_eq_true rfl, by rw [hR]; exact Nat.le_of_ble_eq_true rfl⟩ rfl (fun v u H locs hp10 hP hD hS _ => ?_)
        obtain ⟨fx6, fy6, v6⟩ := u
        try dsimp only at hp10
        obtain ⟨rfl, w6, z61, z6o⟩ := hp10
        have hP : va_P D cls0 [(og, .inl (cI, 32, .inl fs)), (on_, .inl (cI, 32, .inl fn)), (ok_, .inl (cI, 166400, .inl fk)), (oK, .inl (cI, 64, .inl fK)), (oh, .inl (cI, 10000, .inl fh4)), (mo, .inr (8, [.int (iZ 0), .int (iZ (np : Int)), .ref ow, .ref om, .ref ok_, .ref oK, .ref og, .ref on_, .ref oh, .ref ox, .int qn, .int qf, .ref op_, .int ql])), (ow, .inl (cI, 108000, .inl fx6)), (om, .inl (cI, 9, .inl fy6))] H := hP
        have hD : va_D A [(og, .inl (cI, 32, .inl fs)), (on_, .inl (cI, 32, .inl fn)), (ok_, .inl (cI, 166400, .inl fk)), (oK, .inl (cI, 64, .inl fK)), (oh, .inl (cI, 10000, .inl fh4)), (mo, .inr (8, [.int (iZ 0), .int (iZ (np : Int)), .ref ow, .ref om, .ref ok_, .ref oK, .ref og, .ref on_, .ref oh, .ref ox, .int qn, .int qf, .ref op_, .int ql])), (ow, .inl (cI, 108000, .inl fx6)), (om, .inl (cI, 9, .inl fy6))] := hD
        show W p l e R s m args below meth c H locs _ _ Q (F0 m 177 ls [])
        rw [z51] at z61
        have z60 : v6 0 = (bv a) ^ tm := by rw [z6o 0 (by decide) (by decide)]; exact z50
        refine lv_aload_n hx hb d_Mo_power_177 rfl (lv_at hl 2 rfl) ?_
        refine lv_iload_n hx hb d_Mo_power_178 rfl (lv_at hl 3 rfl) ?_
        refine lv_iload hx hb d_Mo_power_179 (lv_at hl 1 rfl) ?_
        refine lv_iconst (v := iZ (2)) hx hb d_Mo_power_181 (by decide +kernel) ?_
        refine zz_irem hx hb d_Mo_power_182 (by omega) (by omega) ?_
        refine lv_iconst (v := iZ (1)) hx hb d_Mo_power_183 (by decide +kernel) ?_
        refine zz_icmp_ne (tgt := 196) hx hb d_Mo_power_184 (by decide) (by omega) (by omega) (fun c184 => ?_) (fun c184 => ?_)
        · refine lv_iconst (v := iZ (1)) hx hb d_Mo_power_196 (by decide +kernel) ?_
          refine lv_iconst (v := iZ (4)) hx hb d_Mo_power_197 (by decide +kernel) ?_
          refine cv (n := 3) (wr := []) (w1 := (fun (u : (Nat → Int32) × (Nat → Int32) × (Nat → Int32) × (Nat → Nat)) => [(mo, .inr (8, [.int (iZ 4), .int (iZ (np : Int)), .ref ow, .ref om, .ref ok_, .ref oK, .ref og, .ref on_, .ref oh, .ref ox, .int qn, .int qf, .ref op_, .int ql])), (ow, .inl (cI, 108000, .inl u.1)), (om, .inl (cI, 9, .inl u.2.1)), (oh, .inl (cI, 10000, .inl u.2.2.1)), (ok_, .inl (cI, 166400, .inl fk)), (oK, .inl (cI, 64, .inl fK)), (og, .inl (cI, 32, .inl fs)), (on_, .inl (cI, 32, .inl fn))])) (As := [.int (iZ (to : Int)), .int (iZ 1), .int (iZ 4)]) (rest := []) K hP hD hK hS hA hl.1 (c_Mo_storeX l D mo (iZ 0) np ow om ok_ oK og on_ oh ox qn qf op_ ql fx6 fy6 cI fh4 fk fK fs fn v6 tv bv sg to 1 4 H.size w6 hMR (by omega) hnd hnp (by omega) (by decide) (by rw [z60]; exact pw_lm cap.1) (by rw [z61]; exact pw_lm cap.2) (by rw [z60, z61]; exact hfit)) [5, 6, 7, 4, 2, 3, 0, 1] [] [0] rfl rfl rfl (by decide) (by decide) (by decide) 0 rfl rfl (big_in mw_1215 rfl) (big_in mw_10 rfl) (big_in mw_1212 rfl) (big_in mw_1214 rfl) (big_in sp_27 rfl) rfl rfl (by decide +kernel) ⟨by rw [hR]; exact Nat.le_of_ble_eq_true rfl, by rw [hR]; exact Nat.le_of_ble_eq_true rfl⟩ rfl (Nat.le_of_ble_eq_true rfl) d_Mo_power_198 ⟨by rw [hR]; exact Nat.le_of_ble_eq_true rfl, by rw [hR]; exact Nat.le_of_ble_eq_true rfl⟩ rfl (fun v u H locs hp11 hP hD hS _ => ?_)
          obtain ⟨fa, fb, fc, v9⟩ := u
          try dsimp only at hp11
          obtain ⟨rfl, w9⟩ := hp11
          have hP : va_P D cls0 [(mo, .inr (8, [.int (iZ 4), .int (iZ (np : Int)), .ref ow, .ref om, .ref ok_, .ref oK, .ref og, .ref on_, .ref oh, .ref ox, .int qn, .int qf, .ref op_, .int ql])), (ow, .inl (cI, 108000, .inl fa)), (om, .inl (cI, 9, .inl fb)), (oh, .inl (cI, 10000, .inl fc)), (ok_, .inl (cI, 166400, .inl fk)), (oK, .inl (cI, 64, .inl fK)), (og, .inl (cI, 32, .inl fs)), (on_, .inl (cI, 32, .inl fn))] H := hP
          have hD : va_D A [(mo, .inr (8, [.int (iZ 4), .int (iZ (np : Int)), .ref ow, .ref om, .ref ok_, .ref oK, .ref og, .ref on_, .ref oh, .ref ox, .int qn, .int qf, .ref op_, .int ql])), (ow, .inl (cI, 108000, .inl fa)), (om, .inl (cI, 9, .inl fb)), (oh, .inl (cI, 10000, .inl fc)), (ok_, .inl (cI, 166400, .inl fk)), (oK, .inl (cI, 64, .inl fK)), (og, .inl (cI, 32, .inl fs)), (on_, .inl (cI, 32, .inl fn))] := hD
          show W p l e R s m args below meth c H locs _ _ Q (F0 m 201 ls [.int (iZ 0)])
          have hP9 : va_P D cls0 [(mo, .inr (8, [.int (iZ 4), .int (iZ (np : Int)), .ref ow, .ref om, .ref ok_, .ref oK, .ref og, .ref on_, .ref oh, .ref ox, .int qn, .int qf, .ref op_, .int ql])), (ow, .inl (cI, 108000, .inl fa)), (om, .inl (cI, 9, .inl fb)), (oh, .inl (cI, 10000, .inl fc)), (ok_, .inl (cI, 166400, .inl fk)), (oK, .inl (cI, 64, .inl fK)), (og, .inl (cI, 32, .inl fs)), (on_, .inl (cI, 32, .inl fn))] H := hP.sub [0, 1, 2, 3, 4, 5, 6, 7] rfl
          have hD9 : va_D A [(mo, .inr (8, [.int (iZ 4), .int (iZ (np : Int)), .ref ow, .ref om, .ref ok_, .ref oK, .ref og, .ref on_, .ref oh, .ref ox, .int qn, .int qf, .ref op_, .int ql])), (ow, .inl (cI, 108000, .inl fa)), (om, .inl (cI, 9, .inl fb)), (oh, .inl (cI, 10000, .inl fc)), (ok_, .inl (cI, 166400, .inl fk)), (oK, .inl (cI, 64, .inl fK)), (og, .inl (cI, 32, .inl fs)), (on_, .inl (cI, 32, .inl fn))] := hD.sub [0, 1, 2, 3, 4, 5, 6, 7] (by decide) rfl
          rw [hQ, ← hAe]
          refine r_i (v := (iZ 0)) K (fa, fb, fc, v9) hS d_Mo_power_201 ?_ (fun t ht hv => ?_)
          · exact ⟨rfl, w9⟩
          · exact ⟨by rw [ht]; exact hP9, va_K.moved hv hK, by rw [← hAe]; exact hD9⟩
        · refine lv_aload_n hx hb d_Mo_power_187 rfl (lv_at hl 2 rfl) ?_
          refine va_get (D := D) (ci := 8) (v := .ref og) (C := R_Mo) (T := F_Mo) (N := 14) hx hb hts i_Mo hown hK hP 5 rfl rfl 6 (by decide) (hts _ (big_in mw_1121 rfl)) (fun _ h9 => h9) rfl d_Mo_power_188 ?_
          refine lv_iload_n hx hb d_Mo_power_191 rfl (lv_at hl 4 rfl) ?_
          refine zz_iald hx hb hK hP 0 0 rfl rfl (a) (by omega) (by omega) (by omega) d_Mo_power_192 ?_
          rw [hMR.2.1 a (by omega)]
          refine lv_goto (tgt := 197) hx hb d_Mo_power_193 (by decide) ?_
          refine lv_iconst (v := iZ (4)) hx hb d_Mo_power_197 (by decide +kernel) ?_
          refine cv (n := 3) (wr := []) (w1 := (fun (u : (Nat → Int32) × (Nat → Int32) × (Nat → Int32) × (Nat → Nat)) => [(mo, .inr (8, [.int (iZ 4), .int (iZ (np : Int)), .ref ow, .ref om, .ref ok_, .ref oK, .ref og, .ref on_, .ref oh, .ref ox, .int qn, .int qf, .ref op_, .int ql])), (ow, .inl (cI, 108000, .inl u.1)), (om, .inl (cI, 9, .inl u.2.1)), (oh, .inl (cI, 10000, .inl u.2.2.1)), (ok_, .inl (cI, 166400, .inl fk)), (oK, .inl (cI, 64, .inl fK)), (og, .inl (cI, 32, .inl fs)), (on_, .inl (cI, 32, .inl fn))])) (As := [.int (iZ (to : Int)), .int (iZ (sg a)), .int (iZ 4)]) (rest := []) K hP hD hK hS hA hl.1 (c_Mo_storeX l D mo (iZ 0) np ow om ok_ oK og on_ oh ox qn qf op_ ql fx6 fy6 cI fh4 fk fK fs fn v6 tv bv sg to (sg a) 4 H.size w6 hMR (by omega) hnd hnp (by omega) (by decide) (by rw [z60]; exact pw_lm cap.1) (by rw [z61]; exact pw_lm cap.2) (by rw [z60, z61]; exact hfit)) [5, 6, 7, 4, 2, 3, 0, 1] [] [0] rfl rfl rfl (by decide) (by decide) (by decide) 0 rfl rfl (big_in mw_1215 rfl) (big_in mw_10 rfl) (big_in mw_1212 rfl) (big_in mw_1214 rfl) (big_in sp_27 rfl) rfl rfl (by decide +kernel) ⟨by rw [hR]; exact Nat.le_of_ble_eq_true rfl, by rw [hR]; exact Nat.le_of_ble_eq_true rfl⟩ rfl (Nat.le_of_ble_eq_true rfl) d_Mo_power_198 ⟨by rw [hR]; exact Nat.le_of_ble_eq_true rfl, by rw [hR]; exact Nat.le_of_ble_eq_true rfl⟩ rfl (fun v u H locs hp12 hP hD hS _ => ?_)
          obtain ⟨fa, fb, fc, v9⟩ := u
          try dsimp only at hp12
          obtain ⟨rfl, w9⟩ := hp12
          have hP : va_P D cls0 [(mo, .inr (8, [.int (iZ 4), .int (iZ (np : Int)), .ref ow, .ref om, .ref ok_, .ref oK, .ref og, .ref on_, .ref oh, .ref ox, .int qn, .int qf, .ref op_, .int ql])), (ow, .inl (cI, 108000, .inl fa)), (om, .inl (cI, 9, .inl fb)), (oh, .inl (cI, 10000, .inl fc)), (ok_, .inl (cI, 166400, .inl fk)), (oK, .inl (cI, 64, .inl fK)), (og, .inl (cI, 32, .inl fs)), (on_, .inl (cI, 32, .inl fn))] H := hP
          have hD : va_D A [(mo, .inr (8, [.int (iZ 4), .int (iZ (np : Int)), .ref ow, .ref om, .ref ok_, .ref oK, .ref og, .ref on_, .ref oh, .ref ox, .int qn, .int qf, .ref op_, .int ql])), (ow, .inl (cI, 108000, .inl fa)), (om, .inl (cI, 9, .inl fb)), (oh, .inl (cI, 10000, .inl fc)), (ok_, .inl (cI, 166400, .inl fk)), (oK, .inl (cI, 64, .inl fK)), (og, .inl (cI, 32, .inl fs)), (on_, .inl (cI, 32, .inl fn))] := hD
          show W p l e R s m args below meth c H locs _ _ Q (F0 m 201 ls [.int (iZ 0)])
          have hP9 : va_P D cls0 [(mo, .inr (8, [.int (iZ 4), .int (iZ (np : Int)), .ref ow, .ref om, .ref ok_, .ref oK, .ref og, .ref on_, .ref oh, .ref ox, .int qn, .int qf, .ref op_, .int ql])), (ow, .inl (cI, 108000, .inl fa)), (om, .inl (cI, 9, .inl fb)), (oh, .inl (cI, 10000, .inl fc)), (ok_, .inl (cI, 166400, .inl fk)), (oK, .inl (cI, 64, .inl fK)), (og, .inl (cI, 32, .inl fs)), (on_, .inl (cI, 32, .inl fn))] H := hP.sub [0, 1, 2, 3, 4, 5, 6, 7] rfl
          have hD9 : va_D A [(mo, .inr (8, [.int (iZ 4), .int (iZ (np : Int)), .ref ow, .ref om, .ref ok_, .ref oK, .ref og, .ref on_, .ref oh, .ref ox, .int qn, .int qf, .ref op_, .int ql])), (ow, .inl (cI, 108000, .inl fa)), (om, .inl (cI, 9, .inl fb)), (oh, .inl (cI, 10000, .inl fc)), (ok_, .inl (cI, 166400, .inl fk)), (oK, .inl (cI, 64, .inl fK)), (og, .inl (cI, 32, .inl fs)), (on_, .inl (cI, 32, .inl fn))] := hD.sub [0, 1, 2, 3, 4, 5, 6, 7] (by decide) rfl
          rw [hQ, ← hAe]
          refine r_i (v := (iZ 0)) K (fa, fb, fc, v9) hS d_Mo_power_201 ?_ (fun t ht hv => ?_)
          · exact ⟨rfl, w9⟩
          · exact ⟨by rw [ht]; exact hP9, va_K.moved hv hK, by rw [← hAe]; exact hD9⟩
      · refine lv_iconst (v := iZ (4)) hx hb d_Mo_power_150 (by decide +kernel) ?_
        refine lv_goto (tgt := 155) hx hb d_Mo_power_151 (by decide) ?_
        refine cv (n := 1) (wr := [(og, .inl (cI, 32, .inl fs)), (on_, .inl (cI, 32, .inl fn)), (ok_, .inl (cI, 166400, .inl fk)), (oK, .inl (cI, 64, .inl fK)), (ow, .inl (cI, 108000, .inl fx4)), (om, .inl (cI, 9, .inl fy4)), (oh, .inl (cI, 10000, .inl fh4))]) (w1 := (fun (u : Int) => [(mo, .inr (8, [.int (iZ 4), .int (iZ (np : Int)), .ref ow, .ref om, .ref ok_, .ref oK, .ref og, .ref on_, .ref oh, .ref ox, .int qn, .int qf, .ref op_, .int ql]))])) (As := [.int (iZ 4)]) (rest := []) K hP hD hK hS hA hl.1 (c_Mo_refuses l D mo (iZ 0) np ow om ok_ oK og on_ oh ox qn qf op_ ql 4 H.size (by omega)) [4] [0, 1, 2, 3, 5, 6, 7] [] rfl rfl rfl (by decide) (by decide) (by decide) 0 rfl rfl (big_in mw_1176 rfl) (big_in mw_10 rfl) (big_in mw_1173 rfl) (big_in mw_1175 rfl) (big_in sp_18 rfl) rfl rfl (by decide +kernel) ⟨by rw [hR]; exact Nat.le_of_ble_eq_true rfl, by rw [hR]; exact Nat.le_of_ble_eq_true rfl⟩ rfl (Nat.le_of_ble_eq_true rfl) d_Mo_power_155 ⟨by rw [hR]; exact Nat.le_of_ble_eq_true rfl, by rw [hR]; exact Nat.le_of_ble_eq_true rfl⟩ rfl (fun v u H locs hp13 hP hD hS _ => ?_)
        obtain ⟨rf2, rfl⟩ : ∃ z, z = u := ⟨_, rfl⟩
        obtain ⟨rfl, prf2⟩ := hp13
        have hP : va_P D cls0 [(og, .inl (cI, 32, .inl fs)), (on_, .inl (cI, 32, .inl fn)), (ok_, .inl (cI, 166400, .inl fk)), (oK, .inl (cI, 64, .inl fK)), (ow, .inl (cI, 108000, .inl fx4)), (om, .inl (cI, 9, .inl fy4)), (oh, .inl (cI, 10000, .inl fh4)), (mo, .inr (8, [.int (iZ 4), .int (iZ (np : Int)), .ref ow, .ref om, .ref ok_, .ref oK, .ref og, .ref on_, .ref oh, .ref ox, .int qn, .int qf, .ref op_, .int ql]))] H := hP
        have hD : va_D A [(og, .inl (cI, 32, .inl fs)), (on_, .inl (cI, 32, .inl fn)), (ok_, .inl (cI, 166400, .inl fk)), (oK, .inl (cI, 64, .inl fK)), (ow, .inl (cI, 108000, .inl fx4)), (om, .inl (cI, 9, .inl fy4)), (oh, .inl (cI, 10000, .inl fh4)), (mo, .inr (8, [.int (iZ 4), .int (iZ (np : Int)), .ref ow, .ref om, .ref ok_, .ref oK, .ref og, .ref on_, .ref oh, .ref ox, .int qn, .int qf, .ref op_, .int ql]))] := hD
        show W p l e R s m args below meth c H locs _ _ Q (F0 m 158 ls [.int (iZ rf2)])
        refine zz_if_eq (tgt := 163) hx hb d_Mo_power_158 (by decide) (by omega) (fun c158 => False.elim (by omega)) (fun c158 => ?_)
        refine lv_iconst (v := iZ (0)) hx hb d_Mo_power_161 (by decide +kernel) ?_
        have hP9 : va_P D cls0 [(mo, .inr (8, [.int (iZ 4), .int (iZ (np : Int)), .ref ow, .ref om, .ref ok_, .ref oK, .ref og, .ref on_, .ref oh, .ref ox, .int qn, .int qf, .ref op_, .int ql])), (ow, .inl (cI, 108000, .inl fx4)), (om, .inl (cI, 9, .inl fy4)), (oh, .inl (cI, 10000, .inl fh4)), (ok_, .inl (cI, 166400, .inl fk)), (oK, .inl (cI, 64, .inl fK)), (og, .inl (cI, 32, .inl fs)), (on_, .inl (cI, 32, .inl fn))] H := hP.sub [7, 4, 5, 6, 2, 3, 0, 1] rfl
        have hD9 : va_D A [(mo, .inr (8, [.int (iZ 4), .int (iZ (np : Int)), .ref ow, .ref om, .ref ok_, .ref oK, .ref og, .ref on_, .ref oh, .ref ox, .int qn, .int qf, .ref op_, .int ql])), (ow, .inl (cI, 108000, .inl fx4)), (om, .inl (cI, 9, .inl fy4)), (oh, .inl (cI, 10000, .inl fh4)), (ok_, .inl (cI, 166400, .inl fk)), (oK, .inl (cI, 64, .inl fK)), (og, .inl (cI, 32, .inl fs)), (on_, .inl (cI, 32, .inl fn))] := hD.sub [7, 4, 5, 6, 2, 3, 0, 1] (by decide) rfl
        rw [hQ, ← hAe]
        refine r_i (v := (iZ 0)) K (fx4, fy4, fh4, v4) hS d_Mo_power_162 ?_ (fun t ht hv => ?_)
        · exact ⟨rfl, w4⟩
        · exact ⟨by rw [ht]; exact hP9, va_K.moved hv hK, by rw [← hAe]; exact hD9⟩
    · refine lv_iconst (v := iZ (1)) hx hb d_Mo_power_15 (by decide +kernel) ?_
      refine lv_goto (tgt := 55) hx hb d_Mo_power_16 (by decide) ?_
      exfalso
      omega
set_option maxHeartbeats 4000000 in
set_option maxRecDepth 100000 in
/-- Mo_power refused with 1 -/
theorem r1_Mo_power (l : Launch) (D : va_G) (mo : Nat) (qc : Int32) (np : Nat) (ow : Nat) (om : Nat) (ok_ : Nat) (oK : Nat) (og : Nat) (on_ : Nat) (oh : Nat) (ox : Nat) (qn : Int32) (qf : Int32) (op_ : Nat) (ql : Int32) (zt : Int) (za : Int) (ze : Int) (sz : Nat) (hbad : (zt < 0 ∨ 32 ≤ zt) ∨ (za < 0 ∨ 32 ≤ za)) (hrng : -2147483648 ≤ zt ∧ zt < 2147483648 ∧ -2147483648 ≤ za ∧ za < 2147483648 ∧ -2147483648 ≤ ze ∧ ze < 2147483648) : Met l y_Mo_power (wsB y_Mo_power b_Mo_power 7 (some .int)) ({ frames := 1, cells := 0, slots := 0, locals := 21 }) (va_Pc [.ref mo, .int (iZ zt), .int (iZ za), .int (iZ ze)] (wPre D [] [(mo, .inr (8, [.int qc, .int (iZ (np : Int)), .ref ow, .ref om, .ref ok_, .ref oK, .ref og, .ref on_, .ref oh, .ref ox, .int qn, .int qf, .ref op_, .int ql]))] sz)) (va_QV (fun (v_9 : Option Value) (u_9 : Unit) => v_9 = some (.int (iZ 0))) (fun u_9 => wPost D [] [(mo, .inr (8, [.int qc, .int (iZ (np : Int)), .ref ow, .ref om, .ref ok_, .ref oK, .ref og, .ref on_, .ref oh, .ref ox, .int qn, .int qf, .ref op_, .int ql]))] [(mo, .inr (8, [.int (iZ 1), .int (iZ (np : Int)), .ref ow, .ref om, .ref ok_, .ref oK, .ref og, .ref on_, .ref oh, .ref ox, .int qn, .int qf, .ref op_, .int ql]))] sz) (va_A [(mo, .inr (8, [.int qc, .int (iZ (np : Int)), .ref ow, .ref om, .ref ok_, .ref oK, .ref og, .ref on_, .ref oh, .ref ox, .int qn, .int qf, .ref op_, .int ql]))] sz)) 0 0 (va_A [(mo, .inr (8, [.int qc, .int (iZ (np : Int)), .ref ow, .ref om, .ref ok_, .ref oK, .ref og, .ref on_, .ref oh, .ref ox, .int qn, .int qf, .ref op_, .int ql]))] sz) := by
  refine met_enter (by decide +kernel) (Nat.le_of_ble_eq_true rfl) ?_
  intro p e s m args below meth c ls A R Q H locs K hin hAe hA hR hQ hP hK hD hS hl
  obtain ⟨hx, hb, hml, hrt, hlk, hts, hown, hno⟩ := id K
  have hl : lv_has ls 7 [(0, .ref mo), (1, .int (iZ zt)), (2, .int (iZ za)), (3, .int (iZ ze))] := hl
  refine lv_aload_n hx hb d_Mo_power_0 rfl (lv_at hl 0 rfl) ?_
  refine lv_iload_n hx hb d_Mo_power_1 rfl (lv_at hl 1 rfl) ?_
  refine cs (n := 1) (wr := [(mo, .inr (8, [.int qc, .int (iZ (np : Int)), .ref ow, .ref om, .ref ok_, .ref oK, .ref og, .ref on_, .ref oh, .ref ox, .int qn, .int qf, .ref op_, .int ql]))]) (w1 := (fun (u : Int) => [])) (As := [.int (iZ zt)]) (rest := [.ref mo]) K hP hD hK hS hA hl.1 (c_Mo_isRegister l D zt H.size (by omega)) [] [0] [] rfl rfl rfl (by decide) (by decide) (by decide) (big_in mw_1172 rfl) (big_in mw_10 rfl) (big_in mw_1170 rfl) (big_in mw_1171 rfl) rfl rfl (by decide +kernel) ⟨by rw [hR]; exact Nat.le_of_ble_eq_true rfl, by rw [hR]; exact Nat.le_of_ble_eq_true rfl⟩ rfl (Nat.le_of_ble_eq_true rfl) d_Mo_power_2 ⟨by rw [hR]; exact Nat.le_of_ble_eq_true rfl, by rw [hR]; exact Nat.le_of_ble_eq_true rfl⟩ rfl (fun v u H locs hp1 hP hD hS _ => ?_)
  obtain ⟨r2, rfl⟩ : ∃ z, z = u := ⟨_, rfl⟩
  obtain ⟨rfl, p2⟩ := hp1
  have hP : va_P D cls0 [(mo, .inr (8, [.int qc, .int (iZ (np : Int)), .ref ow, .ref om, .ref ok_, .ref oK, .ref og, .ref on_, .ref oh, .ref ox, .int qn, .int qf, .ref op_, .int ql]))] H := hP
  have hD : va_D A [(mo, .inr (8, [.int qc, .int (iZ (np : Int)), .ref ow, .ref om, .ref ok_, .ref oK, .ref og, .ref on_, .ref oh, .ref ox, .int qn, .int qf, .ref op_, .int ql]))] := hD
  show W p l e R s m args below meth c H locs _ _ Q (F0 m 5 ls [.int (iZ r2), .ref mo])
  have b2 : 0 ≤ r2 ∧ r2 ≤ 1 := by omega
  refine zz_if_eq (tgt := 15) hx hb d_Mo_power_5 (by decide) (by omega) (fun c5 => ?_) (fun c5 => ?_)
  · refine lv_iconst (v := iZ (1)) hx hb d_Mo_power_15 (by decide +kernel) ?_
    refine lv_goto (tgt := 55) hx hb d_Mo_power_16 (by decide) ?_
    refine cv (n := 1) (wr := []) (w1 := (fun (u : Int) => [(mo, .inr (8, [.int (iZ 1), .int (iZ (np : Int)), .ref ow, .ref om, .ref ok_, .ref oK, .ref og, .ref on_, .ref oh, .ref ox, .int qn, .int qf, .ref op_, .int ql]))])) (As := [.int (iZ 1)]) (rest := []) K hP hD hK hS hA hl.1 (c_Mo_refuses l D mo qc np ow om ok_ oK og on_ oh ox qn qf op_ ql 1 H.size (by omega)) [0] [] [] rfl rfl rfl (by decide) (by decide) (by decide) 0 rfl rfl (big_in mw_1176 rfl) (big_in mw_10 rfl) (big_in mw_1173 rfl) (big_in mw_1175 rfl) (big_in sp_18 rfl) rfl rfl (by decide +kernel) ⟨by rw [hR]; exact Nat.le_of_ble_eq_true rfl, by rw [hR]; exact Nat.le_of_ble_eq_true rfl⟩ rfl (Nat.le_of_ble_eq_true rfl) d_Mo_power_55 ⟨by rw [hR]; exact Nat.le_of_ble_eq_true rfl, by rw [hR]; exact Nat.le_of_ble_eq_true rfl⟩ rfl (fun v u H locs hp2 hP hD hS _ => ?_)
    obtain ⟨rf, rfl⟩ : ∃ z, z = u := ⟨_, rfl⟩
    obtain ⟨rfl, prf⟩ := hp2
    have hP : va_P D cls0 [(mo, .inr (8, [.int (iZ 1), .int (iZ (np : Int)), .ref ow, .ref om, .ref ok_, .ref oK, .ref og, .ref on_, .ref oh, .ref ox, .int qn, .int qf, .ref op_, .int ql]))] H := hP
    have hD : va_D A [(mo, .inr (8, [.int (iZ 1), .int (iZ (np : Int)), .ref ow, .ref om, .ref ok_, .ref oK, .ref og, .ref on_, .ref oh, .ref ox, .int qn, .int qf, .ref op_, .int ql]))] := hD
    show W p l e R s m args below meth c H locs _ _ Q (F0 m 58 ls [.int (iZ rf)])
    refine zz_if_eq (tgt := 63) hx hb d_Mo_power_58 (by decide) (by omega) (fun c58 => False.elim (by omega)) (fun c58 => ?_)
    refine lv_iconst (v := iZ (0)) hx hb d_Mo_power_61 (by decide +kernel) ?_
    have hP9 : va_P D cls0 [(mo, .inr (8, [.int (iZ 1), .int (iZ (np : Int)), .ref ow, .ref om, .ref ok_, .ref oK, .ref og, .ref on_, .ref oh, .ref ox, .int qn, .int qf, .ref op_, .int ql]))] H := hP.sub [0] rfl
    have hD9 : va_D A [(mo, .inr (8, [.int (iZ 1), .int (iZ (np : Int)), .ref ow, .ref om, .ref ok_, .ref oK, .ref og, .ref on_, .ref oh, .ref ox, .int qn, .int qf, .ref op_, .int ql]))] := hD.sub [0] (by decide) rfl
    rw [hQ, ← hAe]
    refine r_i (v := (iZ 0)) K () hS d_Mo_power_62 ?_ (fun t ht hv => ?_)
    · exact rfl
    · exact ⟨by rw [ht]; exact hP9, va_K.moved hv hK, by rw [← hAe]; exact hD9⟩
  · refine lv_iload_n hx hb d_Mo_power_8 rfl (lv_at hl 2 rfl) ?_
    refine cs (n := 1) (wr := [(mo, .inr (8, [.int qc, .int (iZ (np : Int)), .ref ow, .ref om, .ref ok_, .ref oK, .ref og, .ref on_, .ref oh, .ref ox, .int qn, .int qf, .ref op_, .int ql]))]) (w1 := (fun (u : Int) => [])) (As := [.int (iZ za)]) (rest := [.ref mo]) K hP hD hK hS hA hl.1 (c_Mo_isRegister l D za H.size (by omega)) [] [0] [] rfl rfl rfl (by decide) (by decide) (by decide) (big_in mw_1172 rfl) (big_in mw_10 rfl) (big_in mw_1170 rfl) (big_in mw_1171 rfl) rfl rfl (by decide +kernel) ⟨by rw [hR]; exact Nat.le_of_ble_eq_true rfl, by rw [hR]; exact Nat.le_of_ble_eq_true rfl⟩ rfl (Nat.le_of_ble_eq_true rfl) d_Mo_power_9 ⟨by rw [hR]; exact Nat.le_of_ble_eq_true rfl, by rw [hR]; exact Nat.le_of_ble_eq_true rfl⟩ rfl (fun v u H locs hp3 hP hD hS _ => ?_)
    obtain ⟨r9, rfl⟩ : ∃ z, z = u := ⟨_, rfl⟩
    obtain ⟨rfl, p9⟩ := hp3
    have hP : va_P D cls0 [(mo, .inr (8, [.int qc, .int (iZ (np : Int)), .ref ow, .ref om, .ref ok_, .ref oK, .ref og, .ref on_, .ref oh, .ref ox, .int qn, .int qf, .ref op_, .int ql]))] H := hP
    have hD : va_D A [(mo, .inr (8, [.int qc, .int (iZ (np : Int)), .ref ow, .ref om, .ref ok_, .ref oK, .ref og, .ref on_, .ref oh, .ref ox, .int qn, .int qf, .ref op_, .int ql]))] := hD
    show W p l e R s m args below meth c H locs _ _ Q (F0 m 12 ls [.int (iZ r9), .ref mo])
    have b9 : 0 ≤ r9 ∧ r9 ≤ 1 := by omega
    refine zz_if_ne (tgt := 19) hx hb d_Mo_power_12 (by decide) (by omega) (fun c12 => ?_) (fun c12 => ?_)
    · refine lv_iload_n hx hb d_Mo_power_19 rfl (lv_at hl 3 rfl) ?_
      refine lv_sipush (v := iZ (-1000)) hx hb d_Mo_power_20 (by decide +kernel) ?_
      refine zz_icmp_lt (tgt := 33) hx hb d_Mo_power_23 (by decide) (by omega) (by omega) (fun c23 => ?_) (fun c23 => ?_)
      · refine lv_iconst (v := iZ (2)) hx hb d_Mo_power_33 (by decide +kernel) ?_
        refine lv_goto (tgt := 55) hx hb d_Mo_power_34 (by decide) ?_
        exfalso
        omega
      · refine lv_iload_n hx hb d_Mo_power_26 rfl (lv_at hl 3 rfl) ?_
        refine lv_sipush (v := iZ (1000)) hx hb d_Mo_power_27 (by decide +kernel) ?_
        refine zz_icmp_le (tgt := 37) hx hb d_Mo_power_30 (by decide) (by omega) (by omega) (fun c30 => ?_) (fun c30 => ?_)
        · refine lv_iload_n hx hb d_Mo_power_37 rfl (lv_at hl 3 rfl) ?_
          refine zz_if_ge (tgt := 54) hx hb d_Mo_power_38 (by decide) (by omega) (fun c38 => ?_) (fun c38 => ?_)
          · refine lv_iconst (v := iZ (0)) hx hb d_Mo_power_54 (by decide +kernel) ?_
            exfalso
            omega
          · exfalso
            omega
        · refine lv_iconst (v := iZ (2)) hx hb d_Mo_power_33 (by decide +kernel) ?_
          refine lv_goto (tgt := 55) hx hb d_Mo_power_34 (by decide) ?_
          exfalso
          omega
    · refine lv_iconst (v := iZ (1)) hx hb d_Mo_power_15 (by decide +kernel) ?_
      refine lv_goto (tgt := 55) hx hb d_Mo_power_16 (by decide) ?_
      refine cv (n := 1) (wr := []) (w1 := (fun (u : Int) => [(mo, .inr (8, [.int (iZ 1), .int (iZ (np : Int)), .ref ow, .ref om, .ref ok_, .ref oK, .ref og, .ref on_, .ref oh, .ref ox, .int qn, .int qf, .ref op_, .int ql]))])) (As := [.int (iZ 1)]) (rest := []) K hP hD hK hS hA hl.1 (c_Mo_refuses l D mo qc np ow om ok_ oK og on_ oh ox qn qf op_ ql 1 H.size (by omega)) [0] [] [] rfl rfl rfl (by decide) (by decide) (by decide) 0 rfl rfl (big_in mw_1176 rfl) (big_in mw_10 rfl) (big_in mw_1173 rfl) (big_in mw_1175 rfl) (big_in sp_18 rfl) rfl rfl (by decide +kernel) ⟨by rw [hR]; exact Nat.le_of_ble_eq_true rfl, by rw [hR]; exact Nat.le_of_ble_eq_true rfl⟩ rfl (Nat.le_of_ble_eq_true rfl) d_Mo_power_55 ⟨by rw [hR]; exact Nat.le_of_ble_eq_true rfl, by rw [hR]; exact Nat.le_of_ble_eq_true rfl⟩ rfl (fun v u H locs hp4 hP hD hS _ => ?_)
      obtain ⟨rf, rfl⟩ : ∃ z, z = u := ⟨_, rfl⟩
      obtain ⟨rfl, prf⟩ := hp4
      have hP : va_P D cls0 [(mo, .inr (8, [.int (iZ 1), .int (iZ (np : Int)), .ref ow, .ref om, .ref ok_, .ref oK, .ref og, .ref on_, .ref oh, .ref ox, .int qn, .int qf, .ref op_, .int ql]))] H := hP
      have hD : va_D A [(mo, .inr (8, [.int (iZ 1), .int (iZ (np : Int)), .ref ow, .ref om, .ref ok_, .ref oK, .ref og, .ref on_, .ref oh, .ref ox, .int qn, .int qf, .ref op_, .int ql]))] := hD
      show W p l e R s m args below meth c H locs _ _ Q (F0 m 58 ls [.int (iZ rf)])
      refine zz_if_eq (tgt := 63) hx hb d_Mo_power_58 (by decide) (by omega) (fun c58 => False.elim (by omega)) (fun c58 => ?_)
      refine lv_iconst (v := iZ (0)) hx hb d_Mo_power_61 (by decide +kernel) ?_
      have hP9 : va_P D cls0 [(mo, .inr (8, [.int (iZ 1), .int (iZ (np : Int)), .ref ow, .ref om, .ref ok_, .ref oK, .ref og, .ref on_, .ref oh, .ref ox, .int qn, .int qf, .ref op_, .int ql]))] H := hP.sub [0] rfl
      have hD9 : va_D A [(mo, .inr (8, [.int (iZ 1), .int (iZ (np : Int)), .ref ow, .ref om, .ref ok_, .ref oK, .ref og, .ref on_, .ref oh, .ref ox, .int qn, .int qf, .ref op_, .int ql]))] := hD.sub [0] (by decide) rfl
      rw [hQ, ← hAe]
      refine r_i (v := (iZ 0)) K () hS d_Mo_power_62 ?_ (fun t ht hv => ?_)
      · exact rfl
      · exact ⟨by rw [ht]; exact hP9, va_K.moved hv hK, by rw [← hAe]; exact hD9⟩
set_option maxHeartbeats 4000000 in
set_option maxRecDepth 100000 in
/-- Mo_power refused with 2 -/
theorem r2_Mo_power (l : Launch) (D : va_G) (mo : Nat) (qc : Int32) (np : Nat) (ow : Nat) (om : Nat) (ok_ : Nat) (oK : Nat) (og : Nat) (on_ : Nat) (oh : Nat) (ox : Nat) (qn : Int32) (qf : Int32) (op_ : Nat) (ql : Int32) (to : Nat) (a : Nat) (ze : Int) (sz : Nat) (t1 : to < 32) (t2 : a < 32) (hze : (ze < -1000 ∨ 1000 < ze) ∧ -2147483648 ≤ ze ∧ ze < 2147483648) : Met l y_Mo_power (wsB y_Mo_power b_Mo_power 7 (some .int)) ({ frames := 1, cells := 0, slots := 0, locals := 21 }) (va_Pc [.ref mo, .int (iZ (to : Int)), .int (iZ (a : Int)), .int (iZ ze)] (wPre D [] [(mo, .inr (8, [.int qc, .int (iZ (np : Int)), .ref ow, .ref om, .ref ok_, .ref oK, .ref og, .ref on_, .ref oh, .ref ox, .int qn, .int qf, .ref op_, .int ql]))] sz)) (va_QV (fun (v_9 : Option Value) (u_9 : Unit) => v_9 = some (.int (iZ 0))) (fun u_9 => wPost D [] [(mo, .inr (8, [.int qc, .int (iZ (np : Int)), .ref ow, .ref om, .ref ok_, .ref oK, .ref og, .ref on_, .ref oh, .ref ox, .int qn, .int qf, .ref op_, .int ql]))] [(mo, .inr (8, [.int (iZ 2), .int (iZ (np : Int)), .ref ow, .ref om, .ref ok_, .ref oK, .ref og, .ref on_, .ref oh, .ref ox, .int qn, .int qf, .ref op_, .int ql]))] sz) (va_A [(mo, .inr (8, [.int qc, .int (iZ (np : Int)), .ref ow, .ref om, .ref ok_, .ref oK, .ref og, .ref on_, .ref oh, .ref ox, .int qn, .int qf, .ref op_, .int ql]))] sz)) 0 0 (va_A [(mo, .inr (8, [.int qc, .int (iZ (np : Int)), .ref ow, .ref om, .ref ok_, .ref oK, .ref og, .ref on_, .ref oh, .ref ox, .int qn, .int qf, .ref op_, .int ql]))] sz) := by
  refine met_enter (by decide +kernel) (Nat.le_of_ble_eq_true rfl) ?_
  intro p e s m args below meth c ls A R Q H locs K hin hAe hA hR hQ hP hK hD hS hl
  obtain ⟨hx, hb, hml, hrt, hlk, hts, hown, hno⟩ := id K
  have hl : lv_has ls 7 [(0, .ref mo), (1, .int (iZ (to : Int))), (2, .int (iZ (a : Int))), (3, .int (iZ ze))] := hl
  refine lv_aload_n hx hb d_Mo_power_0 rfl (lv_at hl 0 rfl) ?_
  refine lv_iload_n hx hb d_Mo_power_1 rfl (lv_at hl 1 rfl) ?_
  refine cs (n := 1) (wr := [(mo, .inr (8, [.int qc, .int (iZ (np : Int)), .ref ow, .ref om, .ref ok_, .ref oK, .ref og, .ref on_, .ref oh, .ref ox, .int qn, .int qf, .ref op_, .int ql]))]) (w1 := (fun (u : Int) => [])) (As := [.int (iZ (to : Int))]) (rest := [.ref mo]) K hP hD hK hS hA hl.1 (c_Mo_isRegister l D (to : Int) H.size (by omega)) [] [0] [] rfl rfl rfl (by decide) (by decide) (by decide) (big_in mw_1172 rfl) (big_in mw_10 rfl) (big_in mw_1170 rfl) (big_in mw_1171 rfl) rfl rfl (by decide +kernel) ⟨by rw [hR]; exact Nat.le_of_ble_eq_true rfl, by rw [hR]; exact Nat.le_of_ble_eq_true rfl⟩ rfl (Nat.le_of_ble_eq_true rfl) d_Mo_power_2 ⟨by rw [hR]; exact Nat.le_of_ble_eq_true rfl, by rw [hR]; exact Nat.le_of_ble_eq_true rfl⟩ rfl (fun v u H locs hp1 hP hD hS _ => ?_)
  obtain ⟨r2, rfl⟩ : ∃ z, z = u := ⟨_, rfl⟩
  obtain ⟨rfl, p2⟩ := hp1
  have hP : va_P D cls0 [(mo, .inr (8, [.int qc, .int (iZ (np : Int)), .ref ow, .ref om, .ref ok_, .ref oK, .ref og, .ref on_, .ref oh, .ref ox, .int qn, .int qf, .ref op_, .int ql]))] H := hP
  have hD : va_D A [(mo, .inr (8, [.int qc, .int (iZ (np : Int)), .ref ow, .ref om, .ref ok_, .ref oK, .ref og, .ref on_, .ref oh, .ref ox, .int qn, .int qf, .ref op_, .int ql]))] := hD
  show W p l e R s m args below meth c H locs _ _ Q (F0 m 5 ls [.int (iZ r2), .ref mo])
  have b2 : 0 ≤ r2 ∧ r2 ≤ 1 := by omega
  refine zz_if_eq (tgt := 15) hx hb d_Mo_power_5 (by decide) (by omega) (fun c5 => ?_) (fun c5 => ?_)
  · refine lv_iconst (v := iZ (1)) hx hb d_Mo_power_15 (by decide +kernel) ?_
    refine lv_goto (tgt := 55) hx hb d_Mo_power_16 (by decide) ?_
    exfalso
    omega
  · refine lv_iload_n hx hb d_Mo_power_8 rfl (lv_at hl 2 rfl) ?_
    refine cs (n := 1) (wr := [(mo, .inr (8, [.int qc, .int (iZ (np : Int)), .ref ow, .ref om, .ref ok_, .ref oK, .ref og, .ref on_, .ref oh, .ref ox, .int qn, .int qf, .ref op_, .int ql]))]) (w1 := (fun (u : Int) => [])) (As := [.int (iZ (a : Int))]) (rest := [.ref mo]) K hP hD hK hS hA hl.1 (c_Mo_isRegister l D (a : Int) H.size (by omega)) [] [0] [] rfl rfl rfl (by decide) (by decide) (by decide) (big_in mw_1172 rfl) (big_in mw_10 rfl) (big_in mw_1170 rfl) (big_in mw_1171 rfl) rfl rfl (by decide +kernel) ⟨by rw [hR]; exact Nat.le_of_ble_eq_true rfl, by rw [hR]; exact Nat.le_of_ble_eq_true rfl⟩ rfl (Nat.le_of_ble_eq_true rfl) d_Mo_power_9 ⟨by rw [hR]; exact Nat.le_of_ble_eq_true rfl, by rw [hR]; exact Nat.le_of_ble_eq_true rfl⟩ rfl (fun v u H locs hp2 hP hD hS _ => ?_)
    obtain ⟨r9, rfl⟩ : ∃ z, z = u := ⟨_, rfl⟩
    obtain ⟨rfl, p9⟩ := hp2
    have hP : va_P D cls0 [(mo, .inr (8, [.int qc, .int (iZ (np : Int)), .ref ow, .ref om, .ref ok_, .ref oK, .ref og, .ref on_, .ref oh, .ref ox, .int qn, .int qf, .ref op_, .int ql]))] H := hP
    have hD : va_D A [(mo, .inr (8, [.int qc, .int (iZ (np : Int)), .ref ow, .ref om, .ref ok_, .ref oK, .ref og, .ref on_, .ref oh, .ref ox, .int qn, .int qf, .ref op_, .int ql]))] := hD
    show W p l e R s m args below meth c H locs _ _ Q (F0 m 12 ls [.int (iZ r9), .ref mo])
    have b9 : 0 ≤ r9 ∧ r9 ≤ 1 := by omega
    refine zz_if_ne (tgt := 19) hx hb d_Mo_power_12 (by decide) (by omega) (fun c12 => ?_) (fun c12 => ?_)
    · refine lv_iload_n hx hb d_Mo_power_19 rfl (lv_at hl 3 rfl) ?_
      refine lv_sipush (v := iZ (-1000)) hx hb d_Mo_power_20 (by decide +kernel) ?_
      refine zz_icmp_lt (tgt := 33) hx hb d_Mo_power_23 (by decide) (by omega) (by omega) (fun c23 => ?_) (fun c23 => ?_)
      · refine lv_iconst (v := iZ (2)) hx hb d_Mo_power_33 (by decide +kernel) ?_
        refine lv_goto (tgt := 55) hx hb d_Mo_power_34 (by decide) ?_
        refine cv (n := 1) (wr := []) (w1 := (fun (u : Int) => [(mo, .inr (8, [.int (iZ 2), .int (iZ (np : Int)), .ref ow, .ref om, .ref ok_, .ref oK, .ref og, .ref on_, .ref oh, .ref ox, .int qn, .int qf, .ref op_, .int ql]))])) (As := [.int (iZ 2)]) (rest := []) K hP hD hK hS hA hl.1 (c_Mo_refuses l D mo qc np ow om ok_ oK og on_ oh ox qn qf op_ ql 2 H.size (by omega)) [0] [] [] rfl rfl rfl (by decide) (by decide) (by decide) 0 rfl rfl (big_in mw_1176 rfl) (big_in mw_10 rfl) (big_in mw_1173 rfl) (big_in mw_1175 rfl) (big_in sp_18 rfl) rfl rfl (by decide +kernel) ⟨by rw [hR]; exact Nat.le_of_ble_eq_true rfl, by rw [hR]; exact Nat.le_of_ble_eq_true rfl⟩ rfl (Nat.le_of_ble_eq_true rfl) d_Mo_power_55 ⟨by rw [hR]; exact Nat.le_of_ble_eq_true rfl, by rw [hR]; exact Nat.le_of_ble_eq_true rfl⟩ rfl (fun v u H locs hp3 hP hD hS _ => ?_)
        obtain ⟨rf, rfl⟩ : ∃ z, z = u := ⟨_, rfl⟩
        obtain ⟨rfl, prf⟩ := hp3
        have hP : va_P D cls0 [(mo, .inr (8, [.int (iZ 2), .int (iZ (np : Int)), .ref ow, .ref om, .ref ok_, .ref oK, .ref og, .ref on_, .ref oh, .ref ox, .int qn, .int qf, .ref op_, .int ql]))] H := hP
        have hD : va_D A [(mo, .inr (8, [.int (iZ 2), .int (iZ (np : Int)), .ref ow, .ref om, .ref ok_, .ref oK, .ref og, .ref on_, .ref oh, .ref ox, .int qn, .int qf, .ref op_, .int ql]))] := hD
        show W p l e R s m args below meth c H locs _ _ Q (F0 m 58 ls [.int (iZ rf)])
        refine zz_if_eq (tgt := 63) hx hb d_Mo_power_58 (by decide) (by omega) (fun c58 => False.elim (by omega)) (fun c58 => ?_)
        refine lv_iconst (v := iZ (0)) hx hb d_Mo_power_61 (by decide +kernel) ?_
        have hP9 : va_P D cls0 [(mo, .inr (8, [.int (iZ 2), .int (iZ (np : Int)), .ref ow, .ref om, .ref ok_, .ref oK, .ref og, .ref on_, .ref oh, .ref ox, .int qn, .int qf, .ref op_, .int ql]))] H := hP.sub [0] rfl
        have hD9 : va_D A [(mo, .inr (8, [.int (iZ 2), .int (iZ (np : Int)), .ref ow, .ref om, .ref ok_, .ref oK, .ref og, .ref on_, .ref oh, .ref ox, .int qn, .int qf, .ref op_, .int ql]))] := hD.sub [0] (by decide) rfl
        rw [hQ, ← hAe]
        refine r_i (v := (iZ 0)) K () hS d_Mo_power_62 ?_ (fun t ht hv => ?_)
        · exact rfl
        · exact ⟨by rw [ht]; exact hP9, va_K.moved hv hK, by rw [← hAe]; exact hD9⟩
      · refine lv_iload_n hx hb d_Mo_power_26 rfl (lv_at hl 3 rfl) ?_
        refine lv_sipush (v := iZ (1000)) hx hb d_Mo_power_27 (by decide +kernel) ?_
        refine zz_icmp_le (tgt := 37) hx hb d_Mo_power_30 (by decide) (by omega) (by omega) (fun c30 => ?_) (fun c30 => ?_)
        · refine lv_iload_n hx hb d_Mo_power_37 rfl (lv_at hl 3 rfl) ?_
          refine zz_if_ge (tgt := 54) hx hb d_Mo_power_38 (by decide) (by omega) (fun c38 => ?_) (fun c38 => ?_)
          · refine lv_iconst (v := iZ (0)) hx hb d_Mo_power_54 (by decide +kernel) ?_
            exfalso
            omega
          · exfalso
            omega
        · refine lv_iconst (v := iZ (2)) hx hb d_Mo_power_33 (by decide +kernel) ?_
          refine lv_goto (tgt := 55) hx hb d_Mo_power_34 (by decide) ?_
          refine cv (n := 1) (wr := []) (w1 := (fun (u : Int) => [(mo, .inr (8, [.int (iZ 2), .int (iZ (np : Int)), .ref ow, .ref om, .ref ok_, .ref oK, .ref og, .ref on_, .ref oh, .ref ox, .int qn, .int qf, .ref op_, .int ql]))])) (As := [.int (iZ 2)]) (rest := []) K hP hD hK hS hA hl.1 (c_Mo_refuses l D mo qc np ow om ok_ oK og on_ oh ox qn qf op_ ql 2 H.size (by omega)) [0] [] [] rfl rfl rfl (by decide) (by decide) (by decide) 0 rfl rfl (big_in mw_1176 rfl) (big_in mw_10 rfl) (big_in mw_1173 rfl) (big_in mw_1175 rfl) (big_in sp_18 rfl) rfl rfl (by decide +kernel) ⟨by rw [hR]; exact Nat.le_of_ble_eq_true rfl, by rw [hR]; exact Nat.le_of_ble_eq_true rfl⟩ rfl (Nat.le_of_ble_eq_true rfl) d_Mo_power_55 ⟨by rw [hR]; exact Nat.le_of_ble_eq_true rfl, by rw [hR]; exact Nat.le_of_ble_eq_true rfl⟩ rfl (fun v u H locs hp4 hP hD hS _ => ?_)
          obtain ⟨rf, rfl⟩ : ∃ z, z = u := ⟨_, rfl⟩
          obtain ⟨rfl, prf⟩ := hp4
          have hP : va_P D cls0 [(mo, .inr (8, [.int (iZ 2), .int (iZ (np : Int)), .ref ow, .ref om, .ref ok_, .ref oK, .ref og, .ref on_, .ref oh, .ref ox, .int qn, .int qf, .ref op_, .int ql]))] H := hP
          have hD : va_D A [(mo, .inr (8, [.int (iZ 2), .int (iZ (np : Int)), .ref ow, .ref om, .ref ok_, .ref oK, .ref og, .ref on_, .ref oh, .ref ox, .int qn, .int qf, .ref op_, .int ql]))] := hD
          show W p l e R s m args below meth c H locs _ _ Q (F0 m 58 ls [.int (iZ rf)])
          refine zz_if_eq (tgt := 63) hx hb d_Mo_power_58 (by decide) (by omega) (fun c58 => False.elim (by omega)) (fun c58 => ?_)
          refine lv_iconst (v := iZ (0)) hx hb d_Mo_power_61 (by decide +kernel) ?_
          have hP9 : va_P D cls0 [(mo, .inr (8, [.int (iZ 2), .int (iZ (np : Int)), .ref ow, .ref om, .ref ok_, .ref oK, .ref og, .ref on_, .ref oh, .ref ox, .int qn, .int qf, .ref op_, .int ql]))] H := hP.sub [0] rfl
          have hD9 : va_D A [(mo, .inr (8, [.int (iZ 2), .int (iZ (np : Int)), .ref ow, .ref om, .ref ok_, .ref oK, .ref og, .ref on_, .ref oh, .ref ox, .int qn, .int qf, .ref op_, .int ql]))] := hD.sub [0] (by decide) rfl
          rw [hQ, ← hAe]
          refine r_i (v := (iZ 0)) K () hS d_Mo_power_62 ?_ (fun t ht hv => ?_)
          · exact rfl
          · exact ⟨by rw [ht]; exact hP9, va_K.moved hv hK, by rw [← hAe]; exact hD9⟩
    · refine lv_iconst (v := iZ (1)) hx hb d_Mo_power_15 (by decide +kernel) ?_
      refine lv_goto (tgt := 55) hx hb d_Mo_power_16 (by decide) ?_
      exfalso
      omega
set_option maxHeartbeats 4000000 in
set_option maxRecDepth 100000 in
/-- Mo_power refused with 3 -/
theorem r3_Mo_power (l : Launch) (D : va_G) (mo : Nat) (qc : Int32) (np : Nat) (ow : Nat) (om : Nat) (ok_ : Nat) (oK : Nat) (og : Nat) (on_ : Nat) (oh : Nat) (ox : Nat) (qn : Int32) (qf : Int32) (op_ : Nat) (ql : Int32) (fs : Nat → Int32) (cI : ClassId) (sg : Nat → Int) (to : Nat) (a : Nat) (tm : Nat) (sz : Nat) (hsg : ∀ r, r < 32 → fs r = iZ (sg r)) (hsr : ∀ r, r < 32 → -1 ≤ sg r ∧ sg r ≤ 1) (t1 : to < 32) (t2 : a < 32) (htm : 0 < tm ∧ tm ≤ 1000) (hs0 : sg a = 0) : Met l y_Mo_power (wsB y_Mo_power b_Mo_power 7 (some .int)) ({ frames := 1, cells := 0, slots := 0, locals := 21 }) (va_Pc [.ref mo, .int (iZ (to : Int)), .int (iZ (a : Int)), .int (iZ (-(tm : Int)))] (wPre D [(cI, .int)] [(mo, .inr (8, [.int qc, .int (iZ (np : Int)), .ref ow, .ref om, .ref ok_, .ref oK, .ref og, .ref on_, .ref oh, .ref ox, .int qn, .int qf, .ref op_, .int ql])), (og, .inl (cI, 32, .inl fs))] sz)) (va_QV (fun (v_9 : Option Value) (u_9 : Unit) => v_9 = some (.int (iZ 0))) (fun u_9 => wPost D [(cI, .int)] [(mo, .inr (8, [.int qc, .int (iZ (np : Int)), .ref ow, .ref om, .ref ok_, .ref oK, .ref og, .ref on_, .ref oh, .ref ox, .int qn, .int qf, .ref op_, .int ql])), (og, .inl (cI, 32, .inl fs))] [(mo, .inr (8, [.int (iZ 3), .int (iZ (np : Int)), .ref ow, .ref om, .ref ok_, .ref oK, .ref og, .ref on_, .ref oh, .ref ox, .int qn, .int qf, .ref op_, .int ql])), (og, .inl (cI, 32, .inl fs))] sz) (va_A [(mo, .inr (8, [.int qc, .int (iZ (np : Int)), .ref ow, .ref om, .ref ok_, .ref oK, .ref og, .ref on_, .ref oh, .ref ox, .int qn, .int qf, .ref op_, .int ql])), (og, .inl (cI, 32, .inl fs))] sz)) 0 0 (va_A [(mo, .inr (8, [.int qc, .int (iZ (np : Int)), .ref ow, .ref om, .ref ok_, .ref oK, .ref og, .ref on_, .ref oh, .ref ox, .int qn, .int qf, .ref op_, .int ql])), (og, .inl (cI, 32, .inl fs))] sz) := by
  refine met_enter (by decide +kernel) (Nat.le_of_ble_eq_true rfl) ?_
  intro p e s m args below meth c ls A R Q H locs K hin hAe hA hR hQ hP hK hD hS hl
  obtain ⟨hx, hb, hml, hrt, hlk, hts, hown, hno⟩ := id K
  have hl : lv_has ls 7 [(0, .ref mo), (1, .int (iZ (to : Int))), (2, .int (iZ (a : Int))), (3, .int (iZ (-(tm : Int))))] := hl
  have sb := hsr a (by omega)
  refine lv_aload_n hx hb d_Mo_power_0 rfl (lv_at hl 0 rfl) ?_
  refine lv_iload_n hx hb d_Mo_power_1 rfl (lv_at hl 1 rfl) ?_
  refine cs (n := 1) (wr := [(mo, .inr (8, [.int qc, .int (iZ (np : Int)), .ref ow, .ref om, .ref ok_, .ref oK, .ref og, .ref on_, .ref oh, .ref ox, .int qn, .int qf, .ref op_, .int ql])), (og, .inl (cI, 32, .inl fs))]) (w1 := (fun (u : Int) => [])) (As := [.int (iZ (to : Int))]) (rest := [.ref mo]) K hP hD hK hS hA hl.1 (c_Mo_isRegister l D (to : Int) H.size (by omega)) [] [0, 1] [] rfl rfl rfl (by decide) (by decide) (by decide) (big_in mw_1172 rfl) (big_in mw_10 rfl) (big_in mw_1170 rfl) (big_in mw_1171 rfl) rfl rfl (by decide +kernel) ⟨by rw [hR]; exact Nat.le_of_ble_eq_true rfl, by rw [hR]; exact Nat.le_of_ble_eq_true rfl⟩ rfl (Nat.le_of_ble_eq_true rfl) d_Mo_power_2 ⟨by rw [hR]; exact Nat.le_of_ble_eq_true rfl, by rw [hR]; exact Nat.le_of_ble_eq_true rfl⟩ rfl (fun v u H locs hp1 hP hD hS _ => ?_)
  obtain ⟨r2, rfl⟩ : ∃ z, z = u := ⟨_, rfl⟩
  obtain ⟨rfl, p2⟩ := hp1
  have hP : va_P D cls0 [(mo, .inr (8, [.int qc, .int (iZ (np : Int)), .ref ow, .ref om, .ref ok_, .ref oK, .ref og, .ref on_, .ref oh, .ref ox, .int qn, .int qf, .ref op_, .int ql])), (og, .inl (cI, 32, .inl fs))] H := hP
  have hD : va_D A [(mo, .inr (8, [.int qc, .int (iZ (np : Int)), .ref ow, .ref om, .ref ok_, .ref oK, .ref og, .ref on_, .ref oh, .ref ox, .int qn, .int qf, .ref op_, .int ql])), (og, .inl (cI, 32, .inl fs))] := hD
  show W p l e R s m args below meth c H locs _ _ Q (F0 m 5 ls [.int (iZ r2), .ref mo])
  have b2 : 0 ≤ r2 ∧ r2 ≤ 1 := by omega
  refine zz_if_eq (tgt := 15) hx hb d_Mo_power_5 (by decide) (by omega) (fun c5 => ?_) (fun c5 => ?_)
  · refine lv_iconst (v := iZ (1)) hx hb d_Mo_power_15 (by decide +kernel) ?_
    refine lv_goto (tgt := 55) hx hb d_Mo_power_16 (by decide) ?_
    exfalso
    omega
  · refine lv_iload_n hx hb d_Mo_power_8 rfl (lv_at hl 2 rfl) ?_
    refine cs (n := 1) (wr := [(mo, .inr (8, [.int qc, .int (iZ (np : Int)), .ref ow, .ref om, .ref ok_, .ref oK, .ref og, .ref on_, .ref oh, .ref ox, .int qn, .int qf, .ref op_, .int ql])), (og, .inl (cI, 32, .inl fs))]) (w1 := (fun (u : Int) => [])) (As := [.int (iZ (a : Int))]) (rest := [.ref mo]) K hP hD hK hS hA hl.1 (c_Mo_isRegister l D (a : Int) H.size (by omega)) [] [0, 1] [] rfl rfl rfl (by decide) (by decide) (by decide) (big_in mw_1172 rfl) (big_in mw_10 rfl) (big_in mw_1170 rfl) (big_in mw_1171 rfl) rfl rfl (by decide +kernel) ⟨by rw [hR]; exact Nat.le_of_ble_eq_true rfl, by rw [hR]; exact Nat.le_of_ble_eq_true rfl⟩ rfl (Nat.le_of_ble_eq_true rfl) d_Mo_power_9 ⟨by rw [hR]; exact Nat.le_of_ble_eq_true rfl, by rw [hR]; exact Nat.le_of_ble_eq_true rfl⟩ rfl (fun v u H locs hp2 hP hD hS _ => ?_)
    obtain ⟨r9, rfl⟩ : ∃ z, z = u := ⟨_, rfl⟩
    obtain ⟨rfl, p9⟩ := hp2
    have hP : va_P D cls0 [(mo, .inr (8, [.int qc, .int (iZ (np : Int)), .ref ow, .ref om, .ref ok_, .ref oK, .ref og, .ref on_, .ref oh, .ref ox, .int qn, .int qf, .ref op_, .int ql])), (og, .inl (cI, 32, .inl fs))] H := hP
    have hD : va_D A [(mo, .inr (8, [.int qc, .int (iZ (np : Int)), .ref ow, .ref om, .ref ok_, .ref oK, .ref og, .ref on_, .ref oh, .ref ox, .int qn, .int qf, .ref op_, .int ql])), (og, .inl (cI, 32, .inl fs))] := hD
    show W p l e R s m args below meth c H locs _ _ Q (F0 m 12 ls [.int (iZ r9), .ref mo])
    have b9 : 0 ≤ r9 ∧ r9 ≤ 1 := by omega
    refine zz_if_ne (tgt := 19) hx hb d_Mo_power_12 (by decide) (by omega) (fun c12 => ?_) (fun c12 => ?_)
    · refine lv_iload_n hx hb d_Mo_power_19 rfl (lv_at hl 3 rfl) ?_
      refine lv_sipush (v := iZ (-1000)) hx hb d_Mo_power_20 (by decide +kernel) ?_
      refine zz_icmp_lt (tgt := 33) hx hb d_Mo_power_23 (by decide) (by omega) (by omega) (fun c23 => ?_) (fun c23 => ?_)
      · refine lv_iconst (v := iZ (2)) hx hb d_Mo_power_33 (by decide +kernel) ?_
        refine lv_goto (tgt := 55) hx hb d_Mo_power_34 (by decide) ?_
        exfalso
        omega
      · refine lv_iload_n hx hb d_Mo_power_26 rfl (lv_at hl 3 rfl) ?_
        refine lv_sipush (v := iZ (1000)) hx hb d_Mo_power_27 (by decide +kernel) ?_
        refine zz_icmp_le (tgt := 37) hx hb d_Mo_power_30 (by decide) (by omega) (by omega) (fun c30 => ?_) (fun c30 => ?_)
        · refine lv_iload_n hx hb d_Mo_power_37 rfl (lv_at hl 3 rfl) ?_
          refine zz_if_ge (tgt := 54) hx hb d_Mo_power_38 (by decide) (by omega) (fun c38 => ?_) (fun c38 => ?_)
          · refine lv_iconst (v := iZ (0)) hx hb d_Mo_power_54 (by decide +kernel) ?_
            exfalso
            omega
          · refine lv_aload_n hx hb d_Mo_power_41 rfl (lv_at hl 0 rfl) ?_
            refine va_get (D := D) (ci := 8) (v := .ref og) (C := R_Mo) (T := F_Mo) (N := 14) hx hb hts i_Mo hown hK hP 0 rfl rfl 6 (by decide) (hts _ (big_in mw_1121 rfl)) (fun _ h9 => h9) rfl d_Mo_power_42 ?_
            refine lv_iload_n hx hb d_Mo_power_45 rfl (lv_at hl 2 rfl) ?_
            refine zz_iald hx hb hK hP 1 0 rfl rfl (a) (by omega) (by omega) (by omega) d_Mo_power_46 ?_
            rw [hsg a (by omega)]
            refine zz_if_ne (tgt := 54) hx hb d_Mo_power_47 (by decide) (by omega) (fun c47 => ?_) (fun c47 => ?_)
            · refine lv_iconst (v := iZ (0)) hx hb d_Mo_power_54 (by decide +kernel) ?_
              exfalso
              omega
            · refine lv_iconst (v := iZ (3)) hx hb d_Mo_power_50 (by decide +kernel) ?_
              refine lv_goto (tgt := 55) hx hb d_Mo_power_51 (by decide) ?_
              refine cv (n := 1) (wr := [(og, .inl (cI, 32, .inl fs))]) (w1 := (fun (u : Int) => [(mo, .inr (8, [.int (iZ 3), .int (iZ (np : Int)), .ref ow, .ref om, .ref ok_, .ref oK, .ref og, .ref on_, .ref oh, .ref ox, .int qn, .int qf, .ref op_, .int ql]))])) (As := [.int (iZ 3)]) (rest := []) K hP hD hK hS hA hl.1 (c_Mo_refuses l D mo qc np ow om ok_ oK og on_ oh ox qn qf op_ ql 3 H.size (by omega)) [0] [1] [] rfl rfl rfl (by decide) (by decide) (by decide) 0 rfl rfl (big_in mw_1176 rfl) (big_in mw_10 rfl) (big_in mw_1173 rfl) (big_in mw_1175 rfl) (big_in sp_18 rfl) rfl rfl (by decide +kernel) ⟨by rw [hR]; exact Nat.le_of_ble_eq_true rfl, by rw [hR]; exact Nat.le_of_ble_eq_true rfl⟩ rfl (Nat.le_of_ble_eq_true rfl) d_Mo_power_55 ⟨by rw [hR]; exact Nat.le_of_ble_eq_true rfl, by rw [hR]; exact Nat.le_of_ble_eq_true rfl⟩ rfl (fun v u H locs hp3 hP hD hS _ => ?_)
              obtain ⟨rf, rfl⟩ : ∃ z, z = u := ⟨_, rfl⟩
              obtain ⟨rfl, prf⟩ := hp3
              have hP : va_P D cls0 [(og, .inl (cI, 32, .inl fs)), (mo, .inr (8, [.int (iZ 3), .int (iZ (np : Int)), .ref ow, .ref om, .ref ok_, .ref oK, .ref og, .ref on_, .ref oh, .ref ox, .int qn, .int qf, .ref op_, .int ql]))] H := hP
              have hD : va_D A [(og, .inl (cI, 32, .inl fs)), (mo, .inr (8, [.int (iZ 3), .int (iZ (np : Int)), .ref ow, .ref om, .ref ok_, .ref oK, .ref og, .ref on_, .ref oh, .ref ox, .int qn, .int qf, .ref op_, .int ql]))] := hD
              show W p l e R s m args below meth c H locs _ _ Q (F0 m 58 ls [.int (iZ rf)])
              refine zz_if_eq (tgt := 63) hx hb d_Mo_power_58 (by decide) (by omega) (fun c58 => False.elim (by omega)) (fun c58 => ?_)
              refine lv_iconst (v := iZ (0)) hx hb d_Mo_power_61 (by decide +kernel) ?_
              have hP9 : va_P D cls0 [(mo, .inr (8, [.int (iZ 3), .int (iZ (np : Int)), .ref ow, .ref om, .ref ok_, .ref oK, .ref og, .ref on_, .ref oh, .ref ox, .int qn, .int qf, .ref op_, .int ql])), (og, .inl (cI, 32, .inl fs))] H := hP.sub [1, 0] rfl
              have hD9 : va_D A [(mo, .inr (8, [.int (iZ 3), .int (iZ (np : Int)), .ref ow, .ref om, .ref ok_, .ref oK, .ref og, .ref on_, .ref oh, .ref ox, .int qn, .int qf, .ref op_, .int ql])), (og, .inl (cI, 32, .inl fs))] := hD.sub [1, 0] (by decide) rfl
              rw [hQ, ← hAe]
              refine r_i (v := (iZ 0)) K () hS d_Mo_power_62 ?_ (fun t ht hv => ?_)
              · exact rfl
              · exact ⟨by rw [ht]; exact hP9, va_K.moved hv hK, by rw [← hAe]; exact hD9⟩
        · refine lv_iconst (v := iZ (2)) hx hb d_Mo_power_33 (by decide +kernel) ?_
          refine lv_goto (tgt := 55) hx hb d_Mo_power_34 (by decide) ?_
          exfalso
          omega
    · refine lv_iconst (v := iZ (1)) hx hb d_Mo_power_15 (by decide +kernel) ?_
      refine lv_goto (tgt := 55) hx hb d_Mo_power_16 (by decide) ?_
      exfalso
      omega
