theorem sg_cases {s : Int} (h : -1 ≤ s ∧ s ≤ 1) : s = -1 ∨ s = 0 ∨ s = 1 := by omega
theorem sm_add {s t : Int} {a b : Nat} (hs : -1 ≤ s ∧ s ≤ 1) (ht : -1 ≤ t ∧ t ≤ 1) (h1 : s = 0 ↔ a = 0) (h2 : t = 0 ↔ b = 0) (h : s = 0 ∨ t = 0 ∨ s = t) : (s * (a : Int) + t * (b : Int)).natAbs = a + b ∧ (s * (a : Int) + t * (b : Int)).sign = if s = 0 then t else s := by
  have sg : ∀ x y : Int, (y = -1 ∧ x < 0) ∨ (y = 0 ∧ x = 0) ∨ (y = 1 ∧ 0 < x) → x.sign = y := fun x y q => by
    rcases q with ⟨rfl, q⟩ | ⟨rfl, q⟩ | ⟨rfl, q⟩
    · exact Int.sign_eq_neg_one_of_neg q
    · rw [q]; rfl
    · exact Int.sign_eq_one_of_pos q
  rcases sg_cases hs with q | q | q <;> rcases sg_cases ht with k | k | k <;> subst q <;> subst k <;> first | (exfalso; omega) | exact ⟨by omega, sg _ _ (by omega)⟩
set_option maxHeartbeats 4000000 in
set_option maxRecDepth 100000 in
/-- sum(sign, other) -/
theorem c_Mo_sum (l : Launch) (D : va_G) (mo : Nat) (qc : Int32) (np : Nat) (ow : Nat) (om : Nat) (ok_ : Nat) (oK : Nat) (og : Nat) (on_ : Nat) (oh : Nat) (ox : Nat) (qn : Int32) (qf : Int32) (op_ : Nat) (ql : Int32) (fw : Nat → Int32) (fm : Nat → Int32) (cI : ClassId) (val : Nat → Nat) (s_ : Int) (o_ : Int) (sz : Nat) (hW : WB fw fm val) (hs : -1 ≤ s_ ∧ s_ ≤ 1) (ho : -1 ≤ o_ ∧ o_ ≤ 1) (e4 : s_ = 0 ↔ val 0 = 0) (e8 : o_ = 0 ↔ val 2 = 0) (h10 : 0 < val 1) (h30 : 0 < val 3) (k1 : nd (val 0) + nd (val 3) < 12000) (k2 : nd (val 2) + nd (val 1) < 12000) (k3 : nd (val 1) + nd (val 3) < 12000) : Met l y_Mo_sum (wsB y_Mo_sum b_Mo_sum 4 (some .int)) ({ frames := 2, cells := 0, slots := 0, locals := 52 }) (va_Pc [.ref mo, .int (iZ s_), .int (iZ o_)] (wPre D [(cI, .int)] [(mo, .inr (8, [.int qc, .int (iZ (np : Int)), .ref ow, .ref om, .ref ok_, .ref oK, .ref og, .ref on_, .ref oh, .ref ox, .int qn, .int qf, .ref op_, .int ql])), (ow, .inl (cI, 108000, .inl fw)), (om, .inl (cI, 9, .inl fm))] sz)) (va_QV (fun (v_9 : Option Value) (u_9 : Int × (Nat → Int32) × (Nat → Int32) × (Nat → Nat)) => v_9 = some (.int (iZ u_9.1)) ∧ (u_9.1 = (s_ * ((val 0 * val 3 : Nat) : Int) + o_ * ((val 2 * val 1 : Nat) : Int)).sign) ∧ (WB u_9.2.1 u_9.2.2.1 u_9.2.2.2) ∧ (u_9.2.2.2 0 = (s_ * ((val 0 * val 3 : Nat) : Int) + o_ * ((val 2 * val 1 : Nat) : Int)).natAbs) ∧ (u_9.2.2.2 1 = val 1 * val 3)) (fun u_9 => wPost D [(cI, .int)] [(mo, .inr (8, [.int qc, .int (iZ (np : Int)), .ref ow, .ref om, .ref ok_, .ref oK, .ref og, .ref on_, .ref oh, .ref ox, .int qn, .int qf, .ref op_, .int ql])), (ow, .inl (cI, 108000, .inl fw)), (om, .inl (cI, 9, .inl fm))] [(mo, .inr (8, [.int qc, .int (iZ (np : Int)), .ref ow, .ref om, .ref ok_, .ref oK, .ref og, .ref on_, .ref oh, .ref ox, .int qn, .int qf, .ref op_, .int ql])), (ow, .inl (cI, 108000, .inl u_9.2.1)), (om, .inl (cI, 9, .inl u_9.2.2.1))] sz) (va_A [(mo, .inr (8, [.int qc, .int (iZ (np : Int)), .ref ow, .ref om, .ref ok_, .ref oK, .ref og, .ref on_, .ref oh, .ref ox, .int qn, .int qf, .ref op_, .int ql])), (ow, .inl (cI, 108000, .inl fw)), (om, .inl (cI, 9, .inl fm))] sz)) 0 0 (va_A [(mo, .inr (8, [.int qc, .int (iZ (np : Int)), .ref ow, .ref om, .ref ok_, .ref oK, .ref og, .ref on_, .ref oh, .ref ox, .int qn, .int qf, .ref op_, .int ql])), (ow, .inl (cI, 108000, .inl fw)), (om, .inl (cI, 9, .inl fm))] sz) := by
  refine met_enter (by decide +kernel) (Nat.le_of_ble_eq_true rfl) ?_
  intro p e s m args below meth c ls A R Q H locs K hin hAe hA hR hQ hP hK hD hS hl
  obtain ⟨hx, hb, hml, hrt, hlk, hts, hown, hno⟩ := id K
  have hl : lv_has ls 4 [(0, .ref mo), (1, .int (iZ s_)), (2, .int (iZ o_))] := hl
  refine lv_aload_n hx hb d_Mo_sum_0 rfl (lv_at hl 0 rfl) ?_
  refine lv_iconst (v := iZ (4)) hx hb d_Mo_sum_1 (by decide +kernel) ?_
  refine lv_iconst (v := iZ (0)) hx hb d_Mo_sum_2 (by decide +kernel) ?_
  refine lv_iconst (v := iZ (3)) hx hb d_Mo_sum_3 (by decide +kernel) ?_
  refine cv (n := 3) (wr := []) (w1 := (fun (u : (Nat → Int32) × (Nat → Int32)) => [(mo, .inr (8, [.int qc, .int (iZ (np : Int)), .ref ow, .ref om, .ref ok_, .ref oK, .ref og, .ref on_, .ref oh, .ref ox, .int qn, .int qf, .ref op_, .int ql])), (ow, .inl (cI, 108000, .inl u.1)), (om, .inl (cI, 9, .inl u.2))])) (As := [.int (iZ 4), .int (iZ 0), .int (iZ 3)]) (rest := []) K hP hD hK hS hA hl.1 (c_Mo_product l D mo qc np ow om ok_ oK og on_ oh ox qn qf op_ ql fw fm cI val 4 0 3 H.size hW (by decide) (by decide) (by decide) (by decide) (by decide) (by omega)) [0, 1, 2] [] [0] rfl rfl rfl (by decide) (by decide) (by decide) 0 rfl rfl (big_in mw_1258 rfl) (big_in mw_10 rfl) (big_in mw_1255 rfl) (big_in mw_1257 rfl) (big_in sp_34 rfl) rfl rfl (by decide +kernel) ⟨by rw [hR]; exact Nat.le_of_ble_eq_true rfl, by rw [hR]; exact Nat.le_of_ble_eq_true rfl⟩ rfl (Nat.le_of_ble_eq_true rfl) d_Mo_sum_4 ⟨by rw [hR]; exact Nat.le_of_ble_eq_true rfl, by rw [hR]; exact Nat.le_of_ble_eq_true rfl⟩ rfl (fun v u H locs hp1 hP hD hS _ => ?_)
  obtain ⟨fx1, fy1⟩ := u
  try dsimp only at hp1
  obtain ⟨rfl, w1⟩ := hp1
  have hP : va_P D cls0 [(mo, .inr (8, [.int qc, .int (iZ (np : Int)), .ref ow, .ref om, .ref ok_, .ref oK, .ref og, .ref on_, .ref oh, .ref ox, .int qn, .int qf, .ref op_, .int ql])), (ow, .inl (cI, 108000, .inl fx1)), (om, .inl (cI, 9, .inl fy1))] H := hP
  have hD : va_D A [(mo, .inr (8, [.int qc, .int (iZ (np : Int)), .ref ow, .ref om, .ref ok_, .ref oK, .ref og, .ref on_, .ref oh, .ref ox, .int qn, .int qf, .ref op_, .int ql])), (ow, .inl (cI, 108000, .inl fx1)), (om, .inl (cI, 9, .inl fy1))] := hD
  show W p l e R s m args below meth c H locs _ _ Q (F0 m 7 ls [])
  obtain ⟨v1, hv1⟩ : ∃ z, z = up val 4 (val 0 * val 3) := ⟨_, rfl⟩
  rw [← hv1] at w1
  have x11 : v1 1 = val 1 := by simp [hv1, up]
  have x12 : v1 2 = val 2 := by simp [hv1, up]
  have x13 : v1 3 = val 3 := by simp [hv1, up]
  refine lv_aload_n hx hb d_Mo_sum_7 rfl (lv_at hl 0 rfl) ?_
  refine lv_iconst (v := iZ (5)) hx hb d_Mo_sum_8 (by decide +kernel) ?_
  refine lv_iconst (v := iZ (2)) hx hb d_Mo_sum_9 (by decide +kernel) ?_
  refine lv_iconst (v := iZ (1)) hx hb d_Mo_sum_10 (by decide +kernel) ?_
  refine cv (n := 3) (wr := []) (w1 := (fun (u : (Nat → Int32) × (Nat → Int32)) => [(mo, .inr (8, [.int qc, .int (iZ (np : Int)), .ref ow, .ref om, .ref ok_, .ref oK, .ref og, .ref on_, .ref oh, .ref ox, .int qn, .int qf, .ref op_, .int ql])), (ow, .inl (cI, 108000, .inl u.1)), (om, .inl (cI, 9, .inl u.2))])) (As := [.int (iZ 5), .int (iZ 2), .int (iZ 1)]) (rest := []) K hP hD hK hS hA hl.1 (c_Mo_product l D mo qc np ow om ok_ oK og on_ oh ox qn qf op_ ql fx1 fy1 cI v1 5 2 1 H.size w1 (by decide) (by decide) (by decide) (by decide) (by decide) (by rw [x11, x12]; omega)) [0, 1, 2] [] [0] rfl rfl rfl (by decide) (by decide) (by decide) 0 rfl rfl (big_in mw_1258 rfl) (big_in mw_10 rfl) (big_in mw_1255 rfl) (big_in mw_1257 rfl) (big_in sp_34 rfl) rfl rfl (by decide +kernel) ⟨by rw [hR]; exact Nat.le_of_ble_eq_true rfl, by rw [hR]; exact Nat.le_of_ble_eq_true rfl⟩ rfl (Nat.le_of_ble_eq_true rfl) d_Mo_sum_11 ⟨by rw [hR]; exact Nat.le_of_ble_eq_true rfl, by rw [hR]; exact Nat.le_of_ble_eq_true rfl⟩ rfl (fun v u H locs hp2 hP hD hS _ => ?_)
  obtain ⟨fx2, fy2⟩ := u
  try dsimp only at hp2
  obtain ⟨rfl, w2⟩ := hp2
  have hP : va_P D cls0 [(mo, .inr (8, [.int qc, .int (iZ (np : Int)), .ref ow, .ref om, .ref ok_, .ref oK, .ref og, .ref on_, .ref oh, .ref ox, .int qn, .int qf, .ref op_, .int ql])), (ow, .inl (cI, 108000, .inl fx2)), (om, .inl (cI, 9, .inl fy2))] H := hP
  have hD : va_D A [(mo, .inr (8, [.int qc, .int (iZ (np : Int)), .ref ow, .ref om, .ref ok_, .ref oK, .ref og, .ref on_, .ref oh, .ref ox, .int qn, .int qf, .ref op_, .int ql])), (ow, .inl (cI, 108000, .inl fx2)), (om, .inl (cI, 9, .inl fy2))] := hD
  show W p l e R s m args below meth c H locs _ _ Q (F0 m 14 ls [])
  obtain ⟨v2, hv2⟩ : ∃ z, z = up v1 5 (v1 2 * v1 1) := ⟨_, rfl⟩
  rw [← hv2] at w2
  have x21 : v2 1 = val 1 := by simp [hv2, hv1, up]
  have x23 : v2 3 = val 3 := by simp [hv2, hv1, up]
  refine lv_aload_n hx hb d_Mo_sum_14 rfl (lv_at hl 0 rfl) ?_
  refine lv_bipush (v := iZ (6)) hx hb d_Mo_sum_15 (by decide +kernel) ?_
  refine lv_iconst (v := iZ (1)) hx hb d_Mo_sum_17 (by decide +kernel) ?_
  refine lv_iconst (v := iZ (3)) hx hb d_Mo_sum_18 (by decide +kernel) ?_
  refine cv (n := 3) (wr := []) (w1 := (fun (u : (Nat → Int32) × (Nat → Int32)) => [(mo, .inr (8, [.int qc, .int (iZ (np : Int)), .ref ow, .ref om, .ref ok_, .ref oK, .ref og, .ref on_, .ref oh, .ref ox, .int qn, .int qf, .ref op_, .int ql])), (ow, .inl (cI, 108000, .inl u.1)), (om, .inl (cI, 9, .inl u.2))])) (As := [.int (iZ 6), .int (iZ 1), .int (iZ 3)]) (rest := []) K hP hD hK hS hA hl.1 (c_Mo_product l D mo qc np ow om ok_ oK og on_ oh ox qn qf op_ ql fx2 fy2 cI v2 6 1 3 H.size w2 (by decide) (by decide) (by decide) (by decide) (by decide) (by rw [x21, x23]; omega)) [0, 1, 2] [] [0] rfl rfl rfl (by decide) (by decide) (by decide) 0 rfl rfl (big_in mw_1258 rfl) (big_in mw_10 rfl) (big_in mw_1255 rfl) (big_in mw_1257 rfl) (big_in sp_34 rfl) rfl rfl (by decide +kernel) ⟨by rw [hR]; exact Nat.le_of_ble_eq_true rfl, by rw [hR]; exact Nat.le_of_ble_eq_true rfl⟩ rfl (Nat.le_of_ble_eq_true rfl) d_Mo_sum_19 ⟨by rw [hR]; exact Nat.le_of_ble_eq_true rfl, by rw [hR]; exact Nat.le_of_ble_eq_true rfl⟩ rfl (fun v u H locs hp3 hP hD hS _ => ?_)
  obtain ⟨fx3, fy3⟩ := u
  try dsimp only at hp3
  obtain ⟨rfl, w3⟩ := hp3
  have hP : va_P D cls0 [(mo, .inr (8, [.int qc, .int (iZ (np : Int)), .ref ow, .ref om, .ref ok_, .ref oK, .ref og, .ref on_, .ref oh, .ref ox, .int qn, .int qf, .ref op_, .int ql])), (ow, .inl (cI, 108000, .inl fx3)), (om, .inl (cI, 9, .inl fy3))] H := hP
  have hD : va_D A [(mo, .inr (8, [.int qc, .int (iZ (np : Int)), .ref ow, .ref om, .ref ok_, .ref oK, .ref og, .ref on_, .ref oh, .ref ox, .int qn, .int qf, .ref op_, .int ql])), (ow, .inl (cI, 108000, .inl fx3)), (om, .inl (cI, 9, .inl fy3))] := hD
  show W p l e R s m args below meth c H locs _ _ Q (F0 m 22 ls [])
  obtain ⟨v3, hv3⟩ : ∃ z, z = up v2 6 (v2 1 * v2 3) := ⟨_, rfl⟩
  rw [← hv3] at w3
  refine lv_aload_n hx hb d_Mo_sum_22 rfl (lv_at hl 0 rfl) ?_
  refine lv_iconst (v := iZ (1)) hx hb d_Mo_sum_23 (by decide +kernel) ?_
  refine lv_bipush (v := iZ (6)) hx hb d_Mo_sum_24 (by decide +kernel) ?_
  refine cv (n := 2) (wr := []) (w1 := (fun (u : (Nat → Int32) × (Nat → Int32)) => [(mo, .inr (8, [.int qc, .int (iZ (np : Int)), .ref ow, .ref om, .ref ok_, .ref oK, .ref og, .ref on_, .ref oh, .ref ox, .int qn, .int qf, .ref op_, .int ql])), (ow, .inl (cI, 108000, .inl u.1)), (om, .inl (cI, 9, .inl u.2))])) (As := [.int (iZ 1), .int (iZ 6)]) (rest := []) K hP hD hK hS hA hl.1 (c_Mo_copyTo l D mo qc np ow om ok_ oK og on_ oh ox qn qf op_ ql fx3 fy3 cI v3 1 6 H.size w3 (by omega) (by omega) (by omega)) [0, 1, 2] [] [0] rfl rfl rfl (by decide) (by decide) (by decide) 0 rfl rfl (big_in mw_1193 rfl) (big_in mw_10 rfl) (big_in mw_1190 rfl) (big_in mw_1192 rfl) (big_in sp_22 rfl) rfl rfl (by decide +kernel) ⟨by rw [hR]; exact Nat.le_of_ble_eq_true rfl, by rw [hR]; exact Nat.le_of_ble_eq_true rfl⟩ rfl (Nat.le_of_ble_eq_true rfl) d_Mo_sum_26 ⟨by rw [hR]; exact Nat.le_of_ble_eq_true rfl, by rw [hR]; exact Nat.le_of_ble_eq_true rfl⟩ rfl (fun v u H locs hp4 hP hD hS _ => ?_)
  obtain ⟨fx4, fy4⟩ := u
  try dsimp only at hp4
  obtain ⟨rfl, w4⟩ := hp4
  have hP : va_P D cls0 [(mo, .inr (8, [.int qc, .int (iZ (np : Int)), .ref ow, .ref om, .ref ok_, .ref oK, .ref og, .ref on_, .ref oh, .ref ox, .int qn, .int qf, .ref op_, .int ql])), (ow, .inl (cI, 108000, .inl fx4)), (om, .inl (cI, 9, .inl fy4))] H := hP
  have hD : va_D A [(mo, .inr (8, [.int qc, .int (iZ (np : Int)), .ref ow, .ref om, .ref ok_, .ref oK, .ref og, .ref on_, .ref oh, .ref ox, .int qn, .int qf, .ref op_, .int ql])), (ow, .inl (cI, 108000, .inl fx4)), (om, .inl (cI, 9, .inl fy4))] := hD
  show W p l e R s m args below meth c H locs _ _ Q (F0 m 29 ls [])
  obtain ⟨v4, hv4⟩ : ∃ z, z = up v3 1 (v3 6) := ⟨_, rfl⟩
  rw [← hv4] at w4
  have y44 : v4 4 = val 0 * val 3 := by simp [hv4, hv3, hv2, hv1, up]
  have y45 : v4 5 = val 2 * val 1 := by simp [hv4, hv3, hv2, hv1, up]
  have y41 : v4 1 = val 1 * val 3 := by simp [hv4, hv3, hv2, hv1, up]
  have m1 := nd_mul (val 0) (val 3)
  have m2 := nd_mul (val 2) (val 1)
  have f4 : s_ = 0 ↔ val 0 * val 3 = 0 := by rw [Nat.mul_eq_zero, e4]; constructor; exact Or.inl; intro h; rcases h with h | h; exact h; omega
  have f8 : o_ = 0 ↔ val 2 * val 1 = 0 := by rw [Nat.mul_eq_zero, e8]; constructor; exact Or.inl; intro h; rcases h with h | h; exact h; omega
  refine lv_iload_n hx hb d_Mo_sum_29 rfl (lv_at hl 1 rfl) ?_
  refine zz_if_eq (tgt := 42) hx hb d_Mo_sum_30 (by decide) (by omega) (fun c30 => ?_) (fun c30 => ?_)
  · refine lv_aload_n hx hb d_Mo_sum_42 rfl (lv_at hl 0 rfl) ?_
    refine lv_iconst (v := iZ (4)) hx hb d_Mo_sum_43 (by decide +kernel) ?_
    refine lv_iconst (v := iZ (5)) hx hb d_Mo_sum_44 (by decide +kernel) ?_
    refine cv (n := 2) (wr := []) (w1 := (fun (u : (Nat → Int32) × (Nat → Int32)) => [(mo, .inr (8, [.int qc, .int (iZ (np : Int)), .ref ow, .ref om, .ref ok_, .ref oK, .ref og, .ref on_, .ref oh, .ref ox, .int qn, .int qf, .ref op_, .int ql])), (ow, .inl (cI, 108000, .inl u.1)), (om, .inl (cI, 9, .inl u.2))])) (As := [.int (iZ 4), .int (iZ 5)]) (rest := []) K hP hD hK hS hA hl.1 (c_Mo_addTo l D mo qc np ow om ok_ oK og on_ oh ox qn qf op_ ql fx4 fy4 cI v4 4 5 H.size w4 (by decide) (by decide) (by decide) (by rw [y44]; omega) (by rw [y45]; omega)) [0, 1, 2] [] [0] rfl rfl rfl (by decide) (by decide) (by decide) 0 rfl rfl (big_in mw_1262 rfl) (big_in mw_10 rfl) (big_in mw_1259 rfl) (big_in mw_1261 rfl) (big_in sp_35 rfl) rfl rfl (by decide +kernel) ⟨by rw [hR]; exact Nat.le_of_ble_eq_true rfl, by rw [hR]; exact Nat.le_of_ble_eq_true rfl⟩ rfl (Nat.le_of_ble_eq_true rfl) d_Mo_sum_45 ⟨by rw [hR]; exact Nat.le_of_ble_eq_true rfl, by rw [hR]; exact Nat.le_of_ble_eq_true rfl⟩ rfl (fun v u H locs hp5 hP hD hS _ => ?_)
    obtain ⟨fx5, fy5⟩ := u
    try dsimp only at hp5
    obtain ⟨rfl, w5⟩ := hp5
    have hP : va_P D cls0 [(mo, .inr (8, [.int qc, .int (iZ (np : Int)), .ref ow, .ref om, .ref ok_, .ref oK, .ref og, .ref on_, .ref oh, .ref ox, .int qn, .int qf, .ref op_, .int ql])), (ow, .inl (cI, 108000, .inl fx5)), (om, .inl (cI, 9, .inl fy5))] H := hP
    have hD : va_D A [(mo, .inr (8, [.int qc, .int (iZ (np : Int)), .ref ow, .ref om, .ref ok_, .ref oK, .ref og, .ref on_, .ref oh, .ref ox, .int qn, .int qf, .ref op_, .int ql])), (ow, .inl (cI, 108000, .inl fx5)), (om, .inl (cI, 9, .inl fy5))] := hD
    show W p l e R s m args below meth c H locs _ _ Q (F0 m 48 ls [])
    obtain ⟨v5, hv5⟩ : ∃ z, z = up v4 4 (v4 4 + v4 5) := ⟨_, rfl⟩
    rw [← hv5] at w5
    refine lv_aload_n hx hb d_Mo_sum_48 rfl (lv_at hl 0 rfl) ?_
    refine lv_iconst (v := iZ (0)) hx hb d_Mo_sum_49 (by decide +kernel) ?_
    refine lv_iconst (v := iZ (4)) hx hb d_Mo_sum_50 (by decide +kernel) ?_
    refine cv (n := 2) (wr := []) (w1 := (fun (u : (Nat → Int32) × (Nat → Int32)) => [(mo, .inr (8, [.int qc, .int (iZ (np : Int)), .ref ow, .ref om, .ref ok_, .ref oK, .ref og, .ref on_, .ref oh, .ref ox, .int qn, .int qf, .ref op_, .int ql])), (ow, .inl (cI, 108000, .inl u.1)), (om, .inl (cI, 9, .inl u.2))])) (As := [.int (iZ 0), .int (iZ 4)]) (rest := []) K hP hD hK hS hA hl.1 (c_Mo_copyTo l D mo qc np ow om ok_ oK og on_ oh ox qn qf op_ ql fx5 fy5 cI v5 0 4 H.size w5 (by omega) (by omega) (by omega)) [0, 1, 2] [] [0] rfl rfl rfl (by decide) (by decide) (by decide) 0 rfl rfl (big_in mw_1193 rfl) (big_in mw_10 rfl) (big_in mw_1190 rfl) (big_in mw_1192 rfl) (big_in sp_22 rfl) rfl rfl (by decide +kernel) ⟨by rw [hR]; exact Nat.le_of_ble_eq_true rfl, by rw [hR]; exact Nat.le_of_ble_eq_true rfl⟩ rfl (Nat.le_of_ble_eq_true rfl) d_Mo_sum_51 ⟨by rw [hR]; exact Nat.le_of_ble_eq_true rfl, by rw [hR]; exact Nat.le_of_ble_eq_true rfl⟩ rfl (fun v u H locs hp6 hP hD hS _ => ?_)
    obtain ⟨fx6, fy6⟩ := u
    try dsimp only at hp6
    obtain ⟨rfl, w6⟩ := hp6
    have hP : va_P D cls0 [(mo, .inr (8, [.int qc, .int (iZ (np : Int)), .ref ow, .ref om, .ref ok_, .ref oK, .ref og, .ref on_, .ref oh, .ref ox, .int qn, .int qf, .ref op_, .int ql])), (ow, .inl (cI, 108000, .inl fx6)), (om, .inl (cI, 9, .inl fy6))] H := hP
    have hD : va_D A [(mo, .inr (8, [.int qc, .int (iZ (np : Int)), .ref ow, .ref om, .ref ok_, .ref oK, .ref og, .ref on_, .ref oh, .ref ox, .int qn, .int qf, .ref op_, .int ql])), (ow, .inl (cI, 108000, .inl fx6)), (om, .inl (cI, 9, .inl fy6))] := hD
    show W p l e R s m args below meth c H locs _ _ Q (F0 m 54 ls [])
    obtain ⟨v6, hv6⟩ : ∃ z, z = up v5 0 (v5 4) := ⟨_, rfl⟩
    rw [← hv6] at w6
    refine lv_iload_n hx hb d_Mo_sum_54 rfl (lv_at hl 1 rfl) ?_
    refine zz_if_ne (tgt := 62) hx hb d_Mo_sum_55 (by decide) (by omega) (fun c55 => ?_) (fun c55 => ?_)
    · refine lv_iload_n hx hb d_Mo_sum_62 rfl (lv_at hl 1 rfl) ?_
      have hP9 : va_P D cls0 [(mo, .inr (8, [.int qc, .int (iZ (np : Int)), .ref ow, .ref om, .ref ok_, .ref oK, .ref og, .ref on_, .ref oh, .ref ox, .int qn, .int qf, .ref op_, .int ql])), (ow, .inl (cI, 108000, .inl fx6)), (om, .inl (cI, 9, .inl fy6))] H := hP.sub [0, 1, 2] rfl
      have hD9 : va_D A [(mo, .inr (8, [.int qc, .int (iZ (np : Int)), .ref ow, .ref om, .ref ok_, .ref oK, .ref og, .ref on_, .ref oh, .ref ox, .int qn, .int qf, .ref op_, .int ql])), (ow, .inl (cI, 108000, .inl fx6)), (om, .inl (cI, 9, .inl fy6))] := hD.sub [0, 1, 2] (by decide) rfl
      rw [hQ, ← hAe]
      refine r_i (v := (iZ s_)) K (s_, fx6, fy6, v6) hS d_Mo_sum_63 ?_ (fun t ht hv => ?_)
      · try dsimp only
        have z1 : v6 1 = val 1 * val 3 := by rw [hv6, up_n (by decide), hv5, up_n (by decide)]; exact y41
        obtain ⟨q1, q2⟩ := sm_add hs ho f4 f8 (by omega)
        refine ⟨rfl, ?_, w6, ?_, z1⟩
        · rw [q2]; first | (exfalso; omega) | rw [if_pos (by omega)] | rw [if_neg (by omega)]
        · rw [q1, hv6, up_s, hv5, up_s, y44, y45]
      · exact ⟨by rw [ht]; exact hP9, va_K.moved hv hK, by rw [← hAe]; exact hD9⟩
    · refine lv_iload_n hx hb d_Mo_sum_58 rfl (lv_at hl 2 rfl) ?_
      refine lv_goto (tgt := 63) hx hb d_Mo_sum_59 (by decide) ?_
      have hP9 : va_P D cls0 [(mo, .inr (8, [.int qc, .int (iZ (np : Int)), .ref ow, .ref om, .ref ok_, .ref oK, .ref og, .ref on_, .ref oh, .ref ox, .int qn, .int qf, .ref op_, .int ql])), (ow, .inl (cI, 108000, .inl fx6)), (om, .inl (cI, 9, .inl fy6))] H := hP.sub [0, 1, 2] rfl
      have hD9 : va_D A [(mo, .inr (8, [.int qc, .int (iZ (np : Int)), .ref ow, .ref om, .ref ok_, .ref oK, .ref og, .ref on_, .ref oh, .ref ox, .int qn, .int qf, .ref op_, .int ql])), (ow, .inl (cI, 108000, .inl fx6)), (om, .inl (cI, 9, .inl fy6))] := hD.sub [0, 1, 2] (by decide) rfl
      rw [hQ, ← hAe]
      refine r_i (v := (iZ o_)) K (o_, fx6, fy6, v6) hS d_Mo_sum_63 ?_ (fun t ht hv => ?_)
      · try dsimp only
        have z1 : v6 1 = val 1 * val 3 := by rw [hv6, up_n (by decide), hv5, up_n (by decide)]; exact y41
        obtain ⟨q1, q2⟩ := sm_add hs ho f4 f8 (by omega)
        refine ⟨rfl, ?_, w6, ?_, z1⟩
        · rw [q2]; first | (exfalso; omega) | rw [if_pos (by omega)] | rw [if_neg (by omega)]
        · rw [q1, hv6, up_s, hv5, up_s, y44, y45]
      · exact ⟨by rw [ht]; exact hP9, va_K.moved hv hK, by rw [← hAe]; exact hD9⟩
  · refine lv_iload_n hx hb d_Mo_sum_33 rfl (lv_at hl 2 rfl) ?_
    refine zz_if_eq (tgt := 42) hx hb d_Mo_sum_34 (by decide) (by omega) (fun c34 => ?_) (fun c34 => ?_)
    · refine lv_aload_n hx hb d_Mo_sum_42 rfl (lv_at hl 0 rfl) ?_
      refine lv_iconst (v := iZ (4)) hx hb d_Mo_sum_43 (by decide +kernel) ?_
      refine lv_iconst (v := iZ (5)) hx hb d_Mo_sum_44 (by decide +kernel) ?_
      refine cv (n := 2) (wr := []) (w1 := (fun (u : (Nat → Int32) × (Nat → Int32)) => [(mo, .inr (8, [.int qc, .int (iZ (np : Int)), .ref ow, .ref om, .ref ok_, .ref oK, .ref og, .ref on_, .ref oh, .ref ox, .int qn, .int qf, .ref op_, .int ql])), (ow, .inl (cI, 108000, .inl u.1)), (om, .inl (cI, 9, .inl u.2))])) (As := [.int (iZ 4), .int (iZ 5)]) (rest := []) K hP hD hK hS hA hl.1 (c_Mo_addTo l D mo qc np ow om ok_ oK og on_ oh ox qn qf op_ ql fx4 fy4 cI v4 4 5 H.size w4 (by decide) (by decide) (by decide) (by rw [y44]; omega) (by rw [y45]; omega)) [0, 1, 2] [] [0] rfl rfl rfl (by decide) (by decide) (by decide) 0 rfl rfl (big_in mw_1262 rfl) (big_in mw_10 rfl) (big_in mw_1259 rfl) (big_in mw_1261 rfl) (big_in sp_35 rfl) rfl rfl (by decide +kernel) ⟨by rw [hR]; exact Nat.le_of_ble_eq_true rfl, by rw [hR]; exact Nat.le_of_ble_eq_true rfl⟩ rfl (Nat.le_of_ble_eq_true rfl) d_Mo_sum_45 ⟨by rw [hR]; exact Nat.le_of_ble_eq_true rfl, by rw [hR]; exact Nat.le_of_ble_eq_true rfl⟩ rfl (fun v u H locs hp7 hP hD hS _ => ?_)
      obtain ⟨fx5, fy5⟩ := u
      try dsimp only at hp7
      obtain ⟨rfl, w5⟩ := hp7
      have hP : va_P D cls0 [(mo, .inr (8, [.int qc, .int (iZ (np : Int)), .ref ow, .ref om, .ref ok_, .ref oK, .ref og, .ref on_, .ref oh, .ref ox, .int qn, .int qf, .ref op_, .int ql])), (ow, .inl (cI, 108000, .inl fx5)), (om, .inl (cI, 9, .inl fy5))] H := hP
      have hD : va_D A [(mo, .inr (8, [.int qc, .int (iZ (np : Int)), .ref ow, .ref om, .ref ok_, .ref oK, .ref og, .ref on_, .ref oh, .ref ox, .int qn, .int qf, .ref op_, .int ql])), (ow, .inl (cI, 108000, .inl fx5)), (om, .inl (cI, 9, .inl fy5))] := hD
      show W p l e R s m args below meth c H locs _ _ Q (F0 m 48 ls [])
      obtain ⟨v5, hv5⟩ : ∃ z, z = up v4 4 (v4 4 + v4 5) := ⟨_, rfl⟩
      rw [← hv5] at w5
      refine lv_aload_n hx hb d_Mo_sum_48 rfl (lv_at hl 0 rfl) ?_
      refine lv_iconst (v := iZ (0)) hx hb d_Mo_sum_49 (by decide +kernel) ?_
      refine lv_iconst (v := iZ (4)) hx hb d_Mo_sum_50 (by decide +kernel) ?_
      refine cv (n := 2) (wr := []) (w1 := (fun (u : (Nat → Int32) × (Nat → Int32)) => [(mo, .inr (8, [.int qc, .int (iZ (np : Int)), .ref ow, .ref om, .ref ok_, .ref oK, .ref og, .ref on_, .ref oh, .ref ox, .int qn, .int qf, .ref op_, .int ql])), (ow, .inl (cI, 108000, .inl u.1)), (om, .inl (cI, 9, .inl u.2))])) (As := [.int (iZ 0), .int (iZ 4)]) (rest := []) K hP hD hK hS hA hl.1 (c_Mo_copyTo l D mo qc np ow om ok_ oK og on_ oh ox qn qf op_ ql fx5 fy5 cI v5 0 4 H.size w5 (by omega) (by omega) (by omega)) [0, 1, 2] [] [0] rfl rfl rfl (by decide) (by decide) (by decide) 0 rfl rfl (big_in mw_1193 rfl) (big_in mw_10 rfl) (big_in mw_1190 rfl) (big_in mw_1192 rfl) (big_in sp_22 rfl) rfl rfl (by decide +kernel) ⟨by rw [hR]; exact Nat.le_of_ble_eq_true rfl, by rw [hR]; exact Nat.le_of_ble_eq_true rfl⟩ rfl (Nat.le_of_ble_eq_true rfl) d_Mo_sum_51 ⟨by rw [hR]; exact Nat.le_of_ble_eq_true rfl, by rw [hR]; exact Nat.le_of_ble_eq_true rfl⟩ rfl (fun v u H locs hp8 hP hD hS _ => ?_)
      obtain ⟨fx6, fy6⟩ := u
      try dsimp only at hp8
      obtain ⟨rfl, w6⟩ := hp8
      have hP : va_P D cls0 [(mo, .inr (8, [.int qc, .int (iZ (np : Int)), .ref ow, .ref om, .ref ok_, .ref oK, .ref og, .ref on_, .ref oh, .ref ox, .int qn, .int qf, .ref op_, .int ql])), (ow, .inl (cI, 108000, .inl fx6)), (om, .inl (cI, 9, .inl fy6))] H := hP
      have hD : va_D A [(mo, .inr (8, [.int qc, .int (iZ (np : Int)), .ref ow, .ref om, .ref ok_, .ref oK, .ref og, .ref on_, .ref oh, .ref ox, .int qn, .int qf, .ref op_, .int ql])), (ow, .inl (cI, 108000, .inl fx6)), (om, .inl (cI, 9, .inl fy6))] := hD
      show W p l e R s m args below meth c H locs _ _ Q (F0 m 54 ls [])
      obtain ⟨v6, hv6⟩ : ∃ z, z = up v5 0 (v5 4) := ⟨_, rfl⟩
      rw [← hv6] at w6
      refine lv_iload_n hx hb d_Mo_sum_54 rfl (lv_at hl 1 rfl) ?_
      refine zz_if_ne (tgt := 62) hx hb d_Mo_sum_55 (by decide) (by omega) (fun c55 => ?_) (fun c55 => ?_)
      · refine lv_iload_n hx hb d_Mo_sum_62 rfl (lv_at hl 1 rfl) ?_
        have hP9 : va_P D cls0 [(mo, .inr (8, [.int qc, .int (iZ (np : Int)), .ref ow, .ref om, .ref ok_, .ref oK, .ref og, .ref on_, .ref oh, .ref ox, .int qn, .int qf, .ref op_, .int ql])), (ow, .inl (cI, 108000, .inl fx6)), (om, .inl (cI, 9, .inl fy6))] H := hP.sub [0, 1, 2] rfl
        have hD9 : va_D A [(mo, .inr (8, [.int qc, .int (iZ (np : Int)), .ref ow, .ref om, .ref ok_, .ref oK, .ref og, .ref on_, .ref oh, .ref ox, .int qn, .int qf, .ref op_, .int ql])), (ow, .inl (cI, 108000, .inl fx6)), (om, .inl (cI, 9, .inl fy6))] := hD.sub [0, 1, 2] (by decide) rfl
        rw [hQ, ← hAe]
        refine r_i (v := (iZ s_)) K (s_, fx6, fy6, v6) hS d_Mo_sum_63 ?_ (fun t ht hv => ?_)
        · try dsimp only
          have z1 : v6 1 = val 1 * val 3 := by rw [hv6, up_n (by decide), hv5, up_n (by decide)]; exact y41
          obtain ⟨q1, q2⟩ := sm_add hs ho f4 f8 (by omega)
          refine ⟨rfl, ?_, w6, ?_, z1⟩
          · rw [q2]; first | (exfalso; omega) | rw [if_pos (by omega)] | rw [if_neg (by omega)]
          · rw [q1, hv6, up_s, hv5, up_s, y44, y45]
        · exact ⟨by rw [ht]; exact hP9, va_K.moved hv hK, by rw [← hAe]; exact hD9⟩
      · refine lv_iload_n hx hb d_Mo_sum_58 rfl (lv_at hl 2 rfl) ?_
        refine lv_goto (tgt := 63) hx hb d_Mo_sum_59 (by decide) ?_
        have hP9 : va_P D cls0 [(mo, .inr (8, [.int qc, .int (iZ (np : Int)), .ref ow, .ref om, .ref ok_, .ref oK, .ref og, .ref on_, .ref oh, .ref ox, .int qn, .int qf, .ref op_, .int ql])), (ow, .inl (cI, 108000, .inl fx6)), (om, .inl (cI, 9, .inl fy6))] H := hP.sub [0, 1, 2] rfl
        have hD9 : va_D A [(mo, .inr (8, [.int qc, .int (iZ (np : Int)), .ref ow, .ref om, .ref ok_, .ref oK, .ref og, .ref on_, .ref oh, .ref ox, .int qn, .int qf, .ref op_, .int ql])), (ow, .inl (cI, 108000, .inl fx6)), (om, .inl (cI, 9, .inl fy6))] := hD.sub [0, 1, 2] (by decide) rfl
        rw [hQ, ← hAe]
        refine r_i (v := (iZ o_)) K (o_, fx6, fy6, v6) hS d_Mo_sum_63 ?_ (fun t ht hv => ?_)
        · try dsimp only
          have z1 : v6 1 = val 1 * val 3 := by rw [hv6, up_n (by decide), hv5, up_n (by decide)]; exact y41
          obtain ⟨q1, q2⟩ := sm_add hs ho f4 f8 (by omega)
          refine ⟨rfl, ?_, w6, ?_, z1⟩
          · rw [q2]; first | (exfalso; omega) | rw [if_pos (by omega)] | rw [if_neg (by omega)]
          · rw [q1, hv6, up_s, hv5, up_s, y44, y45]
        · exact ⟨by rw [ht]; exact hP9, va_K.moved hv hK, by rw [← hAe]; exact hD9⟩
    · refine lv_iload_n hx hb d_Mo_sum_37 rfl (lv_at hl 1 rfl) ?_
      refine lv_iload_n hx hb d_Mo_sum_38 rfl (lv_at hl 2 rfl) ?_
      refine zz_icmp_ne (tgt := 64) hx hb d_Mo_sum_39 (by decide) (by omega) (by omega) (fun c39 => ?_) (fun c39 => ?_)
      · refine lv_aload_n hx hb d_Mo_sum_64 rfl (lv_at hl 0 rfl) ?_
        refine lv_iconst (v := iZ (4)) hx hb d_Mo_sum_65 (by decide +kernel) ?_
        refine lv_iconst (v := iZ (5)) hx hb d_Mo_sum_66 (by decide +kernel) ?_
        refine cv (n := 2) (wr := []) (w1 := (fun (u : Int) => [(mo, .inr (8, [.int qc, .int (iZ (np : Int)), .ref ow, .ref om, .ref ok_, .ref oK, .ref og, .ref on_, .ref oh, .ref ox, .int qn, .int qf, .ref op_, .int ql])), (ow, .inl (cI, 108000, .inl fx4)), (om, .inl (cI, 9, .inl fy4))])) (As := [.int (iZ 4), .int (iZ 5)]) (rest := []) K hP hD hK hS hA hl.1 (c_Mo_order l D mo qc np ow om ok_ oK og on_ oh ox qn qf op_ ql fx4 fy4 cI v4 4 5 H.size w4 (by omega) (by omega)) [0, 1, 2] [] [0] rfl rfl rfl (by decide) (by decide) (by decide) 0 rfl rfl (big_in mw_1270 rfl) (big_in mw_10 rfl) (big_in mw_1267 rfl) (big_in mw_1269 rfl) (big_in sp_37 rfl) rfl rfl (by decide +kernel) ⟨by rw [hR]; exact Nat.le_of_ble_eq_true rfl, by rw [hR]; exact Nat.le_of_ble_eq_true rfl⟩ rfl (Nat.le_of_ble_eq_true rfl) d_Mo_sum_67 ⟨by rw [hR]; exact Nat.le_of_ble_eq_true rfl, by rw [hR]; exact Nat.le_of_ble_eq_true rfl⟩ rfl (fun v u H locs hp9 hP hD hS _ => ?_)
        obtain ⟨rc, rfl⟩ : ∃ z, z = u := ⟨_, rfl⟩
        obtain ⟨rfl, gq⟩ := hp9
        have hP : va_P D cls0 [(mo, .inr (8, [.int qc, .int (iZ (np : Int)), .ref ow, .ref om, .ref ok_, .ref oK, .ref og, .ref on_, .ref oh, .ref ox, .int qn, .int qf, .ref op_, .int ql])), (ow, .inl (cI, 108000, .inl fx4)), (om, .inl (cI, 9, .inl fy4))] H := hP
        have hD : va_D A [(mo, .inr (8, [.int qc, .int (iZ (np : Int)), .ref ow, .ref om, .ref ok_, .ref oK, .ref og, .ref on_, .ref oh, .ref ox, .int qn, .int qf, .ref op_, .int ql])), (ow, .inl (cI, 108000, .inl fx4)), (om, .inl (cI, 9, .inl fy4))] := hD
        show W p l e R s m args below meth c H locs _ _ Q (F0 m 70 ls [.int (iZ rc)])
        rw [y44, y45] at gq
        obtain ⟨t0, t1, t2⟩ : (rc < 0 ↔ ((val 0 * val 3 : Nat) : Int) < ((val 2 * val 1 : Nat) : Int)) ∧ (rc = 0 ↔ ((val 0 * val 3 : Nat) : Int) = ((val 2 * val 1 : Nat) : Int)) ∧ (-1 ≤ rc ∧ rc ≤ 1) := by rw [gq]; exact ⟨cmpZ_lt, cmpZ_eq, cmpZ_r _ _⟩
        clear gq
        obtain ⟨A_, hA_⟩ : ∃ x, x = val 0 * val 3 := ⟨_, rfl⟩
        obtain ⟨B_, hB_⟩ : ∃ x, x = val 2 * val 1 := ⟨_, rfl⟩
        rw [← hA_, ← hB_] at t0 t1
        refine lv_istore_n (lv' := [(3, .int (iZ rc)), (0, .ref mo), (1, .int (iZ s_)), (2, .int (iZ o_))]) hx hb d_Mo_sum_70 rfl hl (by decide) rfl (fun ls hl => ?_)
        refine lv_iload_n hx hb d_Mo_sum_71 rfl (lv_at hl 0 rfl) ?_
        refine zz_if_ge (tgt := 89) hx hb d_Mo_sum_72 (by decide) (by omega) (fun c72 => ?_) (fun c72 => ?_)
        · refine lv_aload_n hx hb d_Mo_sum_89 rfl (lv_at hl 1 rfl) ?_
          refine lv_iconst (v := iZ (4)) hx hb d_Mo_sum_90 (by decide +kernel) ?_
          refine lv_iconst (v := iZ (5)) hx hb d_Mo_sum_91 (by decide +kernel) ?_
          refine cv (n := 2) (wr := []) (w1 := (fun (u : (Nat → Int32) × (Nat → Int32)) => [(mo, .inr (8, [.int qc, .int (iZ (np : Int)), .ref ow, .ref om, .ref ok_, .ref oK, .ref og, .ref on_, .ref oh, .ref ox, .int qn, .int qf, .ref op_, .int ql])), (ow, .inl (cI, 108000, .inl u.1)), (om, .inl (cI, 9, .inl u.2))])) (As := [.int (iZ 4), .int (iZ 5)]) (rest := []) K hP hD hK hS hA hl.1 (c_Mo_takeFrom l D mo qc np ow om ok_ oK og on_ oh ox qn qf op_ ql fx4 fy4 cI v4 4 5 H.size w4 (by decide) (by decide) (by decide) (by rw [y44, y45, ← hA_, ← hB_]; omega)) [0, 1, 2] [] [0] rfl rfl rfl (by decide) (by decide) (by decide) 0 rfl rfl (big_in mw_1274 rfl) (big_in mw_10 rfl) (big_in mw_1271 rfl) (big_in mw_1273 rfl) (big_in sp_38 rfl) rfl rfl (by decide +kernel) ⟨by rw [hR]; exact Nat.le_of_ble_eq_true rfl, by rw [hR]; exact Nat.le_of_ble_eq_true rfl⟩ rfl (Nat.le_of_ble_eq_true rfl) d_Mo_sum_92 ⟨by rw [hR]; exact Nat.le_of_ble_eq_true rfl, by rw [hR]; exact Nat.le_of_ble_eq_true rfl⟩ rfl (fun v u H locs hp10 hP hD hS _ => ?_)
          obtain ⟨fx5, fy5⟩ := u
          try dsimp only at hp10
          obtain ⟨rfl, w5⟩ := hp10
          have hP : va_P D cls0 [(mo, .inr (8, [.int qc, .int (iZ (np : Int)), .ref ow, .ref om, .ref ok_, .ref oK, .ref og, .ref on_, .ref oh, .ref ox, .int qn, .int qf, .ref op_, .int ql])), (ow, .inl (cI, 108000, .inl fx5)), (om, .inl (cI, 9, .inl fy5))] H := hP
          have hD : va_D A [(mo, .inr (8, [.int qc, .int (iZ (np : Int)), .ref ow, .ref om, .ref ok_, .ref oK, .ref og, .ref on_, .ref oh, .ref ox, .int qn, .int qf, .ref op_, .int ql])), (ow, .inl (cI, 108000, .inl fx5)), (om, .inl (cI, 9, .inl fy5))] := hD
          show W p l e R s m args below meth c H locs _ _ Q (F0 m 95 ls [])
          obtain ⟨v5, hv5⟩ : ∃ z, z = up v4 4 (v4 4 - v4 5) := ⟨_, rfl⟩
          rw [← hv5] at w5
          refine lv_aload_n hx hb d_Mo_sum_95 rfl (lv_at hl 1 rfl) ?_
          refine lv_iconst (v := iZ (0)) hx hb d_Mo_sum_96 (by decide +kernel) ?_
          refine lv_iconst (v := iZ (4)) hx hb d_Mo_sum_97 (by decide +kernel) ?_
          refine cv (n := 2) (wr := []) (w1 := (fun (u : (Nat → Int32) × (Nat → Int32)) => [(mo, .inr (8, [.int qc, .int (iZ (np : Int)), .ref ow, .ref om, .ref ok_, .ref oK, .ref og, .ref on_, .ref oh, .ref ox, .int qn, .int qf, .ref op_, .int ql])), (ow, .inl (cI, 108000, .inl u.1)), (om, .inl (cI, 9, .inl u.2))])) (As := [.int (iZ 0), .int (iZ 4)]) (rest := []) K hP hD hK hS hA hl.1 (c_Mo_copyTo l D mo qc np ow om ok_ oK og on_ oh ox qn qf op_ ql fx5 fy5 cI v5 0 4 H.size w5 (by omega) (by omega) (by omega)) [0, 1, 2] [] [0] rfl rfl rfl (by decide) (by decide) (by decide) 0 rfl rfl (big_in mw_1193 rfl) (big_in mw_10 rfl) (big_in mw_1190 rfl) (big_in mw_1192 rfl) (big_in sp_22 rfl) rfl rfl (by decide +kernel) ⟨by rw [hR]; exact Nat.le_of_ble_eq_true rfl, by rw [hR]; exact Nat.le_of_ble_eq_true rfl⟩ rfl (Nat.le_of_ble_eq_true rfl) d_Mo_sum_98 ⟨by rw [hR]; exact Nat.le_of_ble_eq_true rfl, by rw [hR]; exact Nat.le_of_ble_eq_true rfl⟩ rfl (fun v u H locs hp11 hP hD hS _ => ?_)
          obtain ⟨fx6, fy6⟩ := u
          try dsimp only at hp11
          obtain ⟨rfl, w6⟩ := hp11
          have hP : va_P D cls0 [(mo, .inr (8, [.int qc, .int (iZ (np : Int)), .ref ow, .ref om, .ref ok_, .ref oK, .ref og, .ref on_, .ref oh, .ref ox, .int qn, .int qf, .ref op_, .int ql])), (ow, .inl (cI, 108000, .inl fx6)), (om, .inl (cI, 9, .inl fy6))] H := hP
          have hD : va_D A [(mo, .inr (8, [.int qc, .int (iZ (np : Int)), .ref ow, .ref om, .ref ok_, .ref oK, .ref og, .ref on_, .ref oh, .ref ox, .int qn, .int qf, .ref op_, .int ql])), (ow, .inl (cI, 108000, .inl fx6)), (om, .inl (cI, 9, .inl fy6))] := hD
          show W p l e R s m args below meth c H locs _ _ Q (F0 m 101 ls [])
          obtain ⟨v6, hv6⟩ : ∃ z, z = up v5 0 (v5 4) := ⟨_, rfl⟩
          rw [← hv6] at w6
          refine lv_iload_n hx hb d_Mo_sum_101 rfl (lv_at hl 0 rfl) ?_
          refine zz_if_ne (tgt := 109) hx hb d_Mo_sum_102 (by decide) (by omega) (fun c102 => ?_) (fun c102 => ?_)
          · refine lv_iload_n hx hb d_Mo_sum_109 rfl (lv_at hl 2 rfl) ?_
            have hP9 : va_P D cls0 [(mo, .inr (8, [.int qc, .int (iZ (np : Int)), .ref ow, .ref om, .ref ok_, .ref oK, .ref og, .ref on_, .ref oh, .ref ox, .int qn, .int qf, .ref op_, .int ql])), (ow, .inl (cI, 108000, .inl fx6)), (om, .inl (cI, 9, .inl fy6))] H := hP.sub [0, 1, 2] rfl
            have hD9 : va_D A [(mo, .inr (8, [.int qc, .int (iZ (np : Int)), .ref ow, .ref om, .ref ok_, .ref oK, .ref og, .ref on_, .ref oh, .ref ox, .int qn, .int qf, .ref op_, .int ql])), (ow, .inl (cI, 108000, .inl fx6)), (om, .inl (cI, 9, .inl fy6))] := hD.sub [0, 1, 2] (by decide) rfl
            rw [hQ, ← hAe]
            refine r_i (v := (iZ s_)) K (s_, fx6, fy6, v6) hS d_Mo_sum_110 ?_ (fun t ht hv => ?_)
            · try dsimp only
              have z1 : v6 1 = val 1 * val 3 := by rw [hv6, up_n (by decide), hv5, up_n (by decide)]; exact y41
              obtain ⟨q1, q2⟩ := as_gt (a := A_) (b := B_) hs ho (by omega) (by rw [hA_]; exact f4) (by rw [hB_]; exact f8) (by omega)
              rw [hA_, hB_] at q1 q2
              exact ⟨rfl, q2, w6, by rw [q1, hv6, up_s, hv5, up_s, y44, y45], z1⟩
            · exact ⟨by rw [ht]; exact hP9, va_K.moved hv hK, by rw [← hAe]; exact hD9⟩
          · refine lv_iconst (v := iZ (0)) hx hb d_Mo_sum_105 (by decide +kernel) ?_
            refine lv_goto (tgt := 110) hx hb d_Mo_sum_106 (by decide) ?_
            have hP9 : va_P D cls0 [(mo, .inr (8, [.int qc, .int (iZ (np : Int)), .ref ow, .ref om, .ref ok_, .ref oK, .ref og, .ref on_, .ref oh, .ref ox, .int qn, .int qf, .ref op_, .int ql])), (ow, .inl (cI, 108000, .inl fx6)), (om, .inl (cI, 9, .inl fy6))] H := hP.sub [0, 1, 2] rfl
            have hD9 : va_D A [(mo, .inr (8, [.int qc, .int (iZ (np : Int)), .ref ow, .ref om, .ref ok_, .ref oK, .ref og, .ref on_, .ref oh, .ref ox, .int qn, .int qf, .ref op_, .int ql])), (ow, .inl (cI, 108000, .inl fx6)), (om, .inl (cI, 9, .inl fy6))] := hD.sub [0, 1, 2] (by decide) rfl
            rw [hQ, ← hAe]
            refine r_i (v := (iZ 0)) K (0, fx6, fy6, v6) hS d_Mo_sum_110 ?_ (fun t ht hv => ?_)
            · try dsimp only
              have z1 : v6 1 = val 1 * val 3 := by rw [hv6, up_n (by decide), hv5, up_n (by decide)]; exact y41
              obtain ⟨q1, q2⟩ := as_z (a := A_) (b := B_) hs ho (by omega) (by rw [hA_]; exact f4) (by rw [hB_]; exact f8) (by omega)
              rw [hA_, hB_] at q1 q2
              exact ⟨rfl, q2, w6, by rw [q1, hv6, up_s, hv5, up_s, y44, y45], z1⟩
            · exact ⟨by rw [ht]; exact hP9, va_K.moved hv hK, by rw [← hAe]; exact hD9⟩
        · refine lv_aload_n hx hb d_Mo_sum_75 rfl (lv_at hl 1 rfl) ?_
          refine lv_iconst (v := iZ (5)) hx hb d_Mo_sum_76 (by decide +kernel) ?_
          refine lv_iconst (v := iZ (4)) hx hb d_Mo_sum_77 (by decide +kernel) ?_
          refine cv (n := 2) (wr := []) (w1 := (fun (u : (Nat → Int32) × (Nat → Int32)) => [(mo, .inr (8, [.int qc, .int (iZ (np : Int)), .ref ow, .ref om, .ref ok_, .ref oK, .ref og, .ref on_, .ref oh, .ref ox, .int qn, .int qf, .ref op_, .int ql])), (ow, .inl (cI, 108000, .inl u.1)), (om, .inl (cI, 9, .inl u.2))])) (As := [.int (iZ 5), .int (iZ 4)]) (rest := []) K hP hD hK hS hA hl.1 (c_Mo_takeFrom l D mo qc np ow om ok_ oK og on_ oh ox qn qf op_ ql fx4 fy4 cI v4 5 4 H.size w4 (by decide) (by decide) (by decide) (by rw [y44, y45, ← hA_, ← hB_]; omega)) [0, 1, 2] [] [0] rfl rfl rfl (by decide) (by decide) (by decide) 0 rfl rfl (big_in mw_1274 rfl) (big_in mw_10 rfl) (big_in mw_1271 rfl) (big_in mw_1273 rfl) (big_in sp_38 rfl) rfl rfl (by decide +kernel) ⟨by rw [hR]; exact Nat.le_of_ble_eq_true rfl, by rw [hR]; exact Nat.le_of_ble_eq_true rfl⟩ rfl (Nat.le_of_ble_eq_true rfl) d_Mo_sum_78 ⟨by rw [hR]; exact Nat.le_of_ble_eq_true rfl, by rw [hR]; exact Nat.le_of_ble_eq_true rfl⟩ rfl (fun v u H locs hp12 hP hD hS _ => ?_)
          obtain ⟨fx5, fy5⟩ := u
          try dsimp only at hp12
          obtain ⟨rfl, w5⟩ := hp12
          have hP : va_P D cls0 [(mo, .inr (8, [.int qc, .int (iZ (np : Int)), .ref ow, .ref om, .ref ok_, .ref oK, .ref og, .ref on_, .ref oh, .ref ox, .int qn, .int qf, .ref op_, .int ql])), (ow, .inl (cI, 108000, .inl fx5)), (om, .inl (cI, 9, .inl fy5))] H := hP
          have hD : va_D A [(mo, .inr (8, [.int qc, .int (iZ (np : Int)), .ref ow, .ref om, .ref ok_, .ref oK, .ref og, .ref on_, .ref oh, .ref ox, .int qn, .int qf, .ref op_, .int ql])), (ow, .inl (cI, 108000, .inl fx5)), (om, .inl (cI, 9, .inl fy5))] := hD
          show W p l e R s m args below meth c H locs _ _ Q (F0 m 81 ls [])
          obtain ⟨v5, hv5⟩ : ∃ z, z = up v4 5 (v4 5 - v4 4) := ⟨_, rfl⟩
          rw [← hv5] at w5
          refine lv_aload_n hx hb d_Mo_sum_81 rfl (lv_at hl 1 rfl) ?_
          refine lv_iconst (v := iZ (0)) hx hb d_Mo_sum_82 (by decide +kernel) ?_
          refine lv_iconst (v := iZ (5)) hx hb d_Mo_sum_83 (by decide +kernel) ?_
          refine cv (n := 2) (wr := []) (w1 := (fun (u : (Nat → Int32) × (Nat → Int32)) => [(mo, .inr (8, [.int qc, .int (iZ (np : Int)), .ref ow, .ref om, .ref ok_, .ref oK, .ref og, .ref on_, .ref oh, .ref ox, .int qn, .int qf, .ref op_, .int ql])), (ow, .inl (cI, 108000, .inl u.1)), (om, .inl (cI, 9, .inl u.2))])) (As := [.int (iZ 0), .int (iZ 5)]) (rest := []) K hP hD hK hS hA hl.1 (c_Mo_copyTo l D mo qc np ow om ok_ oK og on_ oh ox qn qf op_ ql fx5 fy5 cI v5 0 5 H.size w5 (by omega) (by omega) (by omega)) [0, 1, 2] [] [0] rfl rfl rfl (by decide) (by decide) (by decide) 0 rfl rfl (big_in mw_1193 rfl) (big_in mw_10 rfl) (big_in mw_1190 rfl) (big_in mw_1192 rfl) (big_in sp_22 rfl) rfl rfl (by decide +kernel) ⟨by rw [hR]; exact Nat.le_of_ble_eq_true rfl, by rw [hR]; exact Nat.le_of_ble_eq_true rfl⟩ rfl (Nat.le_of_ble_eq_true rfl) d_Mo_sum_84 ⟨by rw [hR]; exact Nat.le_of_ble_eq_true rfl, by rw [hR]; exact Nat.le_of_ble_eq_true rfl⟩ rfl (fun v u H locs hp13 hP hD hS _ => ?_)
          obtain ⟨fx6, fy6⟩ := u
          try dsimp only at hp13
          obtain ⟨rfl, w6⟩ := hp13
          have hP : va_P D cls0 [(mo, .inr (8, [.int qc, .int (iZ (np : Int)), .ref ow, .ref om, .ref ok_, .ref oK, .ref og, .ref on_, .ref oh, .ref ox, .int qn, .int qf, .ref op_, .int ql])), (ow, .inl (cI, 108000, .inl fx6)), (om, .inl (cI, 9, .inl fy6))] H := hP
          have hD : va_D A [(mo, .inr (8, [.int qc, .int (iZ (np : Int)), .ref ow, .ref om, .ref ok_, .ref oK, .ref og, .ref on_, .ref oh, .ref ox, .int qn, .int qf, .ref op_, .int ql])), (ow, .inl (cI, 108000, .inl fx6)), (om, .inl (cI, 9, .inl fy6))] := hD
          show W p l e R s m args below meth c H locs _ _ Q (F0 m 87 ls [])
          obtain ⟨v6, hv6⟩ : ∃ z, z = up v5 0 (v5 5) := ⟨_, rfl⟩
          rw [← hv6] at w6
          refine lv_iload_n hx hb d_Mo_sum_87 rfl (lv_at hl 3 rfl) ?_
          have hP9 : va_P D cls0 [(mo, .inr (8, [.int qc, .int (iZ (np : Int)), .ref ow, .ref om, .ref ok_, .ref oK, .ref og, .ref on_, .ref oh, .ref ox, .int qn, .int qf, .ref op_, .int ql])), (ow, .inl (cI, 108000, .inl fx6)), (om, .inl (cI, 9, .inl fy6))] H := hP.sub [0, 1, 2] rfl
          have hD9 : va_D A [(mo, .inr (8, [.int qc, .int (iZ (np : Int)), .ref ow, .ref om, .ref ok_, .ref oK, .ref og, .ref on_, .ref oh, .ref ox, .int qn, .int qf, .ref op_, .int ql])), (ow, .inl (cI, 108000, .inl fx6)), (om, .inl (cI, 9, .inl fy6))] := hD.sub [0, 1, 2] (by decide) rfl
          rw [hQ, ← hAe]
          refine r_i (v := (iZ o_)) K (o_, fx6, fy6, v6) hS d_Mo_sum_88 ?_ (fun t ht hv => ?_)
          · try dsimp only
            have z1 : v6 1 = val 1 * val 3 := by rw [hv6, up_n (by decide), hv5, up_n (by decide)]; exact y41
            obtain ⟨q1, q2⟩ := as_lt (a := A_) (b := B_) hs ho (by omega) (by rw [hA_]; exact f4) (by rw [hB_]; exact f8) (by omega)
            rw [hA_, hB_] at q1 q2
            exact ⟨rfl, q2, w6, by rw [q1, hv6, up_s, hv5, up_s, y44, y45], z1⟩
          · exact ⟨by rw [ht]; exact hP9, va_K.moved hv hK, by rw [← hAe]; exact hD9⟩
      · refine lv_aload_n hx hb d_Mo_sum_42 rfl (lv_at hl 0 rfl) ?_
        refine lv_iconst (v := iZ (4)) hx hb d_Mo_sum_43 (by decide +kernel) ?_
        refine lv_iconst (v := iZ (5)) hx hb d_Mo_sum_44 (by decide +kernel) ?_
        refine cv (n := 2) (wr := []) (w1 := (fun (u : (Nat → Int32) × (Nat → Int32)) => [(mo, .inr (8, [.int qc, .int (iZ (np : Int)), .ref ow, .ref om, .ref ok_, .ref oK, .ref og, .ref on_, .ref oh, .ref ox, .int qn, .int qf, .ref op_, .int ql])), (ow, .inl (cI, 108000, .inl u.1)), (om, .inl (cI, 9, .inl u.2))])) (As := [.int (iZ 4), .int (iZ 5)]) (rest := []) K hP hD hK hS hA hl.1 (c_Mo_addTo l D mo qc np ow om ok_ oK og on_ oh ox qn qf op_ ql fx4 fy4 cI v4 4 5 H.size w4 (by decide) (by decide) (by decide) (by rw [y44]; omega) (by rw [y45]; omega)) [0, 1, 2] [] [0] rfl rfl rfl (by decide) (by decide) (by decide) 0 rfl rfl (big_in mw_1262 rfl) (big_in mw_10 rfl) (big_in mw_1259 rfl) (big_in mw_1261 rfl) (big_in sp_35 rfl) rfl rfl (by decide +kernel) ⟨by rw [hR]; exact Nat.le_of_ble_eq_true rfl, by rw [hR]; exact Nat.le_of_ble_eq_true rfl⟩ rfl (Nat.le_of_ble_eq_true rfl) d_Mo_sum_45 ⟨by rw [hR]; exact Nat.le_of_ble_eq_true rfl, by rw [hR]; exact Nat.le_of_ble_eq_true rfl⟩ rfl (fun v u H locs hp14 hP hD hS _ => ?_)
        obtain ⟨fx5, fy5⟩ := u
        try dsimp only at hp14
        obtain ⟨rfl, w5⟩ := hp14
        have hP : va_P D cls0 [(mo, .inr (8, [.int qc, .int (iZ (np : Int)), .ref ow, .ref om, .ref ok_, .ref oK, .ref og, .ref on_, .ref oh, .ref ox, .int qn, .int qf, .ref op_, .int ql])), (ow, .inl (cI, 108000, .inl fx5)), (om, .inl (cI, 9, .inl fy5))] H := hP
        have hD : va_D A [(mo, .inr (8, [.int qc, .int (iZ (np : Int)), .ref ow, .ref om, .ref ok_, .ref oK, .ref og, .ref on_, .ref oh, .ref ox, .int qn, .int qf, .ref op_, .int ql])), (ow, .inl (cI, 108000, .inl fx5)), (om, .inl (cI, 9, .inl fy5))] := hD
        show W p l e R s m args below meth c H locs _ _ Q (F0 m 48 ls [])
        obtain ⟨v5, hv5⟩ : ∃ z, z = up v4 4 (v4 4 + v4 5) := ⟨_, rfl⟩
        rw [← hv5] at w5
        refine lv_aload_n hx hb d_Mo_sum_48 rfl (lv_at hl 0 rfl) ?_
        refine lv_iconst (v := iZ (0)) hx hb d_Mo_sum_49 (by decide +kernel) ?_
        refine lv_iconst (v := iZ (4)) hx hb d_Mo_sum_50 (by decide +kernel) ?_
        refine cv (n := 2) (wr := []) (w1 := (fun (u : (Nat → Int32) × (Nat → Int32)) => [(mo, .inr (8, [.int qc, .int (iZ (np : Int)), .ref ow, .ref om, .ref ok_, .ref oK, .ref og, .ref on_, .ref oh, .ref ox, .int qn, .int qf, .ref op_, .int ql])), (ow, .inl (cI, 108000, .inl u.1)), (om, .inl (cI, 9, .inl u.2))])) (As := [.int (iZ 0), .int (iZ 4)]) (rest := []) K hP hD hK hS hA hl.1 (c_Mo_copyTo l D mo qc np ow om ok_ oK og on_ oh ox qn qf op_ ql fx5 fy5 cI v5 0 4 H.size w5 (by omega) (by omega) (by omega)) [0, 1, 2] [] [0] rfl rfl rfl (by decide) (by decide) (by decide) 0 rfl rfl (big_in mw_1193 rfl) (big_in mw_10 rfl) (big_in mw_1190 rfl) (big_in mw_1192 rfl) (big_in sp_22 rfl) rfl rfl (by decide +kernel) ⟨by rw [hR]; exact Nat.le_of_ble_eq_true rfl, by rw [hR]; exact Nat.le_of_ble_eq_true rfl⟩ rfl (Nat.le_of_ble_eq_true rfl) d_Mo_sum_51 ⟨by rw [hR]; exact Nat.le_of_ble_eq_true rfl, by rw [hR]; exact Nat.le_of_ble_eq_true rfl⟩ rfl (fun v u H locs hp15 hP hD hS _ => ?_)
        obtain ⟨fx6, fy6⟩ := u
        try dsimp only at hp15
        obtain ⟨rfl, w6⟩ := hp15
        have hP : va_P D cls0 [(mo, .inr (8, [.int qc, .int (iZ (np : Int)), .ref ow, .ref om, .ref ok_, .ref oK, .ref og, .ref on_, .ref oh, .ref ox, .int qn, .int qf, .ref op_, .int ql])), (ow, .inl (cI, 108000, .inl fx6)), (om, .inl (cI, 9, .inl fy6))] H := hP
        have hD : va_D A [(mo, .inr (8, [.int qc, .int (iZ (np : Int)), .ref ow, .ref om, .ref ok_, .ref oK, .ref og, .ref on_, .ref oh, .ref ox, .int qn, .int qf, .ref op_, .int ql])), (ow, .inl (cI, 108000, .inl fx6)), (om, .inl (cI, 9, .inl fy6))] := hD
        show W p l e R s m args below meth c H locs _ _ Q (F0 m 54 ls [])
        obtain ⟨v6, hv6⟩ : ∃ z, z = up v5 0 (v5 4) := ⟨_, rfl⟩
        rw [← hv6] at w6
        refine lv_iload_n hx hb d_Mo_sum_54 rfl (lv_at hl 1 rfl) ?_
        refine zz_if_ne (tgt := 62) hx hb d_Mo_sum_55 (by decide) (by omega) (fun c55 => ?_) (fun c55 => ?_)
        · refine lv_iload_n hx hb d_Mo_sum_62 rfl (lv_at hl 1 rfl) ?_
          have hP9 : va_P D cls0 [(mo, .inr (8, [.int qc, .int (iZ (np : Int)), .ref ow, .ref om, .ref ok_, .ref oK, .ref og, .ref on_, .ref oh, .ref ox, .int qn, .int qf, .ref op_, .int ql])), (ow, .inl (cI, 108000, .inl fx6)), (om, .inl (cI, 9, .inl fy6))] H := hP.sub [0, 1, 2] rfl
          have hD9 : va_D A [(mo, .inr (8, [.int qc, .int (iZ (np : Int)), .ref ow, .ref om, .ref ok_, .ref oK, .ref og, .ref on_, .ref oh, .ref ox, .int qn, .int qf, .ref op_, .int ql])), (ow, .inl (cI, 108000, .inl fx6)), (om, .inl (cI, 9, .inl fy6))] := hD.sub [0, 1, 2] (by decide) rfl
          rw [hQ, ← hAe]
          refine r_i (v := (iZ s_)) K (s_, fx6, fy6, v6) hS d_Mo_sum_63 ?_ (fun t ht hv => ?_)
          · try dsimp only
            have z1 : v6 1 = val 1 * val 3 := by rw [hv6, up_n (by decide), hv5, up_n (by decide)]; exact y41
            obtain ⟨q1, q2⟩ := sm_add hs ho f4 f8 (by omega)
            refine ⟨rfl, ?_, w6, ?_, z1⟩
            · rw [q2]; first | (exfalso; omega) | rw [if_pos (by omega)] | rw [if_neg (by omega)]
            · rw [q1, hv6, up_s, hv5, up_s, y44, y45]
          · exact ⟨by rw [ht]; exact hP9, va_K.moved hv hK, by rw [← hAe]; exact hD9⟩
        · refine lv_iload_n hx hb d_Mo_sum_58 rfl (lv_at hl 2 rfl) ?_
          refine lv_goto (tgt := 63) hx hb d_Mo_sum_59 (by decide) ?_
          have hP9 : va_P D cls0 [(mo, .inr (8, [.int qc, .int (iZ (np : Int)), .ref ow, .ref om, .ref ok_, .ref oK, .ref og, .ref on_, .ref oh, .ref ox, .int qn, .int qf, .ref op_, .int ql])), (ow, .inl (cI, 108000, .inl fx6)), (om, .inl (cI, 9, .inl fy6))] H := hP.sub [0, 1, 2] rfl
          have hD9 : va_D A [(mo, .inr (8, [.int qc, .int (iZ (np : Int)), .ref ow, .ref om, .ref ok_, .ref oK, .ref og, .ref on_, .ref oh, .ref ox, .int qn, .int qf, .ref op_, .int ql])), (ow, .inl (cI, 108000, .inl fx6)), (om, .inl (cI, 9, .inl fy6))] := hD.sub [0, 1, 2] (by decide) rfl
          rw [hQ, ← hAe]
          refine r_i (v := (iZ o_)) K (o_, fx6, fy6, v6) hS d_Mo_sum_63 ?_ (fun t ht hv => ?_)
          · try dsimp only
            have z1 : v6 1 = val 1 * val 3 := by rw [hv6, up_n (by decide), hv5, up_n (by decide)]; exact y41
            obtain ⟨q1, q2⟩ := sm_add hs ho f4 f8 (by omega)
            refine ⟨rfl, ?_, w6, ?_, z1⟩
            · rw [q2]; first | (exfalso; omega) | rw [if_pos (by omega)] | rw [if_neg (by omega)]
            · rw [q1, hv6, up_s, hv5, up_s, y44, y45]
          · exact ⟨by rw [ht]; exact hP9, va_K.moved hv hK, by rw [← hAe]; exact hD9⟩
