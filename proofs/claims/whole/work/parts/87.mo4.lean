theorem up_up {α : Type} (f : Nat → α) (b : Nat) (x y : α) : up (up f b x) b y = up f b y := by
  funext j
  by_cases e : j = b
  · subst e; rw [up_s, up_s]
  · rw [up_n e, up_n e, up_n e]
theorem shl1 : ∀ n : Nat, n < 24 → iZ 1 <<< (iZ (n : Int) &&& 31) = iZ ((2 ^ n : Nat) : Int) := by decide +kernel
theorem pw24 {tm lf : Nat} (h : 24 ≤ lf) (h2 : lf ≤ tm) : 2 ^ (tm - (lf - 24)) = 2 ^ (tm - lf) * 16777216 := by
  rw [show tm - (lf - 24) = tm - lf + 24 by omega, Nat.pow_add]
theorem up_self {α : Type} (f : Nat → α) (b : Nat) : up f b (f b) = f := by
  funext j
  by_cases e : j = b
  · subst e; rw [up_s]
  · rw [up_n e]
set_option maxHeartbeats 4000000 in
set_option maxRecDepth 100000 in
/-- doubled(b, times) -/
theorem c_Mo_doubled (l : Launch) (D : va_G) (mo : Nat) (qc : Int32) (np : Nat) (ow : Nat) (om : Nat) (ok_ : Nat) (oK : Nat) (og : Nat) (on_ : Nat) (oh : Nat) (ox : Nat) (qn : Int32) (qf : Int32) (op_ : Nat) (ql : Int32) (fw : Nat → Int32) (fm : Nat → Int32) (cI : ClassId) (val : Nat → Nat) (b : Nat) (tm : Nat) (sz : Nat) (hW : WB fw fm val) (hb9 : b < 9) (htm : tm < 100000) (hcap : nd (val b * 2 ^ tm) ≤ 12000) : Met l y_Mo_doubled (wsB y_Mo_doubled b_Mo_doubled 4 none) ({ frames := 2, cells := 0, slots := 0, locals := 49 }) (va_Pc [.ref mo, .int (iZ (b : Int)), .int (iZ (tm : Int))] (wPre D [(cI, .int)] [(mo, .inr (8, [.int qc, .int (iZ (np : Int)), .ref ow, .ref om, .ref ok_, .ref oK, .ref og, .ref on_, .ref oh, .ref ox, .int qn, .int qf, .ref op_, .int ql])), (ow, .inl (cI, 108000, .inl fw)), (om, .inl (cI, 9, .inl fm))] sz)) (va_QV (fun (v_9 : Option Value) (u_9 : (Nat → Int32) × (Nat → Int32)) => v_9 = none ∧ (WB u_9.1 u_9.2 (up val b (val b * 2 ^ tm)))) (fun u_9 => wPost D [(cI, .int)] [(mo, .inr (8, [.int qc, .int (iZ (np : Int)), .ref ow, .ref om, .ref ok_, .ref oK, .ref og, .ref on_, .ref oh, .ref ox, .int qn, .int qf, .ref op_, .int ql])), (ow, .inl (cI, 108000, .inl fw)), (om, .inl (cI, 9, .inl fm))] [(mo, .inr (8, [.int qc, .int (iZ (np : Int)), .ref ow, .ref om, .ref ok_, .ref oK, .ref og, .ref on_, .ref oh, .ref ox, .int qn, .int qf, .ref op_, .int ql])), (ow, .inl (cI, 108000, .inl u_9.1)), (om, .inl (cI, 9, .inl u_9.2))] sz) (va_A [(mo, .inr (8, [.int qc, .int (iZ (np : Int)), .ref ow, .ref om, .ref ok_, .ref oK, .ref og, .ref on_, .ref oh, .ref ox, .int qn, .int qf, .ref op_, .int ql])), (ow, .inl (cI, 108000, .inl fw)), (om, .inl (cI, 9, .inl fm))] sz)) 0 0 (va_A [(mo, .inr (8, [.int qc, .int (iZ (np : Int)), .ref ow, .ref om, .ref ok_, .ref oK, .ref og, .ref on_, .ref oh, .ref ox, .int qn, .int qf, .ref op_, .int ql])), (ow, .inl (cI, 108000, .inl fw)), (om, .inl (cI, 9, .inl fm))] sz) := by
  refine met_enter (by decide +kernel) (Nat.le_of_ble_eq_true rfl) ?_
  intro p e s m args below meth c ls A R Q H locs K hin hAe hA hR hQ hP hK hD hS hl
  obtain ⟨hx, hb, hml, hrt, hlk, hts, hown, hno⟩ := id K
  have hl : lv_has ls 4 [(0, .ref mo), (1, .int (iZ (b : Int))), (2, .int (iZ (tm : Int)))] := hl
  refine lv_iload_n hx hb d_Mo_doubled_0 rfl (lv_at hl 2 rfl) ?_
  refine lv_istore_n (lv' := [(3, .int (iZ (tm : Int))), (0, .ref mo), (1, .int (iZ (b : Int))), (2, .int (iZ (tm : Int)))]) hx hb d_Mo_doubled_1 rfl hl (by decide) rfl (fun ls hl => ?_)
  have L2 : ∀ (N : Nat) (lf : Nat) (fx : Nat → Int32) (fy : Nat → Int32) (H : Heap) (locs : List Loc) (ls : Array Slot), lf < N → (lf ≤ tm) → (WB fx fy (up val b (val b * 2 ^ (tm - lf)))) → va_P D cls0 [(mo, .inr (8, [.int qc, .int (iZ (np : Int)), .ref ow, .ref om, .ref ok_, .ref oK, .ref og, .ref on_, .ref oh, .ref ox, .int qn, .int qf, .ref op_, .int ql])), (ow, .inl (cI, 108000, .inl fx)), (om, .inl (cI, 9, .inl fy))] H → va_D A [(mo, .inr (8, [.int qc, .int (iZ (np : Int)), .ref ow, .ref om, .ref ok_, .ref oK, .ref og, .ref on_, .ref oh, .ref ox, .int qn, .int qf, .ref op_, .int ql])), (ow, .inl (cI, 108000, .inl fx)), (om, .inl (cI, 9, .inl fy))] → va_S A s.heap H locs → lv_has ls 4 [(0, .ref mo), (1, .int (iZ (b : Int))), (2, .int (iZ (tm : Int))), (3, .int (iZ (lf : Int)))] → W p l e R s m args below meth c H locs 0 0 Q (F0 m 2 ls []) := by
    intro N
    induction N with
    | zero => intro lf fx fy H locs ls hN; exact absurd hN (Nat.not_lt_zero _)
    | succ N ih =>
      intro lf fx fy H locs ls hN il iW hP hD hS hl
      refine lv_iload_n hx hb d_Mo_doubled_2 rfl (lv_at hl 3 rfl) ?_
      refine lv_bipush (v := iZ (24)) hx hb d_Mo_doubled_3 (by decide +kernel) ?_
      refine zz_icmp_lt (tgt := 21) hx hb d_Mo_doubled_5 (by decide) (by omega) (by omega) (fun c5 => ?_) (fun c5 => ?_)
      · refine lv_aload_n hx hb d_Mo_doubled_21 rfl (lv_at hl 0 rfl) ?_
        refine lv_iload_n hx hb d_Mo_doubled_22 rfl (lv_at hl 1 rfl) ?_
        refine lv_iconst (v := iZ (1)) hx hb d_Mo_doubled_23 (by decide +kernel) ?_
        refine lv_iload_n hx hb d_Mo_doubled_24 rfl (lv_at hl 3 rfl) ?_
        refine lv_ishl hx hb d_Mo_doubled_25 ?_
        rw [shl1 lf (by omega)]
        refine cv (n := 2) (wr := []) (w1 := (fun (u : (Nat → Int32) × (Nat → Int32)) => [(mo, .inr (8, [.int qc, .int (iZ (np : Int)), .ref ow, .ref om, .ref ok_, .ref oK, .ref og, .ref on_, .ref oh, .ref ox, .int qn, .int qf, .ref op_, .int ql])), (ow, .inl (cI, 108000, .inl u.1)), (om, .inl (cI, 9, .inl u.2))])) (As := [.int (iZ (b : Int)), .int (iZ ((2 ^ lf : Nat) : Int))]) (rest := []) K hP hD hK hS hA hl.1 (c_Mo_small l D mo qc np ow om ok_ oK og on_ oh ox qn qf op_ ql fx fy cI (up val b (val b * 2 ^ (tm - lf))) b (2 ^ lf) H.size iW hb9 ⟨Nat.two_pow_pos _, Nat.pow_le_pow_right (by decide) (show lf ≤ 24 by omega)⟩ (by rw [up_s, Nat.mul_assoc, ← Nat.pow_add, Nat.sub_add_cancel il]; exact hcap)) [0, 1, 2] [] [0] rfl rfl rfl (by decide) (by decide) (by decide) 0 rfl rfl (big_in mw_1325 rfl) (big_in mw_10 rfl) (big_in mw_1322 rfl) (big_in mw_1324 rfl) (big_in sp_43 rfl) rfl rfl (by decide +kernel) ⟨by rw [hR]; exact Nat.le_of_ble_eq_true rfl, by rw [hR]; exact Nat.le_of_ble_eq_true rfl⟩ rfl (Nat.le_of_ble_eq_true rfl) d_Mo_doubled_26 ⟨by rw [hR]; exact Nat.le_of_ble_eq_true rfl, by rw [hR]; exact Nat.le_of_ble_eq_true rfl⟩ rfl (fun v u H locs hp1 hP hD hS _ => ?_)
        obtain ⟨fx1, fy1⟩ := u
        try dsimp only at hp1
        obtain ⟨rfl, gW⟩ := hp1
        have hP : va_P D cls0 [(mo, .inr (8, [.int qc, .int (iZ (np : Int)), .ref ow, .ref om, .ref ok_, .ref oK, .ref og, .ref on_, .ref oh, .ref ox, .int qn, .int qf, .ref op_, .int ql])), (ow, .inl (cI, 108000, .inl fx1)), (om, .inl (cI, 9, .inl fy1))] H := hP
        have hD : va_D A [(mo, .inr (8, [.int qc, .int (iZ (np : Int)), .ref ow, .ref om, .ref ok_, .ref oK, .ref og, .ref on_, .ref oh, .ref ox, .int qn, .int qf, .ref op_, .int ql])), (ow, .inl (cI, 108000, .inl fx1)), (om, .inl (cI, 9, .inl fy1))] := hD
        show W p l e R s m args below meth c H locs _ _ Q (F0 m 29 ls [])
        have hP9 : va_P D cls0 [(mo, .inr (8, [.int qc, .int (iZ (np : Int)), .ref ow, .ref om, .ref ok_, .ref oK, .ref og, .ref on_, .ref oh, .ref ox, .int qn, .int qf, .ref op_, .int ql])), (ow, .inl (cI, 108000, .inl fx1)), (om, .inl (cI, 9, .inl fy1))] H := hP.sub [0, 1, 2] rfl
        have hD9 : va_D A [(mo, .inr (8, [.int qc, .int (iZ (np : Int)), .ref ow, .ref om, .ref ok_, .ref oK, .ref og, .ref on_, .ref oh, .ref ox, .int qn, .int qf, .ref op_, .int ql])), (ow, .inl (cI, 108000, .inl fx1)), (om, .inl (cI, 9, .inl fy1))] := hD.sub [0, 1, 2] (by decide) rfl
        rw [hQ, ← hAe]
        refine r_v K (fx1, fy1) hS d_Mo_doubled_29 ?_ (fun t ht hv => ?_)
        · try dsimp only
          refine ⟨rfl, ?_⟩
          rw [up_s, up_up, Nat.mul_assoc, ← Nat.pow_add, Nat.sub_add_cancel il] at gW
          exact gW
        · exact ⟨by rw [ht]; exact hP9, va_K.moved hv hK, by rw [← hAe]; exact hD9⟩
      · refine lv_aload_n hx hb d_Mo_doubled_8 rfl (lv_at hl 0 rfl) ?_
        refine lv_iload_n hx hb d_Mo_doubled_9 rfl (lv_at hl 1 rfl) ?_
        refine lv_ldc (v := iZ (16777216)) hx hb hown (hts _ (big_in mw_1321 rfl)) d_Mo_doubled_10 ?_
        refine cv (n := 2) (wr := []) (w1 := (fun (u : (Nat → Int32) × (Nat → Int32)) => [(mo, .inr (8, [.int qc, .int (iZ (np : Int)), .ref ow, .ref om, .ref ok_, .ref oK, .ref og, .ref on_, .ref oh, .ref ox, .int qn, .int qf, .ref op_, .int ql])), (ow, .inl (cI, 108000, .inl u.1)), (om, .inl (cI, 9, .inl u.2))])) (As := [.int (iZ (b : Int)), .int (iZ 16777216)]) (rest := []) K hP hD hK hS hA hl.1 (c_Mo_small l D mo qc np ow om ok_ oK og on_ oh ox qn qf op_ ql fx fy cI (up val b (val b * 2 ^ (tm - lf))) b 16777216 H.size iW hb9 (by omega) (by rw [up_s, Nat.mul_assoc, ← pw24 (by omega) il]; exact Nat.le_trans (nd_mono (Nat.mul_le_mul_left _ (Nat.pow_le_pow_right (by decide) (by omega)))) hcap)) [0, 1, 2] [] [0] rfl rfl rfl (by decide) (by decide) (by decide) 0 rfl rfl (big_in mw_1325 rfl) (big_in mw_10 rfl) (big_in mw_1322 rfl) (big_in mw_1324 rfl) (big_in sp_43 rfl) rfl rfl (by decide +kernel) ⟨by rw [hR]; exact Nat.le_of_ble_eq_true rfl, by rw [hR]; exact Nat.le_of_ble_eq_true rfl⟩ rfl (Nat.le_of_ble_eq_true rfl) d_Mo_doubled_12 ⟨by rw [hR]; exact Nat.le_of_ble_eq_true rfl, by rw [hR]; exact Nat.le_of_ble_eq_true rfl⟩ rfl (fun v u H locs hp2 hP hD hS _ => ?_)
        obtain ⟨fx1, fy1⟩ := u
        try dsimp only at hp2
        obtain ⟨rfl, gW⟩ := hp2
        have hP : va_P D cls0 [(mo, .inr (8, [.int qc, .int (iZ (np : Int)), .ref ow, .ref om, .ref ok_, .ref oK, .ref og, .ref on_, .ref oh, .ref ox, .int qn, .int qf, .ref op_, .int ql])), (ow, .inl (cI, 108000, .inl fx1)), (om, .inl (cI, 9, .inl fy1))] H := hP
        have hD : va_D A [(mo, .inr (8, [.int qc, .int (iZ (np : Int)), .ref ow, .ref om, .ref ok_, .ref oK, .ref og, .ref on_, .ref oh, .ref ox, .int qn, .int qf, .ref op_, .int ql])), (ow, .inl (cI, 108000, .inl fx1)), (om, .inl (cI, 9, .inl fy1))] := hD
        show W p l e R s m args below meth c H locs _ _ Q (F0 m 15 ls [])
        refine lv_iinc (v := iZ ((lf : Int) - 24)) (lv' := [(3, .int (iZ ((lf : Int) - 24))), (0, .ref mo), (1, .int (iZ (b : Int))), (2, .int (iZ (tm : Int)))]) hx hb d_Mo_doubled_15 hl (k := 3) rfl (iZ_add _ _) (by decide) rfl (fun ls hl => ?_)
        refine lv_goto (tgt := 2) hx hb d_Mo_doubled_18 (by decide) ?_
        rw [show ((lf : Int) - 24 : Int) = ((lf - 24 : Nat) : Int) by omega] at hl
        exact ih (lf - 24) fx1 fy1 _ _ _ (by omega) (by omega) (by rw [up_s, up_up, Nat.mul_assoc, ← pw24 (by omega) il] at gW; exact gW) (hP.sub (ws' := [(mo, .inr (8, [.int qc, .int (iZ (np : Int)), .ref ow, .ref om, .ref ok_, .ref oK, .ref og, .ref on_, .ref oh, .ref ox, .int qn, .int qf, .ref op_, .int ql])), (ow, .inl (cI, 108000, .inl fx1)), (om, .inl (cI, 9, .inl fy1))]) [0, 1, 2] rfl) (hD.sub (ws' := [(mo, .inr (8, [.int qc, .int (iZ (np : Int)), .ref ow, .ref om, .ref ok_, .ref oK, .ref og, .ref on_, .ref oh, .ref ox, .int qn, .int qf, .ref op_, .int ql])), (ow, .inl (cI, 108000, .inl fx1)), (om, .inl (cI, 9, .inl fy1))]) [0, 1, 2] (by decide) rfl) hS (lv_sub hl [1, 2, 3, 0] rfl)
  exact L2 _ tm fw fm _ _ _ (Nat.lt_succ_self _) (Nat.le_refl _) (by rw [Nat.sub_self, Nat.pow_zero, Nat.mul_one, up_self]; exact hW) (hP.sub (ws' := [(mo, .inr (8, [.int qc, .int (iZ (np : Int)), .ref ow, .ref om, .ref ok_, .ref oK, .ref og, .ref on_, .ref oh, .ref ox, .int qn, .int qf, .ref op_, .int ql])), (ow, .inl (cI, 108000, .inl fw)), (om, .inl (cI, 9, .inl fm))]) [0, 1, 2] rfl) (hD.sub (ws' := [(mo, .inr (8, [.int qc, .int (iZ (np : Int)), .ref ow, .ref om, .ref ok_, .ref oK, .ref og, .ref on_, .ref oh, .ref ox, .int qn, .int qf, .ref op_, .int ql])), (ow, .inl (cI, 108000, .inl fw)), (om, .inl (cI, 9, .inl fm))]) [0, 1, 2] (by decide) rfl) hS (lv_sub hl [1, 2, 3, 0] rfl)
theorem ovr_z (fw : Nat → Int32) (t k u C : Nat) : ovr fw t k 0 = ovr fw t k (u % tB 0 * C) := by rw [tB_0, Nat.mod_one, Nat.zero_mul]
theorem ovr_same {X : Nat → Int32} {t i Q : Nat} (h : ∀ m, m < i → X (12000 * t + m) = iZ (dz Q m : Int)) : X = ovr X t i Q := by
  funext j
  by_cases q : 12000 * t ≤ j ∧ j < 12000 * t + i
  · obtain ⟨m, rfl⟩ : ∃ m, j = 12000 * t + m := ⟨j - 12000 * t, by omega⟩
    rw [ovr_in (by omega), h m (by omega)]
  · rw [ovr_out (by omega)]
theorem pr_in (fw : Nat → Int32) {t n u C i : Nat} (h : i ≤ n) : ovr fw t n (u % tB i * C) = ovr (ovr fw t n (u % tB i * C)) t (i + 0) (u % tB (i + 1) * C) :=
  ovr_same (fun m hm => by rw [ovr_in (by omega), pr_lowdz (by omega)])
theorem pr_end {u C i j : Nat} (hC : nd C ≤ j) (h0 : pT (u % tB i * C / tB i) (dz u i) C j / tB j = 0) {m : Nat} (hm : i + j ≤ m) : dz (u % tB i * C) m = dz (u % tB (i + 1) * C) m := by
  have h1 := pT_hi (A := u % tB i * C / tB i) (f := dz u i) hC
  rw [h0, Nat.add_zero, ← pr_div, Nat.div_div_eq_div_mul, Nat.div_div_eq_div_mul, ← tB_add] at h1
  have e : ∀ X, dz X m = dz (X / tB (i + j)) (m - (i + j)) := fun X => by rw [dz_shift, show i + j + (m - (i + j)) = m by omega]
  rw [e, e (u % tB (i + 1) * C), h1]
theorem pr_cap {u C i j : Nat} (hC : nd C ≤ j) (h0 : 0 < pT (u % tB i * C / tB i) (dz u i) C j / tB j) : i + j < nd u + nd C := by
  have h1 := pT_hi (A := u % tB i * C / tB i) (f := dz u i) hC
  rw [← pr_div, Nat.div_div_eq_div_mul, ← tB_add] at h1
  refine Nat.lt_of_lt_of_le (nd_lt.mpr ?_) (Nat.le_trans (nd_mono (pr_le u C (i + 1))) (nd_mul u C))
  apply Nat.le_of_not_lt
  intro q
  rw [Nat.div_eq_of_lt q] at h1
  exact absurd h0 (Nat.not_lt.mpr (by rw [h1]; exact Nat.le_add_left _ _))
theorem pT_0 (A f C : Nat) : 0 = pT A f C 0 / tB 0 := by
  unfold pT
  rw [tB_0, Nat.mod_one, Nat.mod_one, Nat.mul_zero]
set_option maxHeartbeats 4000000 in
set_option maxRecDepth 100000 in
/-- product(to, b, c) -/
theorem c_Mo_product (l : Launch) (D : va_G) (mo : Nat) (qc : Int32) (np : Nat) (ow : Nat) (om : Nat) (ok_ : Nat) (oK : Nat) (og : Nat) (on_ : Nat) (oh : Nat) (ox : Nat) (qn : Int32) (qf : Int32) (op_ : Nat) (ql : Int32) (fw : Nat → Int32) (fm : Nat → Int32) (cI : ClassId) (val : Nat → Nat) (t_ : Nat) (b : Nat) (c_ : Nat) (sz : Nat) (hW : WB fw fm val) (ht9 : t_ < 9) (hb9 : b < 9) (hc9 : c_ < 9) (htb : t_ ≠ b) (htc : t_ ≠ c_) (hcap : nd (val b) + nd (val c_) ≤ 12000) : Met l y_Mo_product (wsB y_Mo_product b_Mo_product 10 none) ({ frames := 1, cells := 0, slots := 0, locals := 23 }) (va_Pc [.ref mo, .int (iZ (t_ : Int)), .int (iZ (b : Int)), .int (iZ (c_ : Int))] (wPre D [(cI, .int)] [(mo, .inr (8, [.int qc, .int (iZ (np : Int)), .ref ow, .ref om, .ref ok_, .ref oK, .ref og, .ref on_, .ref oh, .ref ox, .int qn, .int qf, .ref op_, .int ql])), (ow, .inl (cI, 108000, .inl fw)), (om, .inl (cI, 9, .inl fm))] sz)) (va_QV (fun (v_9 : Option Value) (u_9 : (Nat → Int32) × (Nat → Int32)) => v_9 = none ∧ (WB u_9.1 u_9.2 (up val t_ (val b * val c_)))) (fun u_9 => wPost D [(cI, .int)] [(mo, .inr (8, [.int qc, .int (iZ (np : Int)), .ref ow, .ref om, .ref ok_, .ref oK, .ref og, .ref on_, .ref oh, .ref ox, .int qn, .int qf, .ref op_, .int ql])), (ow, .inl (cI, 108000, .inl fw)), (om, .inl (cI, 9, .inl fm))] [(mo, .inr (8, [.int qc, .int (iZ (np : Int)), .ref ow, .ref om, .ref ok_, .ref oK, .ref og, .ref on_, .ref oh, .ref ox, .int qn, .int qf, .ref op_, .int ql])), (ow, .inl (cI, 108000, .inl u_9.1)), (om, .inl (cI, 9, .inl u_9.2))] sz) (va_A [(mo, .inr (8, [.int qc, .int (iZ (np : Int)), .ref ow, .ref om, .ref ok_, .ref oK, .ref og, .ref on_, .ref oh, .ref ox, .int qn, .int qf, .ref op_, .int ql])), (ow, .inl (cI, 108000, .inl fw)), (om, .inl (cI, 9, .inl fm))] sz)) 0 0 (va_A [(mo, .inr (8, [.int qc, .int (iZ (np : Int)), .ref ow, .ref om, .ref ok_, .ref oK, .ref og, .ref on_, .ref oh, .ref ox, .int qn, .int qf, .ref op_, .int ql])), (ow, .inl (cI, 108000, .inl fw)), (om, .inl (cI, 9, .inl fm))] sz) := by
  refine met_enter (by decide +kernel) (Nat.le_of_ble_eq_true rfl) ?_
  intro p e s m args below meth c ls A R Q H locs K hin hAe hA hR hQ hP hK hD hS hl
  obtain ⟨hx, hb, hml, hrt, hlk, hts, hown, hno⟩ := id K
  have hl : lv_has ls 10 [(0, .ref mo), (1, .int (iZ (t_ : Int))), (2, .int (iZ (b : Int))), (3, .int (iZ (c_ : Int)))] := hl
  have hn9 := hW.n hc9
  have hn8 := hW.n hb9
  rw [← ovr_0 fw t_ (0)] at hP hD
  refine lv_aload_n hx hb d_Mo_product_0 rfl (lv_at hl 0 rfl) ?_
  refine va_get (D := D) (ci := 8) (v := .ref om) (C := R_Mo) (T := F_Mo) (N := 14) hx hb hts i_Mo hown hK hP 0 rfl rfl 3 (by decide) (hts _ (big_in mw_1118 rfl)) (fun _ h9 => h9) rfl d_Mo_product_1 ?_
  refine lv_iload_n hx hb d_Mo_product_4 rfl (lv_at hl 2 rfl) ?_
  refine zz_iald hx hb hK hP 2 0 rfl rfl (b) (by omega) (by omega) (by omega) d_Mo_product_5 ?_
  rw [hW.m hb9]
  refine lv_aload_n hx hb d_Mo_product_6 rfl (lv_at hl 0 rfl) ?_
  refine va_get (D := D) (ci := 8) (v := .ref om) (C := R_Mo) (T := F_Mo) (N := 14) hx hb hts i_Mo hown hK hP 0 rfl rfl 3 (by decide) (hts _ (big_in mw_1118 rfl)) (fun _ h9 => h9) rfl d_Mo_product_7 ?_
  refine lv_iload_n hx hb d_Mo_product_10 rfl (lv_at hl 3 rfl) ?_
  refine zz_iald hx hb hK hP 2 0 rfl rfl (c_) (by omega) (by omega) (by omega) d_Mo_product_11 ?_
  rw [hW.m hc9]
  refine zz_iadd hx hb d_Mo_product_12 ?_
  obtain ⟨n, hn⟩ : ∃ x : Nat, x = nd (val b) + nd (val c_) := ⟨_, rfl⟩
  rw [show ((nd (val b) : Int) + (nd (val c_) : Int) : Int) = (n : Int) by omega]
  refine lv_istore (lv' := [(4, .int (iZ (n : Int))), (0, .ref mo), (1, .int (iZ (t_ : Int))), (2, .int (iZ (b : Int))), (3, .int (iZ (c_ : Int)))]) hx hb d_Mo_product_13 hl (by decide) rfl (fun ls hl => ?_)
  refine lv_iconst (v := iZ (0)) hx hb d_Mo_product_15 (by decide +kernel) ?_
  refine lv_istore (lv' := [(5, .int (iZ 0)), (4, .int (iZ (n : Int))), (0, .ref mo), (1, .int (iZ (t_ : Int))), (2, .int (iZ (b : Int))), (3, .int (iZ (c_ : Int)))]) hx hb d_Mo_product_16 hl (by decide) rfl (fun ls hl => ?_)
  have L18 : ∀ (N : Nat) (k : Nat) (H : Heap) (locs : List Loc) (ls : Array Slot), n - k < N → (k ≤ n) → va_P D cls0 [(mo, .inr (8, [.int qc, .int (iZ (np : Int)), .ref ow, .ref om, .ref ok_, .ref oK, .ref og, .ref on_, .ref oh, .ref ox, .int qn, .int qf, .ref op_, .int ql])), (ow, .inl (cI, 108000, .inl (ovr fw t_ k 0))), (om, .inl (cI, 9, .inl fm))] H → va_D A [(mo, .inr (8, [.int qc, .int (iZ (np : Int)), .ref ow, .ref om, .ref ok_, .ref oK, .ref og, .ref on_, .ref oh, .ref ox, .int qn, .int qf, .ref op_, .int ql])), (ow, .inl (cI, 108000, .inl (ovr fw t_ k 0))), (om, .inl (cI, 9, .inl fm))] → va_S A s.heap H locs → lv_has ls 10 [(0, .ref mo), (1, .int (iZ (t_ : Int))), (2, .int (iZ (b : Int))), (3, .int (iZ (c_ : Int))), (4, .int (iZ (n : Int))), (5, .int (iZ (k : Int)))] → W p l e R s m args below meth c H locs 0 0 Q (F0 m 18 ls []) := by
    intro N
    induction N with
    | zero => intro k H locs ls hN; exact absurd hN (Nat.not_lt_zero _)
    | succ N ih =>
      intro k H locs ls hN ik hP hD hS hl
      refine lv_iload hx hb d_Mo_product_18 (lv_at hl 5 rfl) ?_
      refine lv_iload hx hb d_Mo_product_20 (lv_at hl 4 rfl) ?_
      refine zz_icmp_ge (tgt := 45) hx hb d_Mo_product_22 (by decide) (by omega) (by omega) (fun c22 => ?_) (fun c22 => ?_)
      · have ek : n = k := by omega
        subst ek
        rw [ovr_z fw t_ n (val b) (val c_)] at hP hD
        refine lv_iconst (v := iZ (0)) hx hb d_Mo_product_45 (by decide +kernel) ?_
        refine lv_istore (lv' := [(5, .int (iZ 0)), (0, .ref mo), (1, .int (iZ (t_ : Int))), (2, .int (iZ (b : Int))), (3, .int (iZ (c_ : Int))), (4, .int (iZ (n : Int)))]) hx hb d_Mo_product_46 hl (by decide) rfl (fun ls hl => ?_)
        have L48 : ∀ (N : Nat) (i : Nat) (H : Heap) (locs : List Loc) (ls : Array Slot), nd (val b) - i < N → (i ≤ nd (val b)) → va_P D cls0 [(mo, .inr (8, [.int qc, .int (iZ (np : Int)), .ref ow, .ref om, .ref ok_, .ref oK, .ref og, .ref on_, .ref oh, .ref ox, .int qn, .int qf, .ref op_, .int ql])), (ow, .inl (cI, 108000, .inl (ovr fw t_ n (val b % tB (i) * val c_)))), (om, .inl (cI, 9, .inl fm))] H → va_D A [(mo, .inr (8, [.int qc, .int (iZ (np : Int)), .ref ow, .ref om, .ref ok_, .ref oK, .ref og, .ref on_, .ref oh, .ref ox, .int qn, .int qf, .ref op_, .int ql])), (ow, .inl (cI, 108000, .inl (ovr fw t_ n (val b % tB (i) * val c_)))), (om, .inl (cI, 9, .inl fm))] → va_S A s.heap H locs → lv_has ls 10 [(0, .ref mo), (1, .int (iZ (t_ : Int))), (2, .int (iZ (b : Int))), (3, .int (iZ (c_ : Int))), (4, .int (iZ (n : Int))), (5, .int (iZ (i : Int)))] → W p l e R s m args below meth c H locs 0 0 Q (F0 m 48 ls []) := by
          intro N
          induction N with
          | zero => intro i H locs ls hN; exact absurd hN (Nat.not_lt_zero _)
          | succ N ih_L48 =>
            intro i H locs ls hN ii hP hD hS hl
            refine lv_iload hx hb d_Mo_product_48 (lv_at hl 5 rfl) ?_
            refine lv_aload_n hx hb d_Mo_product_50 rfl (lv_at hl 0 rfl) ?_
            refine va_get (D := D) (ci := 8) (v := .ref om) (C := R_Mo) (T := F_Mo) (N := 14) hx hb hts i_Mo hown hK hP 0 rfl rfl 3 (by decide) (hts _ (big_in mw_1118 rfl)) (fun _ h9 => h9) rfl d_Mo_product_51 ?_
            refine lv_iload_n hx hb d_Mo_product_54 rfl (lv_at hl 2 rfl) ?_
            refine zz_iald hx hb hK hP 2 0 rfl rfl (b) (by omega) (by omega) (by omega) d_Mo_product_55 ?_
            rw [hW.m hb9]
            refine zz_icmp_ge (tgt := 238) hx hb d_Mo_product_56 (by decide) (by omega) (by omega) (fun c56 => ?_) (fun c56 => ?_)
            · rw [show val b % tB i = val b from md_full (by omega)] at hP hD
              refine lv_aload_n hx hb d_Mo_product_238 rfl (lv_at hl 0 rfl) ?_
              refine lv_iload_n hx hb d_Mo_product_239 rfl (lv_at hl 1 rfl) ?_
              refine lv_iload hx hb d_Mo_product_240 (lv_at hl 4 rfl) ?_
              refine cv (n := 2) (wr := []) (w1 := (fun (u : Unit) => [(mo, .inr (8, [.int qc, .int (iZ (np : Int)), .ref ow, .ref om, .ref ok_, .ref oK, .ref og, .ref on_, .ref oh, .ref ox, .int qn, .int qf, .ref op_, .int ql])), (ow, .inl (cI, 108000, .inl (ovr fw t_ n (val b * val c_)))), (om, .inl (cI, 9, .inl (upd fm t_ (iZ (nd (val b * val c_) : Int)))))])) (As := [.int (iZ (t_ : Int)), .int (iZ (n : Int))]) (rest := []) K hP hD hK hS hA hl.1 (c_Mo_trim l D mo qc np ow om ok_ oK og on_ oh ox qn qf op_ ql (ovr fw t_ n (val b * val c_)) fm cI t_ n (val b * val c_) H.size ht9 (by omega) (by rw [hn]; exact nd_mul _ _) (fun i hi => ovr_in hi)) [0, 1, 2] [] [0] rfl rfl rfl (by decide) (by decide) (by decide) 0 rfl rfl (big_in mw_1211 rfl) (big_in mw_10 rfl) (big_in mw_1208 rfl) (big_in mw_1210 rfl) (big_in sp_26 rfl) rfl rfl (by decide +kernel) ⟨by rw [hR]; exact Nat.le_of_ble_eq_true rfl, by rw [hR]; exact Nat.le_of_ble_eq_true rfl⟩ rfl (Nat.le_of_ble_eq_true rfl) d_Mo_product_242 ⟨by rw [hR]; exact Nat.le_of_ble_eq_true rfl, by rw [hR]; exact Nat.le_of_ble_eq_true rfl⟩ rfl (fun v u H locs hp1 hP hD hS _ => ?_)
              obtain rfl := hp1
              have hP : va_P D cls0 [(mo, .inr (8, [.int qc, .int (iZ (np : Int)), .ref ow, .ref om, .ref ok_, .ref oK, .ref og, .ref on_, .ref oh, .ref ox, .int qn, .int qf, .ref op_, .int ql])), (ow, .inl (cI, 108000, .inl (ovr fw t_ n (val b * val c_)))), (om, .inl (cI, 9, .inl (upd fm t_ (iZ (nd (val b * val c_) : Int)))))] H := hP
              have hD : va_D A [(mo, .inr (8, [.int qc, .int (iZ (np : Int)), .ref ow, .ref om, .ref ok_, .ref oK, .ref og, .ref on_, .ref oh, .ref ox, .int qn, .int qf, .ref op_, .int ql])), (ow, .inl (cI, 108000, .inl (ovr fw t_ n (val b * val c_)))), (om, .inl (cI, 9, .inl (upd fm t_ (iZ (nd (val b * val c_) : Int)))))] := hD
              show W p l e R s m args below meth c H locs _ _ Q (F0 m 245 ls [])
              have hP9 : va_P D cls0 [(mo, .inr (8, [.int qc, .int (iZ (np : Int)), .ref ow, .ref om, .ref ok_, .ref oK, .ref og, .ref on_, .ref oh, .ref ox, .int qn, .int qf, .ref op_, .int ql])), (ow, .inl (cI, 108000, .inl (ovr fw t_ n (val b * val c_)))), (om, .inl (cI, 9, .inl (upd fm t_ (iZ (nd (val b * val c_) : Int)))))] H := hP.sub [0, 1, 2] rfl
              have hD9 : va_D A [(mo, .inr (8, [.int qc, .int (iZ (np : Int)), .ref ow, .ref om, .ref ok_, .ref oK, .ref og, .ref on_, .ref oh, .ref ox, .int qn, .int qf, .ref op_, .int ql])), (ow, .inl (cI, 108000, .inl (ovr fw t_ n (val b * val c_)))), (om, .inl (cI, 9, .inl (upd fm t_ (iZ (nd (val b * val c_) : Int)))))] := hD.sub [0, 1, 2] (by decide) rfl
              rw [hQ, ← hAe]
              refine r_v K ((ovr fw t_ n (val b * val c_)), upd fm t_ (iZ (nd (val b * val c_) : Int))) hS d_Mo_product_245 ?_ (fun t ht hv => ?_)
              · try dsimp only
                exact ⟨rfl, hW.set (by rw [hn]; exact nd_mul _ _) (by omega) rfl⟩
              · exact ⟨by rw [ht]; exact hP9, va_K.moved hv hK, by rw [← hAe]; exact hD9⟩
            · refine lv_aload_n hx hb d_Mo_product_59 rfl (lv_at hl 0 rfl) ?_
              refine va_get (D := D) (ci := 8) (v := .ref ow) (C := R_Mo) (T := F_Mo) (N := 14) hx hb hts i_Mo hown hK hP 0 rfl rfl 2 (by decide) (hts _ (big_in mw_1117 rfl)) (fun _ h9 => h9) rfl d_Mo_product_60 ?_
              refine lv_sipush (v := iZ (12000)) hx hb d_Mo_product_63 (by decide +kernel) ?_
              refine lv_iload_n hx hb d_Mo_product_66 rfl (lv_at hl 2 rfl) ?_
              refine zz_imul hx hb d_Mo_product_67 ?_
              refine lv_iload hx hb d_Mo_product_68 (lv_at hl 5 rfl) ?_
              refine zz_iadd hx hb d_Mo_product_70 ?_
              refine zz_iald hx hb hK hP 1 0 rfl rfl (12000 * b + i) (by omega) (by omega) (by omega) d_Mo_product_71 ?_
              rw [ovr_out (by omega), hW.d hb9 (by omega)]
              refine lv_istore (lv' := [(6, .int (iZ (dz (val b) i : Int))), (0, .ref mo), (1, .int (iZ (t_ : Int))), (2, .int (iZ (b : Int))), (3, .int (iZ (c_ : Int))), (4, .int (iZ (n : Int))), (5, .int (iZ (i : Int)))]) hx hb d_Mo_product_72 hl (by decide) rfl (fun ls hl => ?_)
              refine lv_iconst (v := iZ (0)) hx hb d_Mo_product_74 (by decide +kernel) ?_
              refine lv_istore (lv' := [(7, .int (iZ 0)), (6, .int (iZ (dz (val b) i : Int))), (0, .ref mo), (1, .int (iZ (t_ : Int))), (2, .int (iZ (b : Int))), (3, .int (iZ (c_ : Int))), (4, .int (iZ (n : Int))), (5, .int (iZ (i : Int)))]) hx hb d_Mo_product_75 hl (by decide) rfl (fun ls hl => ?_)
              rw [pr_in fw (show i ≤ n by omega)] at hP hD
              refine lv_iconst (v := iZ (0)) hx hb d_Mo_product_77 (by decide +kernel) ?_
              refine lv_istore (lv' := [(8, .int (iZ 0)), (7, .int (iZ 0)), (6, .int (iZ (dz (val b) i : Int))), (0, .ref mo), (1, .int (iZ (t_ : Int))), (2, .int (iZ (b : Int))), (3, .int (iZ (c_ : Int))), (4, .int (iZ (n : Int))), (5, .int (iZ (i : Int)))]) hx hb d_Mo_product_78 hl (by decide) rfl (fun ls hl => ?_)
              have L80 : ∀ (N : Nat) (j : Nat) (cy : Nat) (H : Heap) (locs : List Loc) (ls : Array Slot), nd (val c_) - j < N → (j ≤ nd (val c_)) → (cy = pT (val b % tB i * val c_ / tB i) (dz (val b) i) (val c_) j / tB j) → va_P D cls0 [(mo, .inr (8, [.int qc, .int (iZ (np : Int)), .ref ow, .ref om, .ref ok_, .ref oK, .ref og, .ref on_, .ref oh, .ref ox, .int qn, .int qf, .ref op_, .int ql])), (ow, .inl (cI, 108000, .inl (ovr (ovr fw t_ n (val b % tB (i) * val c_)) t_ (i + j) (val b % tB (i + 1) * val c_)))), (om, .inl (cI, 9, .inl fm))] H → va_D A [(mo, .inr (8, [.int qc, .int (iZ (np : Int)), .ref ow, .ref om, .ref ok_, .ref oK, .ref og, .ref on_, .ref oh, .ref ox, .int qn, .int qf, .ref op_, .int ql])), (ow, .inl (cI, 108000, .inl (ovr (ovr fw t_ n (val b % tB (i) * val c_)) t_ (i + j) (val b % tB (i + 1) * val c_)))), (om, .inl (cI, 9, .inl fm))] → va_S A s.heap H locs → lv_has ls 10 [(0, .ref mo), (1, .int (iZ (t_ : Int))), (2, .int (iZ (b : Int))), (3, .int (iZ (c_ : Int))), (4, .int (iZ (n : Int))), (5, .int (iZ (i : Int))), (6, .int (iZ (dz (val b) i : Int))), (7, .int (iZ (cy : Int))), (8, .int (iZ (j : Int)))] → W p l e R s m args below meth c H locs 0 0 Q (F0 m 80 ls []) := by
                intro N
                induction N with
                | zero => intro j cy H locs ls hN; exact absurd hN (Nat.not_lt_zero _)
                | succ N ih_L80 =>
                  intro j cy H locs ls hN ij icy hP hD hS hl
                  refine lv_iload hx hb d_Mo_product_80 (lv_at hl 8 rfl) ?_
                  refine lv_aload_n hx hb d_Mo_product_82 rfl (lv_at hl 0 rfl) ?_
                  refine va_get (D := D) (ci := 8) (v := .ref om) (C := R_Mo) (T := F_Mo) (N := 14) hx hb hts i_Mo hown hK hP 0 rfl rfl 3 (by decide) (hts _ (big_in mw_1118 rfl)) (fun _ h9 => h9) rfl d_Mo_product_83 ?_
                  refine lv_iload_n hx hb d_Mo_product_86 rfl (lv_at hl 3 rfl) ?_
                  refine zz_iald hx hb hK hP 2 0 rfl rfl (c_) (by omega) (by omega) (by omega) d_Mo_product_87 ?_
                  rw [hW.m hc9]
                  refine zz_icmp_ge (tgt := 165) hx hb d_Mo_product_88 (by decide) (by omega) (by omega) (fun c88 => ?_) (fun c88 => ?_)
                  · refine lv_iload hx hb d_Mo_product_165 (lv_at hl 5 rfl) ?_
                    refine lv_aload_n hx hb d_Mo_product_167 rfl (lv_at hl 0 rfl) ?_
                    refine va_get (D := D) (ci := 8) (v := .ref om) (C := R_Mo) (T := F_Mo) (N := 14) hx hb hts i_Mo hown hK hP 0 rfl rfl 3 (by decide) (hts _ (big_in mw_1118 rfl)) (fun _ h9 => h9) rfl d_Mo_product_168 ?_
                    refine lv_iload_n hx hb d_Mo_product_171 rfl (lv_at hl 3 rfl) ?_
                    refine zz_iald hx hb hK hP 2 0 rfl rfl (c_) (by omega) (by omega) (by omega) d_Mo_product_172 ?_
                    rw [hW.m hc9]
                    refine zz_iadd hx hb d_Mo_product_173 ?_
                    refine lv_istore (lv' := [(8, .int (iZ ((i : Int) + (nd (val c_) : Int)))), (0, .ref mo), (1, .int (iZ (t_ : Int))), (2, .int (iZ (b : Int))), (3, .int (iZ (c_ : Int))), (4, .int (iZ (n : Int))), (5, .int (iZ (i : Int))), (6, .int (iZ (dz (val b) i : Int))), (7, .int (iZ (cy : Int)))]) hx hb d_Mo_product_174 hl (by decide) rfl (fun ls hl => ?_)
                    have L176 : ∀ (N : Nat) (j : Nat) (cy : Nat) (H : Heap) (locs : List Loc) (ls : Array Slot), n - (i + j) < N → (nd (val c_) ≤ j) → (i + j ≤ n) → (cy ≤ 9999) → (cy = pT (val b % tB i * val c_ / tB i) (dz (val b) i) (val c_) j / tB j) → va_P D cls0 [(mo, .inr (8, [.int qc, .int (iZ (np : Int)), .ref ow, .ref om, .ref ok_, .ref oK, .ref og, .ref on_, .ref oh, .ref ox, .int qn, .int qf, .ref op_, .int ql])), (ow, .inl (cI, 108000, .inl (ovr (ovr fw t_ n (val b % tB (i) * val c_)) t_ (i + j) (val b % tB (i + 1) * val c_)))), (om, .inl (cI, 9, .inl fm))] H → va_D A [(mo, .inr (8, [.int qc, .int (iZ (np : Int)), .ref ow, .ref om, .ref ok_, .ref oK, .ref og, .ref on_, .ref oh, .ref ox, .int qn, .int qf, .ref op_, .int ql])), (ow, .inl (cI, 108000, .inl (ovr (ovr fw t_ n (val b % tB (i) * val c_)) t_ (i + j) (val b % tB (i + 1) * val c_)))), (om, .inl (cI, 9, .inl fm))] → va_S A s.heap H locs → lv_has ls 10 [(0, .ref mo), (1, .int (iZ (t_ : Int))), (2, .int (iZ (b : Int))), (3, .int (iZ (c_ : Int))), (4, .int (iZ (n : Int))), (5, .int (iZ (i : Int))), (6, .int (iZ (dz (val b) i : Int))), (7, .int (iZ (cy : Int))), (8, .int (iZ ((i + j : Nat) : Int)))] → W p l e R s m args below meth c H locs 0 0 Q (F0 m 176 ls []) := by
                      intro N
                      induction N with
                      | zero => intro j cy H locs ls hN; exact absurd hN (Nat.not_lt_zero _)
                      | succ N ih_L176 =>
                        intro j cy H locs ls hN jn jm jb icy hP hD hS hl
                        refine lv_iload hx hb d_Mo_product_176 (lv_at hl 7 rfl) ?_
                        refine zz_if_le (tgt := 232) hx hb d_Mo_product_178 (by decide) (by omega) (fun c178 => ?_) (fun c178 => ?_)
                        · have c0 : cy = 0 := by omega
                          rw [icy] at c0
                          rw [ovr_two (by omega) (fun m h1 h2 => pr_end jn c0 h1)] at hP hD
                          refine lv_iinc (v := iZ ((i : Int) + 1)) (lv' := [(5, .int (iZ ((i : Int) + 1))), (0, .ref mo), (1, .int (iZ (t_ : Int))), (2, .int (iZ (b : Int))), (3, .int (iZ (c_ : Int))), (4, .int (iZ (n : Int))), (6, .int (iZ (dz (val b) i : Int))), (7, .int (iZ (cy : Int))), (8, .int (iZ ((i + j : Nat) : Int)))]) hx hb d_Mo_product_232 hl (k := 5) rfl (iZ_add _ _) (by decide) rfl (fun ls hl => ?_)
                          refine lv_goto (tgt := 48) hx hb d_Mo_product_235 (by decide) ?_
                          rw [show ((i : Int) + 1 : Int) = ((i + 1 : Nat) : Int) by omega] at hl
                          exact ih_L48 (i + 1) _ _ _ (by omega) (by omega) (hP.sub (ws' := [(mo, .inr (8, [.int qc, .int (iZ (np : Int)), .ref ow, .ref om, .ref ok_, .ref oK, .ref og, .ref on_, .ref oh, .ref ox, .int qn, .int qf, .ref op_, .int ql])), (ow, .inl (cI, 108000, .inl (ovr fw t_ n (val b % tB ((i + 1)) * val c_)))), (om, .inl (cI, 9, .inl fm))]) [0, 1, 2] rfl) (hD.sub (ws' := [(mo, .inr (8, [.int qc, .int (iZ (np : Int)), .ref ow, .ref om, .ref ok_, .ref oK, .ref og, .ref on_, .ref oh, .ref ox, .int qn, .int qf, .ref op_, .int ql])), (ow, .inl (cI, 108000, .inl (ovr fw t_ n (val b % tB ((i + 1)) * val c_)))), (om, .inl (cI, 9, .inl fm))]) [0, 1, 2] (by decide) rfl) hS (lv_sub hl [1, 2, 3, 4, 5, 0] rfl)
                        · have b1 := dz_lt (val b) i
                          have b2 := dz_lt (val c_) j
                          have b3 := pT_lt (val b % tB i * val c_ / tB i) (dz (val b) i) (val c_) j
                          have b4 := dz_lt (val b % tB i * val c_ / tB i) j
                          rw [← icy] at b3
                          have cp := pr_cap jn (by rw [← icy]; omega)
                          refine lv_aload_n hx hb d_Mo_product_181 rfl (lv_at hl 0 rfl) ?_
                          refine va_get (D := D) (ci := 8) (v := .ref ow) (C := R_Mo) (T := F_Mo) (N := 14) hx hb hts i_Mo hown hK hP 0 rfl rfl 2 (by decide) (hts _ (big_in mw_1117 rfl)) (fun _ h9 => h9) rfl d_Mo_product_182 ?_
                          refine lv_sipush (v := iZ (12000)) hx hb d_Mo_product_185 (by decide +kernel) ?_
                          refine lv_iload_n hx hb d_Mo_product_188 rfl (lv_at hl 1 rfl) ?_
                          refine zz_imul hx hb d_Mo_product_189 ?_
                          refine lv_iload hx hb d_Mo_product_190 (lv_at hl 8 rfl) ?_
                          refine zz_iadd hx hb d_Mo_product_192 ?_
                          refine zz_iald hx hb hK hP 1 0 rfl rfl (12000 * t_ + (i + j)) (by omega) (by omega) (by omega) d_Mo_product_193 ?_
                          rw [ovr_out (by omega), ovr_in (by omega), ← dz_shift]
                          refine lv_iload hx hb d_Mo_product_194 (lv_at hl 7 rfl) ?_
                          refine zz_iadd hx hb d_Mo_product_196 ?_
                          have ed := pT_dz (val b % tB i * val c_ / tB i) (dz (val b) i) (val c_) j
                          have ec := pT_c (val b % tB i * val c_ / tB i) (dz (val b) i) (val c_) j
                          rw [← icy, dz_hi jn, Nat.mul_zero, Nat.add_zero] at ed ec
                          rw [← pr_dz] at ed
                          refine lv_istore (lv' := [(9, .int (iZ ((dz (val b % tB i * val c_ / tB i) j : Int) + (cy : Int)))), (0, .ref mo), (1, .int (iZ (t_ : Int))), (2, .int (iZ (b : Int))), (3, .int (iZ (c_ : Int))), (4, .int (iZ (n : Int))), (5, .int (iZ (i : Int))), (6, .int (iZ (dz (val b) i : Int))), (7, .int (iZ (cy : Int))), (8, .int (iZ ((i + j : Nat) : Int)))]) hx hb d_Mo_product_197 hl (by decide) rfl (fun ls hl => ?_)
                          refine lv_aload_n hx hb d_Mo_product_199 rfl (lv_at hl 1 rfl) ?_
                          refine va_get (D := D) (ci := 8) (v := .ref ow) (C := R_Mo) (T := F_Mo) (N := 14) hx hb hts i_Mo hown hK hP 0 rfl rfl 2 (by decide) (hts _ (big_in mw_1117 rfl)) (fun _ h9 => h9) rfl d_Mo_product_200 ?_
                          refine lv_sipush (v := iZ (12000)) hx hb d_Mo_product_203 (by decide +kernel) ?_
                          refine lv_iload_n hx hb d_Mo_product_206 rfl (lv_at hl 2 rfl) ?_
                          refine zz_imul hx hb d_Mo_product_207 ?_
                          refine lv_iload hx hb d_Mo_product_208 (lv_at hl 9 rfl) ?_
                          refine zz_iadd hx hb d_Mo_product_210 ?_
                          refine lv_iload hx hb d_Mo_product_211 (lv_at hl 0 rfl) ?_
                          refine lv_sipush (v := iZ (10000)) hx hb d_Mo_product_213 (by decide +kernel) ?_
                          refine zz_irem hx hb d_Mo_product_216 (by omega) (by omega) ?_
                          refine zz_iast hx hb hK hP hD hS 1 0 rfl rfl (12000 * t_ + (i + j)) (by omega) (by omega) (by omega) d_Mo_product_217 (fun H locs hP hD hS => ?_)
                          have hP : va_P D cls0 [(mo, .inr (8, [.int qc, .int (iZ (np : Int)), .ref ow, .ref om, .ref ok_, .ref oK, .ref og, .ref on_, .ref oh, .ref ox, .int qn, .int qf, .ref op_, .int ql])), (ow, .inl (cI, 108000, .inl (upd (ovr (ovr fw t_ n (val b % tB (i) * val c_)) t_ (i + j) (val b % tB (i + 1) * val c_)) (12000 * t_ + (i + j)) (iZ (((dz (val b % tB i * val c_ / tB i) j : Int) + (cy : Int)) % 10000))))), (om, .inl (cI, 9, .inl fm))] H := hP
                          have hD : va_D A [(mo, .inr (8, [.int qc, .int (iZ (np : Int)), .ref ow, .ref om, .ref ok_, .ref oK, .ref og, .ref on_, .ref oh, .ref ox, .int qn, .int qf, .ref op_, .int ql])), (ow, .inl (cI, 108000, .inl (upd (ovr (ovr fw t_ n (val b % tB (i) * val c_)) t_ (i + j) (val b % tB (i + 1) * val c_)) (12000 * t_ + (i + j)) (iZ (((dz (val b % tB i * val c_ / tB i) j : Int) + (cy : Int)) % 10000))))), (om, .inl (cI, 9, .inl fm))] := hD
                          rw [ovr_s (by congr 1; omega)] at hP hD
                          refine lv_iload hx hb d_Mo_product_218 (lv_at hl 0 rfl) ?_
                          refine lv_sipush (v := iZ (10000)) hx hb d_Mo_product_220 (by decide +kernel) ?_
                          refine zz_idiv hx hb d_Mo_product_223 (by omega) (by omega) ?_
                          refine lv_istore (lv' := [(7, .int (iZ (((dz (val b % tB i * val c_ / tB i) j : Int) + (cy : Int)) / 10000))), (9, .int (iZ ((dz (val b % tB i * val c_ / tB i) j : Int) + (cy : Int)))), (0, .ref mo), (1, .int (iZ (t_ : Int))), (2, .int (iZ (b : Int))), (3, .int (iZ (c_ : Int))), (4, .int (iZ (n : Int))), (5, .int (iZ (i : Int))), (6, .int (iZ (dz (val b) i : Int))), (8, .int (iZ ((i + j : Nat) : Int)))]) hx hb d_Mo_product_224 hl (by decide) rfl (fun ls hl => ?_)
                          refine lv_iinc (v := iZ (((i + j : Nat) : Int) + 1)) (lv' := [(8, .int (iZ (((i + j : Nat) : Int) + 1))), (7, .int (iZ (((dz (val b % tB i * val c_ / tB i) j : Int) + (cy : Int)) / 10000))), (9, .int (iZ ((dz (val b % tB i * val c_ / tB i) j : Int) + (cy : Int)))), (0, .ref mo), (1, .int (iZ (t_ : Int))), (2, .int (iZ (b : Int))), (3, .int (iZ (c_ : Int))), (4, .int (iZ (n : Int))), (5, .int (iZ (i : Int))), (6, .int (iZ (dz (val b) i : Int)))]) hx hb d_Mo_product_226 hl (k := 9) rfl (iZ_add _ _) (by decide) rfl (fun ls hl => ?_)
                          refine lv_goto (tgt := 176) hx hb d_Mo_product_229 (by decide) ?_
                          rw [show (((dz (val b % tB i * val c_ / tB i) j : Int) + (cy : Int)) / 10000 : Int) = (((dz (val b % tB i * val c_ / tB i) j + cy) / 10000 : Nat) : Int) by omega] at hl
                          rw [show (((i + j : Nat) : Int) + 1 : Int) = ((i + (j + 1) : Nat) : Int) by omega] at hl
                          exact ih_L176 (j + 1) ((dz (val b % tB i * val c_ / tB i) j + cy) / 10000) _ _ _ (by omega) (by omega) (by omega) (by omega) ec (hP.sub (ws' := [(mo, .inr (8, [.int qc, .int (iZ (np : Int)), .ref ow, .ref om, .ref ok_, .ref oK, .ref og, .ref on_, .ref oh, .ref ox, .int qn, .int qf, .ref op_, .int ql])), (ow, .inl (cI, 108000, .inl (ovr (ovr fw t_ n (val b % tB (i) * val c_)) t_ (i + (j + 1)) (val b % tB (i + 1) * val c_)))), (om, .inl (cI, 9, .inl fm))]) [0, 1, 2] rfl) (hD.sub (ws' := [(mo, .inr (8, [.int qc, .int (iZ (np : Int)), .ref ow, .ref om, .ref ok_, .ref oK, .ref og, .ref on_, .ref oh, .ref ox, .int qn, .int qf, .ref op_, .int ql])), (ow, .inl (cI, 108000, .inl (ovr (ovr fw t_ n (val b % tB (i) * val c_)) t_ (i + (j + 1)) (val b % tB (i + 1) * val c_)))), (om, .inl (cI, 9, .inl fm))]) [0, 1, 2] (by decide) rfl) hS (lv_sub hl [3, 4, 5, 6, 7, 8, 9, 1, 0] rfl)
                    rw [show ((i : Int) + (nd (val c_) : Int) : Int) = ((i + j : Nat) : Int) by omega] at hl
                    exact L176 _ j cy _ _ _ (Nat.lt_succ_self _) (by omega) (by omega) (by rw [icy]; exact Nat.le_trans (pT_lt _ _ _ _) (Nat.le_of_lt_succ (dz_lt _ _))) icy (hP.sub (ws' := [(mo, .inr (8, [.int qc, .int (iZ (np : Int)), .ref ow, .ref om, .ref ok_, .ref oK, .ref og, .ref on_, .ref oh, .ref ox, .int qn, .int qf, .ref op_, .int ql])), (ow, .inl (cI, 108000, .inl (ovr (ovr fw t_ n (val b % tB (i) * val c_)) t_ (i + j) (val b % tB (i + 1) * val c_)))), (om, .inl (cI, 9, .inl fm))]) [0, 1, 2] rfl) (hD.sub (ws' := [(mo, .inr (8, [.int qc, .int (iZ (np : Int)), .ref ow, .ref om, .ref ok_, .ref oK, .ref og, .ref on_, .ref oh, .ref ox, .int qn, .int qf, .ref op_, .int ql])), (ow, .inl (cI, 108000, .inl (ovr (ovr fw t_ n (val b % tB (i) * val c_)) t_ (i + j) (val b % tB (i + 1) * val c_)))), (om, .inl (cI, 9, .inl fm))]) [0, 1, 2] (by decide) rfl) hS (lv_sub hl [1, 2, 3, 4, 5, 6, 7, 8, 0] rfl)
                  · have b1 := dz_lt (val b) i
                    have b2 := dz_lt (val c_) j
                    have b3 := pT_lt (val b % tB i * val c_ / tB i) (dz (val b) i) (val c_) j
                    have b4 := dz_lt (val b % tB i * val c_ / tB i) j
                    rw [← icy] at b3
                    refine lv_aload_n hx hb d_Mo_product_91 rfl (lv_at hl 0 rfl) ?_
                    refine va_get (D := D) (ci := 8) (v := .ref ow) (C := R_Mo) (T := F_Mo) (N := 14) hx hb hts i_Mo hown hK hP 0 rfl rfl 2 (by decide) (hts _ (big_in mw_1117 rfl)) (fun _ h9 => h9) rfl d_Mo_product_92 ?_
                    refine lv_sipush (v := iZ (12000)) hx hb d_Mo_product_95 (by decide +kernel) ?_
                    refine lv_iload_n hx hb d_Mo_product_98 rfl (lv_at hl 1 rfl) ?_
                    refine zz_imul hx hb d_Mo_product_99 ?_
                    refine lv_iload hx hb d_Mo_product_100 (lv_at hl 5 rfl) ?_
                    refine zz_iadd hx hb d_Mo_product_102 ?_
                    refine lv_iload hx hb d_Mo_product_103 (lv_at hl 8 rfl) ?_
                    refine zz_iadd hx hb d_Mo_product_105 ?_
                    refine zz_iald hx hb hK hP 1 0 rfl rfl (12000 * t_ + (i + j)) (by omega) (by omega) (by omega) d_Mo_product_106 ?_
                    rw [ovr_out (by omega), ovr_in (by omega), ← dz_shift]
                    refine lv_iload hx hb d_Mo_product_107 (lv_at hl 6 rfl) ?_
                    refine lv_aload_n hx hb d_Mo_product_109 rfl (lv_at hl 0 rfl) ?_
                    refine va_get (D := D) (ci := 8) (v := .ref ow) (C := R_Mo) (T := F_Mo) (N := 14) hx hb hts i_Mo hown hK hP 0 rfl rfl 2 (by decide) (hts _ (big_in mw_1117 rfl)) (fun _ h9 => h9) rfl d_Mo_product_110 ?_
                    refine lv_sipush (v := iZ (12000)) hx hb d_Mo_product_113 (by decide +kernel) ?_
                    refine lv_iload_n hx hb d_Mo_product_116 rfl (lv_at hl 3 rfl) ?_
                    refine zz_imul hx hb d_Mo_product_117 ?_
                    refine lv_iload hx hb d_Mo_product_118 (lv_at hl 8 rfl) ?_
                    refine zz_iadd hx hb d_Mo_product_120 ?_
                    refine zz_iald hx hb hK hP 1 0 rfl rfl (12000 * c_ + j) (by omega) (by omega) (by omega) d_Mo_product_121 ?_
                    rw [ovr_out (by omega), ovr_out (by omega), hW.d hc9 (by omega)]
                    refine zz_imul hx hb d_Mo_product_122 ?_
                    obtain ⟨pd, hpd⟩ : ∃ x : Nat, x = dz (val b) i * dz (val c_) j := ⟨_, rfl⟩
                    rw [show ((dz (val b) i : Int) * (dz (val c_) j : Int) : Int) = (pd : Int) by rw [hpd]; simp]
                    have bpd : pd ≤ 9999 * 9999 := by rw [hpd]; exact Nat.mul_le_mul (by omega) (by omega)
                    have ed := pT_dz (val b % tB i * val c_ / tB i) (dz (val b) i) (val c_) j
                    have ec := pT_c (val b % tB i * val c_ / tB i) (dz (val b) i) (val c_) j
                    rw [← icy, ← hpd] at ed ec
                    rw [← pr_dz] at ed
                    refine zz_iadd hx hb d_Mo_product_123 ?_
                    refine lv_iload hx hb d_Mo_product_124 (lv_at hl 7 rfl) ?_
                    refine zz_iadd hx hb d_Mo_product_126 ?_
                    refine lv_istore (lv' := [(9, .int (iZ ((dz (val b % tB i * val c_ / tB i) j : Int) + (pd : Int) + (cy : Int)))), (0, .ref mo), (1, .int (iZ (t_ : Int))), (2, .int (iZ (b : Int))), (3, .int (iZ (c_ : Int))), (4, .int (iZ (n : Int))), (5, .int (iZ (i : Int))), (6, .int (iZ (dz (val b) i : Int))), (7, .int (iZ (cy : Int))), (8, .int (iZ (j : Int)))]) hx hb d_Mo_product_127 hl (by decide) rfl (fun ls hl => ?_)
                    refine lv_aload_n hx hb d_Mo_product_129 rfl (lv_at hl 1 rfl) ?_
                    refine va_get (D := D) (ci := 8) (v := .ref ow) (C := R_Mo) (T := F_Mo) (N := 14) hx hb hts i_Mo hown hK hP 0 rfl rfl 2 (by decide) (hts _ (big_in mw_1117 rfl)) (fun _ h9 => h9) rfl d_Mo_product_130 ?_
                    refine lv_sipush (v := iZ (12000)) hx hb d_Mo_product_133 (by decide +kernel) ?_
                    refine lv_iload_n hx hb d_Mo_product_136 rfl (lv_at hl 2 rfl) ?_
                    refine zz_imul hx hb d_Mo_product_137 ?_
                    refine lv_iload hx hb d_Mo_product_138 (lv_at hl 6 rfl) ?_
                    refine zz_iadd hx hb d_Mo_product_140 ?_
                    refine lv_iload hx hb d_Mo_product_141 (lv_at hl 9 rfl) ?_
                    refine zz_iadd hx hb d_Mo_product_143 ?_
                    refine lv_iload hx hb d_Mo_product_144 (lv_at hl 0 rfl) ?_
                    refine lv_sipush (v := iZ (10000)) hx hb d_Mo_product_146 (by decide +kernel) ?_
                    refine zz_irem hx hb d_Mo_product_149 (by omega) (by omega) ?_
                    refine zz_iast hx hb hK hP hD hS 1 0 rfl rfl (12000 * t_ + (i + j)) (by omega) (by omega) (by omega) d_Mo_product_150 (fun H locs hP hD hS => ?_)
                    have hP : va_P D cls0 [(mo, .inr (8, [.int qc, .int (iZ (np : Int)), .ref ow, .ref om, .ref ok_, .ref oK, .ref og, .ref on_, .ref oh, .ref ox, .int qn, .int qf, .ref op_, .int ql])), (ow, .inl (cI, 108000, .inl (upd (ovr (ovr fw t_ n (val b % tB (i) * val c_)) t_ (i + j) (val b % tB (i + 1) * val c_)) (12000 * t_ + (i + j)) (iZ (((dz (val b % tB i * val c_ / tB i) j : Int) + (pd : Int) + (cy : Int)) % 10000))))), (om, .inl (cI, 9, .inl fm))] H := hP
                    have hD : va_D A [(mo, .inr (8, [.int qc, .int (iZ (np : Int)), .ref ow, .ref om, .ref ok_, .ref oK, .ref og, .ref on_, .ref oh, .ref ox, .int qn, .int qf, .ref op_, .int ql])), (ow, .inl (cI, 108000, .inl (upd (ovr (ovr fw t_ n (val b % tB (i) * val c_)) t_ (i + j) (val b % tB (i + 1) * val c_)) (12000 * t_ + (i + j)) (iZ (((dz (val b % tB i * val c_ / tB i) j : Int) + (pd : Int) + (cy : Int)) % 10000))))), (om, .inl (cI, 9, .inl fm))] := hD
                    rw [ovr_s (by congr 1; omega)] at hP hD
                    refine lv_iload hx hb d_Mo_product_151 (lv_at hl 0 rfl) ?_
                    refine lv_sipush (v := iZ (10000)) hx hb d_Mo_product_153 (by decide +kernel) ?_
                    refine zz_idiv hx hb d_Mo_product_156 (by omega) (by omega) ?_
                    refine lv_istore (lv' := [(7, .int (iZ (((dz (val b % tB i * val c_ / tB i) j : Int) + (pd : Int) + (cy : Int)) / 10000))), (9, .int (iZ ((dz (val b % tB i * val c_ / tB i) j : Int) + (pd : Int) + (cy : Int)))), (0, .ref mo), (1, .int (iZ (t_ : Int))), (2, .int (iZ (b : Int))), (3, .int (iZ (c_ : Int))), (4, .int (iZ (n : Int))), (5, .int (iZ (i : Int))), (6, .int (iZ (dz (val b) i : Int))), (8, .int (iZ (j : Int)))]) hx hb d_Mo_product_157 hl (by decide) rfl (fun ls hl => ?_)
                    refine lv_iinc (v := iZ ((j : Int) + 1)) (lv' := [(8, .int (iZ ((j : Int) + 1))), (7, .int (iZ (((dz (val b % tB i * val c_ / tB i) j : Int) + (pd : Int) + (cy : Int)) / 10000))), (9, .int (iZ ((dz (val b % tB i * val c_ / tB i) j : Int) + (pd : Int) + (cy : Int)))), (0, .ref mo), (1, .int (iZ (t_ : Int))), (2, .int (iZ (b : Int))), (3, .int (iZ (c_ : Int))), (4, .int (iZ (n : Int))), (5, .int (iZ (i : Int))), (6, .int (iZ (dz (val b) i : Int)))]) hx hb d_Mo_product_159 hl (k := 9) rfl (iZ_add _ _) (by decide) rfl (fun ls hl => ?_)
                    refine lv_goto (tgt := 80) hx hb d_Mo_product_162 (by decide) ?_
                    rw [show (((dz (val b % tB i * val c_ / tB i) j : Int) + (pd : Int) + (cy : Int)) / 10000 : Int) = (((dz (val b % tB i * val c_ / tB i) j + pd + cy) / 10000 : Nat) : Int) by omega] at hl
                    rw [show ((j : Int) + 1 : Int) = ((j + 1 : Nat) : Int) by omega] at hl
                    exact ih_L80 (j + 1) ((dz (val b % tB i * val c_ / tB i) j + pd + cy) / 10000) _ _ _ (by omega) (by omega) ec (hP.sub (ws' := [(mo, .inr (8, [.int qc, .int (iZ (np : Int)), .ref ow, .ref om, .ref ok_, .ref oK, .ref og, .ref on_, .ref oh, .ref ox, .int qn, .int qf, .ref op_, .int ql])), (ow, .inl (cI, 108000, .inl (ovr (ovr fw t_ n (val b % tB (i) * val c_)) t_ (i + (j + 1)) (val b % tB (i + 1) * val c_)))), (om, .inl (cI, 9, .inl fm))]) [0, 1, 2] rfl) (hD.sub (ws' := [(mo, .inr (8, [.int qc, .int (iZ (np : Int)), .ref ow, .ref om, .ref ok_, .ref oK, .ref og, .ref on_, .ref oh, .ref ox, .int qn, .int qf, .ref op_, .int ql])), (ow, .inl (cI, 108000, .inl (ovr (ovr fw t_ n (val b % tB (i) * val c_)) t_ (i + (j + 1)) (val b % tB (i + 1) * val c_)))), (om, .inl (cI, 9, .inl fm))]) [0, 1, 2] (by decide) rfl) hS (lv_sub hl [3, 4, 5, 6, 7, 8, 9, 1, 0] rfl)
              exact L80 _ 0 0 _ _ _ (Nat.lt_succ_self _) (Nat.zero_le _) (pT_0 _ _ _) (hP.sub (ws' := [(mo, .inr (8, [.int qc, .int (iZ (np : Int)), .ref ow, .ref om, .ref ok_, .ref oK, .ref og, .ref on_, .ref oh, .ref ox, .int qn, .int qf, .ref op_, .int ql])), (ow, .inl (cI, 108000, .inl (ovr (ovr fw t_ n (val b % tB (i) * val c_)) t_ (i + 0) (val b % tB (i + 1) * val c_)))), (om, .inl (cI, 9, .inl fm))]) [0, 1, 2] rfl) (hD.sub (ws' := [(mo, .inr (8, [.int qc, .int (iZ (np : Int)), .ref ow, .ref om, .ref ok_, .ref oK, .ref og, .ref on_, .ref oh, .ref ox, .int qn, .int qf, .ref op_, .int ql])), (ow, .inl (cI, 108000, .inl (ovr (ovr fw t_ n (val b % tB (i) * val c_)) t_ (i + 0) (val b % tB (i + 1) * val c_)))), (om, .inl (cI, 9, .inl fm))]) [0, 1, 2] (by decide) rfl) hS (lv_sub hl [3, 4, 5, 6, 7, 8, 2, 1, 0] rfl)
        exact L48 _ 0 _ _ _ (Nat.lt_succ_self _) (by omega) (hP.sub (ws' := [(mo, .inr (8, [.int qc, .int (iZ (np : Int)), .ref ow, .ref om, .ref ok_, .ref oK, .ref og, .ref on_, .ref oh, .ref ox, .int qn, .int qf, .ref op_, .int ql])), (ow, .inl (cI, 108000, .inl (ovr fw t_ n (val b % tB (0) * val c_)))), (om, .inl (cI, 9, .inl fm))]) [0, 1, 2] rfl) (hD.sub (ws' := [(mo, .inr (8, [.int qc, .int (iZ (np : Int)), .ref ow, .ref om, .ref ok_, .ref oK, .ref og, .ref on_, .ref oh, .ref ox, .int qn, .int qf, .ref op_, .int ql])), (ow, .inl (cI, 108000, .inl (ovr fw t_ n (val b % tB (0) * val c_)))), (om, .inl (cI, 9, .inl fm))]) [0, 1, 2] (by decide) rfl) hS (lv_sub hl [1, 2, 3, 4, 5, 0] rfl)
      · refine lv_aload_n hx hb d_Mo_product_25 rfl (lv_at hl 0 rfl) ?_
        refine va_get (D := D) (ci := 8) (v := .ref ow) (C := R_Mo) (T := F_Mo) (N := 14) hx hb hts i_Mo hown hK hP 0 rfl rfl 2 (by decide) (hts _ (big_in mw_1117 rfl)) (fun _ h9 => h9) rfl d_Mo_product_26 ?_
        refine lv_sipush (v := iZ (12000)) hx hb d_Mo_product_29 (by decide +kernel) ?_
        refine lv_iload_n hx hb d_Mo_product_32 rfl (lv_at hl 1 rfl) ?_
        refine zz_imul hx hb d_Mo_product_33 ?_
        refine lv_iload hx hb d_Mo_product_34 (lv_at hl 5 rfl) ?_
        refine zz_iadd hx hb d_Mo_product_36 ?_
        refine lv_iconst (v := iZ (0)) hx hb d_Mo_product_37 (by decide +kernel) ?_
        refine zz_iast hx hb hK hP hD hS 1 0 rfl rfl (12000 * t_ + k) (by omega) (by omega) (by omega) d_Mo_product_38 (fun H locs hP hD hS => ?_)
        have hP : va_P D cls0 [(mo, .inr (8, [.int qc, .int (iZ (np : Int)), .ref ow, .ref om, .ref ok_, .ref oK, .ref og, .ref on_, .ref oh, .ref ox, .int qn, .int qf, .ref op_, .int ql])), (ow, .inl (cI, 108000, .inl (upd (ovr fw t_ k 0) (12000 * t_ + k) (iZ 0)))), (om, .inl (cI, 9, .inl fm))] H := hP
        have hD : va_D A [(mo, .inr (8, [.int qc, .int (iZ (np : Int)), .ref ow, .ref om, .ref ok_, .ref oK, .ref og, .ref on_, .ref oh, .ref ox, .int qn, .int qf, .ref op_, .int ql])), (ow, .inl (cI, 108000, .inl (upd (ovr fw t_ k 0) (12000 * t_ + k) (iZ 0)))), (om, .inl (cI, 9, .inl fm))] := hD
        rw [ovr_s (by rw [dz_z]; rfl)] at hP hD
        refine lv_iinc (v := iZ ((k : Int) + 1)) (lv' := [(5, .int (iZ ((k : Int) + 1))), (0, .ref mo), (1, .int (iZ (t_ : Int))), (2, .int (iZ (b : Int))), (3, .int (iZ (c_ : Int))), (4, .int (iZ (n : Int)))]) hx hb d_Mo_product_39 hl (k := 5) rfl (iZ_add _ _) (by decide) rfl (fun ls hl => ?_)
        refine lv_goto (tgt := 18) hx hb d_Mo_product_42 (by decide) ?_
        rw [show ((k : Int) + 1 : Int) = ((k + 1 : Nat) : Int) by omega] at hl
        exact ih (k + 1) _ _ _ (by omega) (by omega) (hP.sub (ws' := [(mo, .inr (8, [.int qc, .int (iZ (np : Int)), .ref ow, .ref om, .ref ok_, .ref oK, .ref og, .ref on_, .ref oh, .ref ox, .int qn, .int qf, .ref op_, .int ql])), (ow, .inl (cI, 108000, .inl (ovr fw t_ (k + 1) 0))), (om, .inl (cI, 9, .inl fm))]) [0, 1, 2] rfl) (hD.sub (ws' := [(mo, .inr (8, [.int qc, .int (iZ (np : Int)), .ref ow, .ref om, .ref ok_, .ref oK, .ref og, .ref on_, .ref oh, .ref ox, .int qn, .int qf, .ref op_, .int ql])), (ow, .inl (cI, 108000, .inl (ovr fw t_ (k + 1) 0))), (om, .inl (cI, 9, .inl fm))]) [0, 1, 2] (by decide) rfl) hS (lv_sub hl [1, 2, 3, 4, 5, 0] rfl)
  exact L18 _ 0 _ _ _ (Nat.lt_succ_self _) (by omega) (hP.sub (ws' := [(mo, .inr (8, [.int qc, .int (iZ (np : Int)), .ref ow, .ref om, .ref ok_, .ref oK, .ref og, .ref on_, .ref oh, .ref ox, .int qn, .int qf, .ref op_, .int ql])), (ow, .inl (cI, 108000, .inl (ovr fw t_ 0 0))), (om, .inl (cI, 9, .inl fm))]) [0, 1, 2] rfl) (hD.sub (ws' := [(mo, .inr (8, [.int qc, .int (iZ (np : Int)), .ref ow, .ref om, .ref ok_, .ref oK, .ref og, .ref on_, .ref oh, .ref ox, .int qn, .int qf, .ref op_, .int ql])), (ow, .inl (cI, 108000, .inl (ovr fw t_ 0 0))), (om, .inl (cI, 9, .inl fm))]) [0, 1, 2] (by decide) rfl) hS (lv_sub hl [2, 3, 4, 5, 1, 0] rfl)
