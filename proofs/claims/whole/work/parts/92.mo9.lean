theorem sh32c : ∀ k : Nat, k < 32 → (iZ (k : Int) &&& 31) = iZ (k : Int) := by decide +kernel
theorem sh32m : ∀ k : Nat, k < 32 → ((iZ (k : Int)).toBitVec.smod 32).toNat = k := by decide +kernel
theorem iZ_shr {h k : Nat} (hh : h < 65536) (hk : k < 32) : iZ (h : Int) >>> (iZ (k : Int) &&& 31) = iZ ((h / 2 ^ k : Nat) : Int) := by
  rw [sh32c k hk]
  apply Int32.toInt_inj.mp
  have e : (iZ (h : Int) >>> iZ (k : Int)).toInt = (iZ (h : Int)).toInt >>> ((iZ (k : Int)).toBitVec.smod 32).toNat := BitVec.toInt_sshiftRight ..
  rw [sh32m k hk] at e
  have b : h / 2 ^ k ≤ h := Nat.div_le_self _ _
  have e2 : ((h : Int) / ((2 ^ k : Nat) : Int)) = ((h / 2 ^ k : Nat) : Int) := by simp
  rw [e, Int.shiftRight_eq_div_pow, iZ_toInt (by omega) (by omega), e2]
  generalize h / 2 ^ k = w at *
  rw [iZ_toInt (by omega) (by omega)]
theorem hB_bits (n : Nat) : hB n = 2 ^ (16 * n) := by unfold hB; rw [Nat.pow_mul]
theorem bl_split {v n : Nat} (hn : 0 < n) (h1 : v < hB n) (h2 : hB (n - 1) ≤ v) : bl v = 16 * (n - 1) + bl (v / hB (n - 1)) := by
  have hp := hB_pos (n - 1)
  have hq : 0 < v / hB (n - 1) := Nat.div_pos h2 hp
  have b1 := bl_ge hq
  have b2 := bl_self (v / hB (n - 1))
  have b3 := bl_pos hq
  apply bl_of (by omega)
  · have := (Nat.le_div_iff_mul_le hp).mp b1
    rw [hB_bits, ← Nat.pow_add] at this
    rw [show 16 * (n - 1) + bl (v / hB (n - 1)) - 1 = bl (v / hB (n - 1)) - 1 + 16 * (n - 1) by omega]
    rw [hB_bits] at *
    exact this
  · have := (Nat.div_lt_iff_lt_mul hp).mp b2
    rw [hB_bits, ← Nat.pow_add] at this
    rw [show 16 * (n - 1) + bl (v / hB (n - 1)) = bl (v / hB (n - 1)) + 16 * (n - 1) by omega]
    rw [hB_bits] at *
    exact this
theorem bl_gt {h k : Nat} (q : 0 < h / 2 ^ k) : k < bl h := by
  apply Nat.lt_of_not_le
  intro z
  rw [Nat.div_eq_of_lt (bl_lt.mp z)] at q
  omega
theorem bl_le0 {h k : Nat} (q : h / 2 ^ k = 0) : bl h ≤ k := bl_lt.mpr ((Nat.div_eq_zero_iff_lt (Nat.two_pow_pos k)).mp q)
set_option maxHeartbeats 4000000 in
set_option maxRecDepth 100000 in
/-- bits(b) -/
theorem c_Mo_bits (l : Launch) (D : va_G) (mo : Nat) (qc : Int32) (np : Nat) (ow : Nat) (om : Nat) (ok_ : Nat) (oK : Nat) (og : Nat) (on_ : Nat) (oh : Nat) (ox : Nat) (qn : Int32) (qf : Int32) (op_ : Nat) (ql : Int32) (fw : Nat → Int32) (fm : Nat → Int32) (cI : ClassId) (fh : Nat → Int32) (val : Nat → Nat) (b : Nat) (sz : Nat) (hW : WB fw fm val) (hb9 : b < 9) (hb4 : b ≠ 4) (hcap : val b < hB 9990) : Met l y_Mo_bits (wsB y_Mo_bits b_Mo_bits 4 (some .int)) ({ frames := 2, cells := 0, slots := 0, locals := 48 }) (va_Pc [.ref mo, .int (iZ (b : Int))] (wPre D [(cI, .int)] [(mo, .inr (8, [.int qc, .int (iZ (np : Int)), .ref ow, .ref om, .ref ok_, .ref oK, .ref og, .ref on_, .ref oh, .ref ox, .int qn, .int qf, .ref op_, .int ql])), (ow, .inl (cI, 108000, .inl fw)), (om, .inl (cI, 9, .inl fm)), (oh, .inl (cI, 10000, .inl fh))] sz)) (va_QV (fun (v_9 : Option Value) (u_9 : Int × (Nat → Int32) × (Nat → Int32) × (Nat → Int32)) => v_9 = some (.int (iZ u_9.1)) ∧ (u_9.1 = (bl (val b) : Int)) ∧ (WB u_9.2.1 u_9.2.2.1 (up val 4 0))) (fun u_9 => wPost D [(cI, .int)] [(mo, .inr (8, [.int qc, .int (iZ (np : Int)), .ref ow, .ref om, .ref ok_, .ref oK, .ref og, .ref on_, .ref oh, .ref ox, .int qn, .int qf, .ref op_, .int ql])), (ow, .inl (cI, 108000, .inl fw)), (om, .inl (cI, 9, .inl fm)), (oh, .inl (cI, 10000, .inl fh))] [(mo, .inr (8, [.int qc, .int (iZ (np : Int)), .ref ow, .ref om, .ref ok_, .ref oK, .ref og, .ref on_, .ref oh, .ref ox, .int qn, .int qf, .ref op_, .int ql])), (ow, .inl (cI, 108000, .inl u_9.2.1)), (om, .inl (cI, 9, .inl u_9.2.2.1)), (oh, .inl (cI, 10000, .inl u_9.2.2.2))] sz) (va_A [(mo, .inr (8, [.int qc, .int (iZ (np : Int)), .ref ow, .ref om, .ref ok_, .ref oK, .ref og, .ref on_, .ref oh, .ref ox, .int qn, .int qf, .ref op_, .int ql])), (ow, .inl (cI, 108000, .inl fw)), (om, .inl (cI, 9, .inl fm)), (oh, .inl (cI, 10000, .inl fh))] sz)) 0 0 (va_A [(mo, .inr (8, [.int qc, .int (iZ (np : Int)), .ref ow, .ref om, .ref ok_, .ref oK, .ref og, .ref on_, .ref oh, .ref ox, .int qn, .int qf, .ref op_, .int ql])), (ow, .inl (cI, 108000, .inl fw)), (om, .inl (cI, 9, .inl fm)), (oh, .inl (cI, 10000, .inl fh))] sz) := by
  refine met_enter (by decide +kernel) (Nat.le_of_ble_eq_true rfl) ?_
  intro p e s m args below meth c ls A R Q H locs K hin hAe hA hR hQ hP hK hD hS hl
  obtain ⟨hx, hb, hml, hrt, hlk, hts, hown, hno⟩ := id K
  have hl : lv_has ls 4 [(0, .ref mo), (1, .int (iZ (b : Int)))] := hl
  refine lv_aload_n hx hb d_Mo_bits_0 rfl (lv_at hl 0 rfl) ?_
  refine lv_iload_n hx hb d_Mo_bits_1 rfl (lv_at hl 1 rfl) ?_
  refine cv (n := 1) (wr := []) (w1 := (fun (u : Nat × (Nat → Int32) × (Nat → Int32) × (Nat → Int32)) => [(mo, .inr (8, [.int qc, .int (iZ (np : Int)), .ref ow, .ref om, .ref ok_, .ref oK, .ref og, .ref on_, .ref oh, .ref ox, .int qn, .int qf, .ref op_, .int ql])), (ow, .inl (cI, 108000, .inl u.2.1)), (om, .inl (cI, 9, .inl u.2.2.1)), (oh, .inl (cI, 10000, .inl u.2.2.2))])) (As := [.int (iZ (b : Int))]) (rest := []) K hP hD hK hS hA hl.1 (c_Mo_parts l D mo qc np ow om ok_ oK og on_ oh ox qn qf op_ ql fw fm cI fh val b H.size hW (by omega) (by omega) (by omega)) [0, 1, 2, 3] [] [0] rfl rfl rfl (by decide) (by decide) (by decide) 0 rfl rfl (big_in mw_1223 rfl) (big_in mw_10 rfl) (big_in mw_1220 rfl) (big_in mw_1222 rfl) (big_in sp_29 rfl) rfl rfl (by decide +kernel) ⟨by rw [hR]; exact Nat.le_of_ble_eq_true rfl, by rw [hR]; exact Nat.le_of_ble_eq_true rfl⟩ rfl (Nat.le_of_ble_eq_true rfl) d_Mo_bits_2 ⟨by rw [hR]; exact Nat.le_of_ble_eq_true rfl, by rw [hR]; exact Nat.le_of_ble_eq_true rfl⟩ rfl (fun v u H locs hp1 hP hD hS _ => ?_)
  obtain ⟨rn, fx, fy, fg⟩ := u
  try dsimp only at hp1
  obtain ⟨rfl, ph, pw, pd⟩ := hp1
  have hP : va_P D cls0 [(mo, .inr (8, [.int qc, .int (iZ (np : Int)), .ref ow, .ref om, .ref ok_, .ref oK, .ref og, .ref on_, .ref oh, .ref ox, .int qn, .int qf, .ref op_, .int ql])), (ow, .inl (cI, 108000, .inl fx)), (om, .inl (cI, 9, .inl fy)), (oh, .inl (cI, 10000, .inl fg))] H := hP
  have hD : va_D A [(mo, .inr (8, [.int qc, .int (iZ (np : Int)), .ref ow, .ref om, .ref ok_, .ref oK, .ref og, .ref on_, .ref oh, .ref ox, .int qn, .int qf, .ref op_, .int ql])), (ow, .inl (cI, 108000, .inl fx)), (om, .inl (cI, 9, .inl fy)), (oh, .inl (cI, 10000, .inl fg))] := hD
  show W p l e R s m args below meth c H locs _ _ Q (F0 m 5 ls [.int (iZ (rn : Int))])
  have pb := HV_le ph hcap
  refine lv_istore_n (lv' := [(2, .int (iZ (rn : Int))), (0, .ref mo), (1, .int (iZ (b : Int)))]) hx hb d_Mo_bits_5 rfl hl (by decide) rfl (fun ls hl => ?_)
  refine lv_iconst (v := iZ (0)) hx hb d_Mo_bits_6 (by decide +kernel) ?_
  refine lv_istore_n (lv' := [(3, .int (iZ 0)), (2, .int (iZ (rn : Int))), (0, .ref mo), (1, .int (iZ (b : Int)))]) hx hb d_Mo_bits_7 rfl hl (by decide) rfl (fun ls hl => ?_)
  have L8 : ∀ (N : Nat) (k : Nat) (H : Heap) (locs : List Loc) (ls : Array Slot), 16 - k < N → (k ≤ 16) → (0 < rn → k ≤ bl (val b / hB (rn - 1) % 65536)) → va_P D cls0 [(mo, .inr (8, [.int qc, .int (iZ (np : Int)), .ref ow, .ref om, .ref ok_, .ref oK, .ref og, .ref on_, .ref oh, .ref ox, .int qn, .int qf, .ref op_, .int ql])), (ow, .inl (cI, 108000, .inl fx)), (om, .inl (cI, 9, .inl fy)), (oh, .inl (cI, 10000, .inl fg))] H → va_D A [(mo, .inr (8, [.int qc, .int (iZ (np : Int)), .ref ow, .ref om, .ref ok_, .ref oK, .ref og, .ref on_, .ref oh, .ref ox, .int qn, .int qf, .ref op_, .int ql])), (ow, .inl (cI, 108000, .inl fx)), (om, .inl (cI, 9, .inl fy)), (oh, .inl (cI, 10000, .inl fg))] → va_S A s.heap H locs → lv_has ls 4 [(0, .ref mo), (1, .int (iZ (b : Int))), (2, .int (iZ (rn : Int))), (3, .int (iZ (k : Int)))] → W p l e R s m args below meth c H locs 0 0 Q (F0 m 8 ls []) := by
    intro N
    induction N with
    | zero => intro k H locs ls hN; exact absurd hN (Nat.not_lt_zero _)
    | succ N ih =>
      intro k H locs ls hN ik ib hP hD hS hl
      refine lv_iload_n hx hb d_Mo_bits_8 rfl (lv_at hl 2 rfl) ?_
      refine zz_if_le (tgt := 31) hx hb d_Mo_bits_9 (by decide) (by omega) (fun c9 => ?_) (fun c9 => ?_)
      · refine lv_iload_n hx hb d_Mo_bits_31 rfl (lv_at hl 2 rfl) ?_
        refine zz_if_ne (tgt := 39) hx hb d_Mo_bits_32 (by decide) (by omega) (fun c32 => ?_) (fun c32 => ?_)
        · refine lv_bipush (v := iZ (16)) hx hb d_Mo_bits_39 (by decide +kernel) ?_
          refine lv_iload_n hx hb d_Mo_bits_41 rfl (lv_at hl 2 rfl) ?_
          refine lv_iconst (v := iZ (1)) hx hb d_Mo_bits_42 (by decide +kernel) ?_
          refine zz_isub hx hb d_Mo_bits_43 ?_
          refine zz_imul hx hb d_Mo_bits_44 ?_
          refine lv_iload_n hx hb d_Mo_bits_45 rfl (lv_at hl 3 rfl) ?_
          refine zz_iadd hx hb d_Mo_bits_46 ?_
          have hP9 : va_P D cls0 [(mo, .inr (8, [.int qc, .int (iZ (np : Int)), .ref ow, .ref om, .ref ok_, .ref oK, .ref og, .ref on_, .ref oh, .ref ox, .int qn, .int qf, .ref op_, .int ql])), (ow, .inl (cI, 108000, .inl fx)), (om, .inl (cI, 9, .inl fy)), (oh, .inl (cI, 10000, .inl fg))] H := hP.sub [0, 1, 2, 3] rfl
          have hD9 : va_D A [(mo, .inr (8, [.int qc, .int (iZ (np : Int)), .ref ow, .ref om, .ref ok_, .ref oK, .ref og, .ref on_, .ref oh, .ref ox, .int qn, .int qf, .ref op_, .int ql])), (ow, .inl (cI, 108000, .inl fx)), (om, .inl (cI, 9, .inl fy)), (oh, .inl (cI, 10000, .inl fg))] := hD.sub [0, 1, 2, 3] (by decide) rfl
          rw [hQ, ← hAe]
          refine r_i (v := (iZ (16 * ((rn : Int) - 1) + (k : Int)))) K (16 * ((rn : Int) - 1) + (k : Int), fx, fy, fg) hS d_Mo_bits_47 ?_ (fun t ht hv => ?_)
          · try dsimp only
            exfalso
            omega
          · exact ⟨by rw [ht]; exact hP9, va_K.moved hv hK, by rw [← hAe]; exact hD9⟩
        · refine lv_iconst (v := iZ (0)) hx hb d_Mo_bits_35 (by decide +kernel) ?_
          refine lv_goto (tgt := 47) hx hb d_Mo_bits_36 (by decide) ?_
          have hP9 : va_P D cls0 [(mo, .inr (8, [.int qc, .int (iZ (np : Int)), .ref ow, .ref om, .ref ok_, .ref oK, .ref og, .ref on_, .ref oh, .ref ox, .int qn, .int qf, .ref op_, .int ql])), (ow, .inl (cI, 108000, .inl fx)), (om, .inl (cI, 9, .inl fy)), (oh, .inl (cI, 10000, .inl fg))] H := hP.sub [0, 1, 2, 3] rfl
          have hD9 : va_D A [(mo, .inr (8, [.int qc, .int (iZ (np : Int)), .ref ow, .ref om, .ref ok_, .ref oK, .ref og, .ref on_, .ref oh, .ref ox, .int qn, .int qf, .ref op_, .int ql])), (ow, .inl (cI, 108000, .inl fx)), (om, .inl (cI, 9, .inl fy)), (oh, .inl (cI, 10000, .inl fg))] := hD.sub [0, 1, 2, 3] (by decide) rfl
          rw [hQ, ← hAe]
          refine r_i (v := (iZ 0)) K (0, fx, fy, fg) hS d_Mo_bits_47 ?_ (fun t ht hv => ?_)
          · try dsimp only
            refine ⟨rfl, ?_, pw⟩
            have v0 : val b = 0 := by have z := ph.1; rw [show rn = 0 by omega, hB_0] at z; omega
            rw [v0, bl_0]; rfl
          · exact ⟨by rw [ht]; exact hP9, va_K.moved hv hK, by rw [← hAe]; exact hD9⟩
      · have hb6 : (val b / hB (rn - 1) % 65536) < 65536 := Nat.mod_lt _ (by decide)
        refine lv_aload_n hx hb d_Mo_bits_12 rfl (lv_at hl 0 rfl) ?_
        refine va_get (D := D) (ci := 8) (v := .ref oh) (C := R_Mo) (T := F_Mo) (N := 14) hx hb hts i_Mo hown hK hP 0 rfl rfl 8 (by decide) (hts _ (big_in mw_1123 rfl)) (fun _ h9 => h9) rfl d_Mo_bits_13 ?_
        refine lv_iload_n hx hb d_Mo_bits_16 rfl (lv_at hl 2 rfl) ?_
        refine lv_iconst (v := iZ (1)) hx hb d_Mo_bits_17 (by decide +kernel) ?_
        refine zz_isub hx hb d_Mo_bits_18 ?_
        refine zz_iald hx hb hK hP 3 0 rfl rfl (rn - 1) (by omega) (by omega) (by omega) d_Mo_bits_19 ?_
        rw [pd (rn - 1) (by omega)]
        refine lv_iload_n hx hb d_Mo_bits_20 rfl (lv_at hl 3 rfl) ?_
        refine lv_ishr hx hb d_Mo_bits_21 ?_
        obtain ⟨hs, hhs⟩ : ∃ x : Nat, x = (val b / hB (rn - 1) % 65536) / 2 ^ k := ⟨_, rfl⟩
        rw [iZ_shr (h := (val b / hB (rn - 1) % 65536)) hb6 (by omega), ← hhs]
        have bhs : hs ≤ (val b / hB (rn - 1) % 65536) := by rw [hhs]; exact Nat.div_le_self _ _
        refine zz_if_le (tgt := 31) hx hb d_Mo_bits_22 (by decide) (by omega) (fun c22 => ?_) (fun c22 => ?_)
        · refine lv_iload_n hx hb d_Mo_bits_31 rfl (lv_at hl 2 rfl) ?_
          refine zz_if_ne (tgt := 39) hx hb d_Mo_bits_32 (by decide) (by omega) (fun c32 => ?_) (fun c32 => ?_)
          · refine lv_bipush (v := iZ (16)) hx hb d_Mo_bits_39 (by decide +kernel) ?_
            refine lv_iload_n hx hb d_Mo_bits_41 rfl (lv_at hl 2 rfl) ?_
            refine lv_iconst (v := iZ (1)) hx hb d_Mo_bits_42 (by decide +kernel) ?_
            refine zz_isub hx hb d_Mo_bits_43 ?_
            refine zz_imul hx hb d_Mo_bits_44 ?_
            refine lv_iload_n hx hb d_Mo_bits_45 rfl (lv_at hl 3 rfl) ?_
            refine zz_iadd hx hb d_Mo_bits_46 ?_
            have hP9 : va_P D cls0 [(mo, .inr (8, [.int qc, .int (iZ (np : Int)), .ref ow, .ref om, .ref ok_, .ref oK, .ref og, .ref on_, .ref oh, .ref ox, .int qn, .int qf, .ref op_, .int ql])), (ow, .inl (cI, 108000, .inl fx)), (om, .inl (cI, 9, .inl fy)), (oh, .inl (cI, 10000, .inl fg))] H := hP.sub [0, 1, 2, 3] rfl
            have hD9 : va_D A [(mo, .inr (8, [.int qc, .int (iZ (np : Int)), .ref ow, .ref om, .ref ok_, .ref oK, .ref og, .ref on_, .ref oh, .ref ox, .int qn, .int qf, .ref op_, .int ql])), (ow, .inl (cI, 108000, .inl fx)), (om, .inl (cI, 9, .inl fy)), (oh, .inl (cI, 10000, .inl fg))] := hD.sub [0, 1, 2, 3] (by decide) rfl
            rw [hQ, ← hAe]
            refine r_i (v := (iZ (16 * ((rn : Int) - 1) + (k : Int)))) K (16 * ((rn : Int) - 1) + (k : Int), fx, fy, fg) hS d_Mo_bits_47 ?_ (fun t ht hv => ?_)
            · try dsimp only
              refine ⟨rfl, ?_, pw⟩
              have np_ : 0 < rn := by omega
              have q2 : hB (rn - 1) ≤ val b := by rcases ph.2 with z | z; omega; exact z
              have ed : (val b / hB (rn - 1) % 65536) = val b / hB (rn - 1) := Nat.mod_eq_of_lt (Nat.div_lt_of_lt_mul (by rw [← hB_s, show rn - 1 + 1 = rn by omega]; exact ph.1))
              have el := bl_le0 (h := (val b / hB (rn - 1) % 65536)) (k := k) (by rw [← hhs]; omega)
              rw [bl_split np_ ph.1 q2, ← ed]
              omega
            · exact ⟨by rw [ht]; exact hP9, va_K.moved hv hK, by rw [← hAe]; exact hD9⟩
          · refine lv_iconst (v := iZ (0)) hx hb d_Mo_bits_35 (by decide +kernel) ?_
            refine lv_goto (tgt := 47) hx hb d_Mo_bits_36 (by decide) ?_
            have hP9 : va_P D cls0 [(mo, .inr (8, [.int qc, .int (iZ (np : Int)), .ref ow, .ref om, .ref ok_, .ref oK, .ref og, .ref on_, .ref oh, .ref ox, .int qn, .int qf, .ref op_, .int ql])), (ow, .inl (cI, 108000, .inl fx)), (om, .inl (cI, 9, .inl fy)), (oh, .inl (cI, 10000, .inl fg))] H := hP.sub [0, 1, 2, 3] rfl
            have hD9 : va_D A [(mo, .inr (8, [.int qc, .int (iZ (np : Int)), .ref ow, .ref om, .ref ok_, .ref oK, .ref og, .ref on_, .ref oh, .ref ox, .int qn, .int qf, .ref op_, .int ql])), (ow, .inl (cI, 108000, .inl fx)), (om, .inl (cI, 9, .inl fy)), (oh, .inl (cI, 10000, .inl fg))] := hD.sub [0, 1, 2, 3] (by decide) rfl
            rw [hQ, ← hAe]
            refine r_i (v := (iZ 0)) K (0, fx, fy, fg) hS d_Mo_bits_47 ?_ (fun t ht hv => ?_)
            · try dsimp only
              refine ⟨rfl, ?_, pw⟩
              have v0 : val b = 0 := by have z := ph.1; rw [show rn = 0 by omega, hB_0] at z; omega
              rw [v0, bl_0]; rfl
            · exact ⟨by rw [ht]; exact hP9, va_K.moved hv hK, by rw [← hAe]; exact hD9⟩
        · refine lv_iinc (v := iZ ((k : Int) + 1)) (lv' := [(3, .int (iZ ((k : Int) + 1))), (0, .ref mo), (1, .int (iZ (b : Int))), (2, .int (iZ (rn : Int)))]) hx hb d_Mo_bits_25 hl (k := 3) rfl (iZ_add _ _) (by decide) rfl (fun ls hl => ?_)
          refine lv_goto (tgt := 8) hx hb d_Mo_bits_28 (by decide) ?_
          rw [show ((k : Int) + 1 : Int) = ((k + 1 : Nat) : Int) by omega] at hl
          exact ih (k + 1) _ _ _ (by have z := bl_gt (h := (val b / hB (rn - 1) % 65536)) (k := k) (by rw [← hhs]; omega); have y : bl (val b / hB (rn - 1) % 65536) ≤ 16 := bl_lt.mpr hb6; omega) (by have z := bl_gt (h := (val b / hB (rn - 1) % 65536)) (k := k) (by rw [← hhs]; omega); have y : bl (val b / hB (rn - 1) % 65536) ≤ 16 := bl_lt.mpr hb6; omega) (fun _ => bl_gt (by rw [← hhs]; omega)) (hP.sub (ws' := [(mo, .inr (8, [.int qc, .int (iZ (np : Int)), .ref ow, .ref om, .ref ok_, .ref oK, .ref og, .ref on_, .ref oh, .ref ox, .int qn, .int qf, .ref op_, .int ql])), (ow, .inl (cI, 108000, .inl fx)), (om, .inl (cI, 9, .inl fy)), (oh, .inl (cI, 10000, .inl fg))]) [0, 1, 2, 3] rfl) (hD.sub (ws' := [(mo, .inr (8, [.int qc, .int (iZ (np : Int)), .ref ow, .ref om, .ref ok_, .ref oK, .ref og, .ref on_, .ref oh, .ref ox, .int qn, .int qf, .ref op_, .int ql])), (ow, .inl (cI, 108000, .inl fx)), (om, .inl (cI, 9, .inl fy)), (oh, .inl (cI, 10000, .inl fg))]) [0, 1, 2, 3] (by decide) rfl) hS (lv_sub hl [1, 2, 3, 0] rfl)
  exact L8 _ 0 _ _ _ (Nat.lt_succ_self _) (by omega) (fun _ => Nat.zero_le _) (hP.sub (ws' := [(mo, .inr (8, [.int qc, .int (iZ (np : Int)), .ref ow, .ref om, .ref ok_, .ref oK, .ref og, .ref on_, .ref oh, .ref ox, .int qn, .int qf, .ref op_, .int ql])), (ow, .inl (cI, 108000, .inl fx)), (om, .inl (cI, 9, .inl fy)), (oh, .inl (cI, 10000, .inl fg))]) [0, 1, 2, 3] rfl) (hD.sub (ws' := [(mo, .inr (8, [.int qc, .int (iZ (np : Int)), .ref ow, .ref om, .ref ok_, .ref oK, .ref og, .ref on_, .ref oh, .ref ox, .int qn, .int qf, .ref op_, .int ql])), (ow, .inl (cI, 108000, .inl fx)), (om, .inl (cI, 9, .inl fy)), (oh, .inl (cI, 10000, .inl fg))]) [0, 1, 2, 3] (by decide) rfl) hS (lv_sub hl [2, 3, 1, 0] rfl)
theorem nd_mul_ge {a b : Nat} (ha : 0 < a) (hb : 0 < b) : nd a + nd b ≤ nd (a * b) + 1 := by
  have p1 := nd_pos.mpr ha
  have p2 := nd_pos.mpr hb
  have q1 : tB (nd a - 1) ≤ a := nd_lt.mp (by omega)
  have q2 : tB (nd b - 1) ≤ b := nd_lt.mp (by omega)
  have q3 := Nat.mul_le_mul q1 q2
  rw [← tB_add] at q3
  have := nd_lt.mpr q3
  omega
theorem nd_1 : nd 1 = 1 := by decide
theorem nd_pw0 (e : Nat) : nd (0 ^ e) ≤ 1 := by
  rcases Nat.eq_zero_or_pos e with q | q
  · subst q; exact Nat.le_of_eq nd_1
  · rw [Nat.zero_pow q]; exact Nat.zero_le _
/-- two powers whose product is not above the last one -/
theorem rs_cap {v a b n : Nat} (h : a + b ≤ n) (hc : nd (v ^ n) + 5 ≤ 12000) : nd (v ^ a) + nd (v ^ b) ≤ 12000 := by
  rcases Nat.eq_zero_or_pos v with q | q
  · subst q
    have := nd_pw0 a
    have := nd_pw0 b
    omega
  · have h1 := nd_mul_ge (Nat.pow_pos (n := a) q) (Nat.pow_pos (n := b) q)
    rw [← Nat.pow_add] at h1
    have h2 := nd_mono (Nat.pow_le_pow_right q h)
    omega
theorem md2 (n i : Nat) : n % 2 ^ (i + 1) = n % 2 ^ i + 2 ^ i * (n / 2 ^ i % 2) := by rw [Nat.pow_succ, Nat.mod_mul]
theorem dv2 (n i : Nat) : n / 2 ^ i / 2 = n / 2 ^ (i + 1) := by rw [Nat.pow_succ, Nat.div_div_eq_div_mul]
theorem md2_le {n i : Nat} (h : n / 2 ^ i % 2 = 1) : n % 2 ^ i + 2 ^ i ≤ n := by
  have h1 := md2 n i
  rw [h, Nat.mul_one] at h1
  have := Nat.mod_le n (2 ^ (i + 1))
  omega
theorem dv2_le {n i : Nat} (h : 0 < n / 2 ^ i / 2) : 2 ^ i + 2 ^ i ≤ n := by
  rw [dv2] at h
  have := Nat.div_mul_le_self n (2 ^ (i + 1))
  have h2 := Nat.le_trans (Nat.mul_le_mul_right (2 ^ (i + 1)) h) this
  rw [Nat.pow_succ] at h2
  omega
set_option maxHeartbeats 4000000 in
set_option maxRecDepth 100000 in
/-- raise(b, n) -/
theorem c_Mo_raise (l : Launch) (D : va_G) (mo : Nat) (qc : Int32) (np : Nat) (ow : Nat) (om : Nat) (ok_ : Nat) (oK : Nat) (og : Nat) (on_ : Nat) (oh : Nat) (ox : Nat) (qn : Int32) (qf : Int32) (op_ : Nat) (ql : Int32) (fw : Nat → Int32) (fm : Nat → Int32) (cI : ClassId) (val : Nat → Nat) (b : Nat) (n : Nat) (sz : Nat) (hW : WB fw fm val) (hb9 : b < 4) (hn : n ≤ 1000) (hcap : nd (val b ^ n) + 5 ≤ 12000) (hcb : nd (val b) ≤ 12000) : Met l y_Mo_raise (wsB y_Mo_raise b_Mo_raise 4 none) ({ frames := 2, cells := 0, slots := 0, locals := 52 }) (va_Pc [.ref mo, .int (iZ (b : Int)), .int (iZ (n : Int))] (wPre D [(cI, .int)] [(mo, .inr (8, [.int qc, .int (iZ (np : Int)), .ref ow, .ref om, .ref ok_, .ref oK, .ref og, .ref on_, .ref oh, .ref ox, .int qn, .int qf, .ref op_, .int ql])), (ow, .inl (cI, 108000, .inl fw)), (om, .inl (cI, 9, .inl fm))] sz)) (va_QV (fun (v_9 : Option Value) (u_9 : (Nat → Int32) × (Nat → Int32) × (Nat → Nat)) => v_9 = none ∧ (WB u_9.1 u_9.2.1 u_9.2.2) ∧ (u_9.2.2 b = val b ^ n) ∧ (∀ j, j < 4 → j ≠ b → u_9.2.2 j = val j)) (fun u_9 => wPost D [(cI, .int)] [(mo, .inr (8, [.int qc, .int (iZ (np : Int)), .ref ow, .ref om, .ref ok_, .ref oK, .ref og, .ref on_, .ref oh, .ref ox, .int qn, .int qf, .ref op_, .int ql])), (ow, .inl (cI, 108000, .inl fw)), (om, .inl (cI, 9, .inl fm))] [(mo, .inr (8, [.int qc, .int (iZ (np : Int)), .ref ow, .ref om, .ref ok_, .ref oK, .ref og, .ref on_, .ref oh, .ref ox, .int qn, .int qf, .ref op_, .int ql])), (ow, .inl (cI, 108000, .inl u_9.1)), (om, .inl (cI, 9, .inl u_9.2.1))] sz) (va_A [(mo, .inr (8, [.int qc, .int (iZ (np : Int)), .ref ow, .ref om, .ref ok_, .ref oK, .ref og, .ref on_, .ref oh, .ref ox, .int qn, .int qf, .ref op_, .int ql])), (ow, .inl (cI, 108000, .inl fw)), (om, .inl (cI, 9, .inl fm))] sz)) 0 0 (va_A [(mo, .inr (8, [.int qc, .int (iZ (np : Int)), .ref ow, .ref om, .ref ok_, .ref oK, .ref og, .ref on_, .ref oh, .ref ox, .int qn, .int qf, .ref op_, .int ql])), (ow, .inl (cI, 108000, .inl fw)), (om, .inl (cI, 9, .inl fm))] sz) := by
  refine met_enter (by decide +kernel) (Nat.le_of_ble_eq_true rfl) ?_
  intro p e s m args below meth c ls A R Q H locs K hin hAe hA hR hQ hP hK hD hS hl
  obtain ⟨hx, hb, hml, hrt, hlk, hts, hown, hno⟩ := id K
  have hl : lv_has ls 4 [(0, .ref mo), (1, .int (iZ (b : Int))), (2, .int (iZ (n : Int)))] := hl
  refine lv_aload_n hx hb d_Mo_raise_0 rfl (lv_at hl 0 rfl) ?_
  refine lv_iconst (v := iZ (5)) hx hb d_Mo_raise_1 (by decide +kernel) ?_
  refine lv_iload_n hx hb d_Mo_raise_2 rfl (lv_at hl 1 rfl) ?_
  refine cv (n := 2) (wr := []) (w1 := (fun (u : (Nat → Int32) × (Nat → Int32)) => [(mo, .inr (8, [.int qc, .int (iZ (np : Int)), .ref ow, .ref om, .ref ok_, .ref oK, .ref og, .ref on_, .ref oh, .ref ox, .int qn, .int qf, .ref op_, .int ql])), (ow, .inl (cI, 108000, .inl u.1)), (om, .inl (cI, 9, .inl u.2))])) (As := [.int (iZ 5), .int (iZ (b : Int))]) (rest := []) K hP hD hK hS hA hl.1 (c_Mo_copyTo l D mo qc np ow om ok_ oK og on_ oh ox qn qf op_ ql fw fm cI val 5 b H.size hW (by omega) (by omega) (by omega)) [0, 1, 2] [] [0] rfl rfl rfl (by decide) (by decide) (by decide) 0 rfl rfl (big_in mw_1193 rfl) (big_in mw_10 rfl) (big_in mw_1190 rfl) (big_in mw_1192 rfl) (big_in sp_22 rfl) rfl rfl (by decide +kernel) ⟨by rw [hR]; exact Nat.le_of_ble_eq_true rfl, by rw [hR]; exact Nat.le_of_ble_eq_true rfl⟩ rfl (Nat.le_of_ble_eq_true rfl) d_Mo_raise_3 ⟨by rw [hR]; exact Nat.le_of_ble_eq_true rfl, by rw [hR]; exact Nat.le_of_ble_eq_true rfl⟩ rfl (fun v u H locs hp1 hP hD hS _ => ?_)
  obtain ⟨fx1, fy1⟩ := u
  try dsimp only at hp1
  obtain ⟨rfl, w1⟩ := hp1
  have hP : va_P D cls0 [(mo, .inr (8, [.int qc, .int (iZ (np : Int)), .ref ow, .ref om, .ref ok_, .ref oK, .ref og, .ref on_, .ref oh, .ref ox, .int qn, .int qf, .ref op_, .int ql])), (ow, .inl (cI, 108000, .inl fx1)), (om, .inl (cI, 9, .inl fy1))] H := hP
  have hD : va_D A [(mo, .inr (8, [.int qc, .int (iZ (np : Int)), .ref ow, .ref om, .ref ok_, .ref oK, .ref og, .ref on_, .ref oh, .ref ox, .int qn, .int qf, .ref op_, .int ql])), (ow, .inl (cI, 108000, .inl fx1)), (om, .inl (cI, 9, .inl fy1))] := hD
  show W p l e R s m args below meth c H locs _ _ Q (F0 m 6 ls [])
  obtain ⟨v1, hv1⟩ : ∃ z, z = up val 5 (val b) := ⟨_, rfl⟩
  rw [← hv1] at w1
  refine lv_aload_n hx hb d_Mo_raise_6 rfl (lv_at hl 0 rfl) ?_
  refine lv_iload_n hx hb d_Mo_raise_7 rfl (lv_at hl 1 rfl) ?_
  refine lv_lconst (v := lZ (1)) hx hb d_Mo_raise_8 (by decide +kernel) ?_
  refine cv (n := 2) (wr := []) (w1 := (fun (u : (Nat → Int32) × (Nat → Int32)) => [(mo, .inr (8, [.int qc, .int (iZ (np : Int)), .ref ow, .ref om, .ref ok_, .ref oK, .ref og, .ref on_, .ref oh, .ref ox, .int qn, .int qf, .ref op_, .int ql])), (ow, .inl (cI, 108000, .inl u.1)), (om, .inl (cI, 9, .inl u.2))])) (As := [.int (iZ (b : Int)), .long (lZ 1)]) (rest := []) K hP hD hK hS hA hl.1 (c_Mo_setLong l D mo qc np ow om ok_ oK og on_ oh ox qn qf op_ ql fx1 fy1 cI v1 b 1 H.size w1 (by omega) (by omega)) [0, 1, 2] [] [0] rfl rfl rfl (by decide) (by decide) (by decide) 0 rfl rfl (big_in mw_1180 rfl) (big_in mw_10 rfl) (big_in mw_1177 rfl) (big_in mw_1179 rfl) (big_in sp_19 rfl) rfl rfl (by decide +kernel) ⟨by rw [hR]; exact Nat.le_of_ble_eq_true rfl, by rw [hR]; exact Nat.le_of_ble_eq_true rfl⟩ rfl (Nat.le_of_ble_eq_true rfl) d_Mo_raise_9 ⟨by rw [hR]; exact Nat.le_of_ble_eq_true rfl, by rw [hR]; exact Nat.le_of_ble_eq_true rfl⟩ rfl (fun v u H locs hp2 hP hD hS _ => ?_)
  obtain ⟨fx2, fy2⟩ := u
  try dsimp only at hp2
  obtain ⟨rfl, w2⟩ := hp2
  have hP : va_P D cls0 [(mo, .inr (8, [.int qc, .int (iZ (np : Int)), .ref ow, .ref om, .ref ok_, .ref oK, .ref og, .ref on_, .ref oh, .ref ox, .int qn, .int qf, .ref op_, .int ql])), (ow, .inl (cI, 108000, .inl fx2)), (om, .inl (cI, 9, .inl fy2))] H := hP
  have hD : va_D A [(mo, .inr (8, [.int qc, .int (iZ (np : Int)), .ref ow, .ref om, .ref ok_, .ref oK, .ref og, .ref on_, .ref oh, .ref ox, .int qn, .int qf, .ref op_, .int ql])), (ow, .inl (cI, 108000, .inl fx2)), (om, .inl (cI, 9, .inl fy2))] := hD
  show W p l e R s m args below meth c H locs _ _ Q (F0 m 12 ls [])
  obtain ⟨v2, hv2⟩ : ∃ z, z = up v1 b 1 := ⟨_, rfl⟩
  have w2 : WB fx2 fy2 v2 := by rw [hv2]; exact w2
  refine lv_iload_n hx hb d_Mo_raise_12 rfl (lv_at hl 2 rfl) ?_
  refine lv_istore_n (lv' := [(3, .int (iZ (n : Int))), (0, .ref mo), (1, .int (iZ (b : Int))), (2, .int (iZ (n : Int)))]) hx hb d_Mo_raise_13 rfl hl (by decide) rfl (fun ls hl => ?_)
  have L14 : ∀ (N : Nat) (i : Nat) (lf : Nat) (fx : Nat → Int32) (fy : Nat → Int32) (vl : Nat → Nat) (H : Heap) (locs : List Loc) (ls : Array Slot), lf < N → (WB fx fy vl) → (lf = n / 2 ^ i) → (lf ≤ 1000) → (vl b = val b ^ (n % 2 ^ i)) → (0 < lf → vl 5 = val b ^ (2 ^ i)) → (∀ j, j < 4 → j ≠ b → vl j = val j) → va_P D cls0 [(mo, .inr (8, [.int qc, .int (iZ (np : Int)), .ref ow, .ref om, .ref ok_, .ref oK, .ref og, .ref on_, .ref oh, .ref ox, .int qn, .int qf, .ref op_, .int ql])), (ow, .inl (cI, 108000, .inl fx)), (om, .inl (cI, 9, .inl fy))] H → va_D A [(mo, .inr (8, [.int qc, .int (iZ (np : Int)), .ref ow, .ref om, .ref ok_, .ref oK, .ref og, .ref on_, .ref oh, .ref ox, .int qn, .int qf, .ref op_, .int ql])), (ow, .inl (cI, 108000, .inl fx)), (om, .inl (cI, 9, .inl fy))] → va_S A s.heap H locs → lv_has ls 4 [(0, .ref mo), (1, .int (iZ (b : Int))), (2, .int (iZ (n : Int))), (3, .int (iZ (lf : Int)))] → W p l e R s m args below meth c H locs 0 0 Q (F0 m 14 ls []) := by
    intro N
    induction N with
    | zero => intro i lf fx fy vl H locs ls hN; exact absurd hN (Nat.not_lt_zero _)
    | succ N ih =>
      intro i lf fx fy vl H locs ls hN iW il ilb ia ip io hP hD hS hl
      refine lv_iload_n hx hb d_Mo_raise_14 rfl (lv_at hl 3 rfl) ?_
      refine zz_if_le (tgt := 62) hx hb d_Mo_raise_15 (by decide) (by omega) (fun c15 => ?_) (fun c15 => ?_)
      · have hP9 : va_P D cls0 [(mo, .inr (8, [.int qc, .int (iZ (np : Int)), .ref ow, .ref om, .ref ok_, .ref oK, .ref og, .ref on_, .ref oh, .ref ox, .int qn, .int qf, .ref op_, .int ql])), (ow, .inl (cI, 108000, .inl fx)), (om, .inl (cI, 9, .inl fy))] H := hP.sub [0, 1, 2] rfl
        have hD9 : va_D A [(mo, .inr (8, [.int qc, .int (iZ (np : Int)), .ref ow, .ref om, .ref ok_, .ref oK, .ref og, .ref on_, .ref oh, .ref ox, .int qn, .int qf, .ref op_, .int ql])), (ow, .inl (cI, 108000, .inl fx)), (om, .inl (cI, 9, .inl fy))] := hD.sub [0, 1, 2] (by decide) rfl
        rw [hQ, ← hAe]
        refine r_v K (fx, fy, vl) hS d_Mo_raise_62 ?_ (fun t ht hv => ?_)
        · try dsimp only
          have l0 : n / 2 ^ i = 0 := by rw [← il]; omega
          refine ⟨rfl, iW, ?_, io⟩
          rw [ia, Nat.mod_eq_of_lt ((Nat.div_eq_zero_iff_lt (Nat.two_pow_pos i)).mp l0)]
        · exact ⟨by rw [ht]; exact hP9, va_K.moved hv hK, by rw [← hAe]; exact hD9⟩
      · have lb : lf ≤ n := by rw [il]; exact Nat.div_le_self _ _
        refine lv_iload_n hx hb d_Mo_raise_18 rfl (lv_at hl 3 rfl) ?_
        refine lv_iconst (v := iZ (2)) hx hb d_Mo_raise_19 (by decide +kernel) ?_
        refine zz_irem hx hb d_Mo_raise_20 (by omega) (by omega) ?_
        refine lv_iconst (v := iZ (1)) hx hb d_Mo_raise_21 (by decide +kernel) ?_
        refine zz_icmp_ne (tgt := 38) hx hb d_Mo_raise_22 (by decide) (by omega) (by omega) (fun c22 => ?_) (fun c22 => ?_)
        · have hev : lf % 2 = 0 := by omega
          rw [il] at hev
          have md0 : val b ^ (n % 2 ^ i) = val b ^ (n % 2 ^ (i + 1)) := by rw [md2, show n / 2 ^ i % 2 = 0 by omega, Nat.mul_zero, Nat.add_zero]
          have ea4 : vl b = val b ^ (n % 2 ^ i) := ia
          have e45 : vl 5 = vl 5 := rfl
          have eo4 := io
          refine lv_iload_n hx hb d_Mo_raise_38 rfl (lv_at hl 3 rfl) ?_
          refine lv_iconst (v := iZ (2)) hx hb d_Mo_raise_39 (by decide +kernel) ?_
          refine zz_idiv hx hb d_Mo_raise_40 (by omega) (by omega) ?_
          refine lv_istore_n (lv' := [(3, .int (iZ ((lf : Int) / 2))), (0, .ref mo), (1, .int (iZ (b : Int))), (2, .int (iZ (n : Int)))]) hx hb d_Mo_raise_41 rfl hl (by decide) rfl (fun ls hl => ?_)
          refine lv_iload_n hx hb d_Mo_raise_42 rfl (lv_at hl 0 rfl) ?_
          refine zz_if_le (tgt := 14) hx hb d_Mo_raise_43 (by decide) (by omega) (fun c43 => ?_) (fun c43 => ?_)
          · rw [show ((lf : Int) / 2 : Int) = ((lf / 2 : Nat) : Int) by omega] at hl
            exact ih (i + 1) (lf / 2) fx fy vl _ _ _ (by omega) iW (by rw [il, dv2]) (by omega) (by rw [ea4, md0]) (fun z => absurd z (by omega)) eo4 (hP.sub (ws' := [(mo, .inr (8, [.int qc, .int (iZ (np : Int)), .ref ow, .ref om, .ref ok_, .ref oK, .ref og, .ref on_, .ref oh, .ref ox, .int qn, .int qf, .ref op_, .int ql])), (ow, .inl (cI, 108000, .inl fx)), (om, .inl (cI, 9, .inl fy))]) [0, 1, 2] rfl) (hD.sub (ws' := [(mo, .inr (8, [.int qc, .int (iZ (np : Int)), .ref ow, .ref om, .ref ok_, .ref oK, .ref og, .ref on_, .ref oh, .ref ox, .int qn, .int qf, .ref op_, .int ql])), (ow, .inl (cI, 108000, .inl fx)), (om, .inl (cI, 9, .inl fy))]) [0, 1, 2] (by decide) rfl) hS (lv_sub hl [1, 2, 3, 0] rfl)
          · refine lv_aload_n hx hb d_Mo_raise_46 rfl (lv_at hl 1 rfl) ?_
            refine lv_iconst (v := iZ (4)) hx hb d_Mo_raise_47 (by decide +kernel) ?_
            refine lv_iconst (v := iZ (5)) hx hb d_Mo_raise_48 (by decide +kernel) ?_
            refine lv_iconst (v := iZ (5)) hx hb d_Mo_raise_49 (by decide +kernel) ?_
            refine cv (n := 3) (wr := []) (w1 := (fun (u : (Nat → Int32) × (Nat → Int32)) => [(mo, .inr (8, [.int qc, .int (iZ (np : Int)), .ref ow, .ref om, .ref ok_, .ref oK, .ref og, .ref on_, .ref oh, .ref ox, .int qn, .int qf, .ref op_, .int ql])), (ow, .inl (cI, 108000, .inl u.1)), (om, .inl (cI, 9, .inl u.2))])) (As := [.int (iZ 4), .int (iZ 5), .int (iZ 5)]) (rest := []) K hP hD hK hS hA hl.1 (c_Mo_product l D mo qc np ow om ok_ oK og on_ oh ox qn qf op_ ql fx fy cI vl 4 5 5 H.size iW (by decide) (by decide) (by decide) (by decide) (by decide) (by rw [e45, ip (by omega)]; exact rs_cap (dv2_le (by omega)) hcap)) [0, 1, 2] [] [0] rfl rfl rfl (by decide) (by decide) (by decide) 0 rfl rfl (big_in mw_1258 rfl) (big_in mw_10 rfl) (big_in mw_1255 rfl) (big_in mw_1257 rfl) (big_in sp_34 rfl) rfl rfl (by decide +kernel) ⟨by rw [hR]; exact Nat.le_of_ble_eq_true rfl, by rw [hR]; exact Nat.le_of_ble_eq_true rfl⟩ rfl (Nat.le_of_ble_eq_true rfl) d_Mo_raise_50 ⟨by rw [hR]; exact Nat.le_of_ble_eq_true rfl, by rw [hR]; exact Nat.le_of_ble_eq_true rfl⟩ rfl (fun v u H locs hp3 hP hD hS _ => ?_)
            obtain ⟨fx5, fy5⟩ := u
            try dsimp only at hp3
            obtain ⟨rfl, w5⟩ := hp3
            have hP : va_P D cls0 [(mo, .inr (8, [.int qc, .int (iZ (np : Int)), .ref ow, .ref om, .ref ok_, .ref oK, .ref og, .ref on_, .ref oh, .ref ox, .int qn, .int qf, .ref op_, .int ql])), (ow, .inl (cI, 108000, .inl fx5)), (om, .inl (cI, 9, .inl fy5))] H := hP
            have hD : va_D A [(mo, .inr (8, [.int qc, .int (iZ (np : Int)), .ref ow, .ref om, .ref ok_, .ref oK, .ref og, .ref on_, .ref oh, .ref ox, .int qn, .int qf, .ref op_, .int ql])), (ow, .inl (cI, 108000, .inl fx5)), (om, .inl (cI, 9, .inl fy5))] := hD
            show W p l e R s m args below meth c H locs _ _ Q (F0 m 53 ls [])
            obtain ⟨v5, hv5⟩ : ∃ z, z = up vl 4 (vl 5 * vl 5) := ⟨_, rfl⟩
            rw [← hv5] at w5
            refine lv_aload_n hx hb d_Mo_raise_53 rfl (lv_at hl 1 rfl) ?_
            refine lv_iconst (v := iZ (5)) hx hb d_Mo_raise_54 (by decide +kernel) ?_
            refine lv_iconst (v := iZ (4)) hx hb d_Mo_raise_55 (by decide +kernel) ?_
            refine cv (n := 2) (wr := []) (w1 := (fun (u : (Nat → Int32) × (Nat → Int32)) => [(mo, .inr (8, [.int qc, .int (iZ (np : Int)), .ref ow, .ref om, .ref ok_, .ref oK, .ref og, .ref on_, .ref oh, .ref ox, .int qn, .int qf, .ref op_, .int ql])), (ow, .inl (cI, 108000, .inl u.1)), (om, .inl (cI, 9, .inl u.2))])) (As := [.int (iZ 5), .int (iZ 4)]) (rest := []) K hP hD hK hS hA hl.1 (c_Mo_copyTo l D mo qc np ow om ok_ oK og on_ oh ox qn qf op_ ql fx5 fy5 cI v5 5 4 H.size w5 (by omega) (by omega) (by omega)) [0, 1, 2] [] [0] rfl rfl rfl (by decide) (by decide) (by decide) 0 rfl rfl (big_in mw_1193 rfl) (big_in mw_10 rfl) (big_in mw_1190 rfl) (big_in mw_1192 rfl) (big_in sp_22 rfl) rfl rfl (by decide +kernel) ⟨by rw [hR]; exact Nat.le_of_ble_eq_true rfl, by rw [hR]; exact Nat.le_of_ble_eq_true rfl⟩ rfl (Nat.le_of_ble_eq_true rfl) d_Mo_raise_56 ⟨by rw [hR]; exact Nat.le_of_ble_eq_true rfl, by rw [hR]; exact Nat.le_of_ble_eq_true rfl⟩ rfl (fun v u H locs hp4 hP hD hS _ => ?_)
            obtain ⟨fx6, fy6⟩ := u
            try dsimp only at hp4
            obtain ⟨rfl, w6⟩ := hp4
            have hP : va_P D cls0 [(mo, .inr (8, [.int qc, .int (iZ (np : Int)), .ref ow, .ref om, .ref ok_, .ref oK, .ref og, .ref on_, .ref oh, .ref ox, .int qn, .int qf, .ref op_, .int ql])), (ow, .inl (cI, 108000, .inl fx6)), (om, .inl (cI, 9, .inl fy6))] H := hP
            have hD : va_D A [(mo, .inr (8, [.int qc, .int (iZ (np : Int)), .ref ow, .ref om, .ref ok_, .ref oK, .ref og, .ref on_, .ref oh, .ref ox, .int qn, .int qf, .ref op_, .int ql])), (ow, .inl (cI, 108000, .inl fx6)), (om, .inl (cI, 9, .inl fy6))] := hD
            show W p l e R s m args below meth c H locs _ _ Q (F0 m 59 ls [])
            obtain ⟨v6, hv6⟩ : ∃ z, z = up v5 5 (v5 4) := ⟨_, rfl⟩
            rw [← hv6] at w6
            have ea6 : v6 b = val b ^ (n % 2 ^ i) := by rw [hv6, up_n (by omega), hv5, up_n (by omega)]; exact ea4
            have ep6 : v6 5 = val b ^ (2 ^ i) * val b ^ (2 ^ i) := by rw [hv6, up_s, hv5, up_s, e45, ip (by omega)]
            have eo6 : ∀ j, j < 4 → j ≠ b → v6 j = val j := fun j h1 h2 => by rw [hv6, up_n (by omega), hv5, up_n (by omega)]; exact eo4 j h1 h2
            refine lv_goto (tgt := 14) hx hb d_Mo_raise_59 (by decide) ?_
            rw [show ((lf : Int) / 2 : Int) = ((lf / 2 : Nat) : Int) by omega] at hl
            exact ih (i + 1) (lf / 2) fx6 fy6 v6 _ _ _ (by omega) w6 (by rw [il, dv2]) (by omega) (by rw [ea6, md0]) (fun _ => by rw [ep6, Nat.pow_succ, Nat.mul_two, Nat.pow_add]) eo6 (hP.sub (ws' := [(mo, .inr (8, [.int qc, .int (iZ (np : Int)), .ref ow, .ref om, .ref ok_, .ref oK, .ref og, .ref on_, .ref oh, .ref ox, .int qn, .int qf, .ref op_, .int ql])), (ow, .inl (cI, 108000, .inl fx6)), (om, .inl (cI, 9, .inl fy6))]) [0, 1, 2] rfl) (hD.sub (ws' := [(mo, .inr (8, [.int qc, .int (iZ (np : Int)), .ref ow, .ref om, .ref ok_, .ref oK, .ref og, .ref on_, .ref oh, .ref ox, .int qn, .int qf, .ref op_, .int ql])), (ow, .inl (cI, 108000, .inl fx6)), (om, .inl (cI, 9, .inl fy6))]) [0, 1, 2] (by decide) rfl) hS (lv_sub hl [1, 2, 3, 0] rfl)
        · have hodd : n / 2 ^ i % 2 = 1 := by rw [← il]; omega
          refine lv_aload_n hx hb d_Mo_raise_25 rfl (lv_at hl 0 rfl) ?_
          refine lv_iconst (v := iZ (4)) hx hb d_Mo_raise_26 (by decide +kernel) ?_
          refine lv_iload_n hx hb d_Mo_raise_27 rfl (lv_at hl 1 rfl) ?_
          refine lv_iconst (v := iZ (5)) hx hb d_Mo_raise_28 (by decide +kernel) ?_
          refine cv (n := 3) (wr := []) (w1 := (fun (u : (Nat → Int32) × (Nat → Int32)) => [(mo, .inr (8, [.int qc, .int (iZ (np : Int)), .ref ow, .ref om, .ref ok_, .ref oK, .ref og, .ref on_, .ref oh, .ref ox, .int qn, .int qf, .ref op_, .int ql])), (ow, .inl (cI, 108000, .inl u.1)), (om, .inl (cI, 9, .inl u.2))])) (As := [.int (iZ 4), .int (iZ (b : Int)), .int (iZ 5)]) (rest := []) K hP hD hK hS hA hl.1 (c_Mo_product l D mo qc np ow om ok_ oK og on_ oh ox qn qf op_ ql fx fy cI vl 4 b 5 H.size iW (by decide) (by omega) (by decide) (by omega) (by decide) (by rw [ia, ip (by omega)]; exact rs_cap (md2_le hodd) hcap)) [0, 1, 2] [] [0] rfl rfl rfl (by decide) (by decide) (by decide) 0 rfl rfl (big_in mw_1258 rfl) (big_in mw_10 rfl) (big_in mw_1255 rfl) (big_in mw_1257 rfl) (big_in sp_34 rfl) rfl rfl (by decide +kernel) ⟨by rw [hR]; exact Nat.le_of_ble_eq_true rfl, by rw [hR]; exact Nat.le_of_ble_eq_true rfl⟩ rfl (Nat.le_of_ble_eq_true rfl) d_Mo_raise_29 ⟨by rw [hR]; exact Nat.le_of_ble_eq_true rfl, by rw [hR]; exact Nat.le_of_ble_eq_true rfl⟩ rfl (fun v u H locs hp5 hP hD hS _ => ?_)
          obtain ⟨fx3, fy3⟩ := u
          try dsimp only at hp5
          obtain ⟨rfl, w3⟩ := hp5
          have hP : va_P D cls0 [(mo, .inr (8, [.int qc, .int (iZ (np : Int)), .ref ow, .ref om, .ref ok_, .ref oK, .ref og, .ref on_, .ref oh, .ref ox, .int qn, .int qf, .ref op_, .int ql])), (ow, .inl (cI, 108000, .inl fx3)), (om, .inl (cI, 9, .inl fy3))] H := hP
          have hD : va_D A [(mo, .inr (8, [.int qc, .int (iZ (np : Int)), .ref ow, .ref om, .ref ok_, .ref oK, .ref og, .ref on_, .ref oh, .ref ox, .int qn, .int qf, .ref op_, .int ql])), (ow, .inl (cI, 108000, .inl fx3)), (om, .inl (cI, 9, .inl fy3))] := hD
          show W p l e R s m args below meth c H locs _ _ Q (F0 m 32 ls [])
          obtain ⟨v3, hv3⟩ : ∃ z, z = up vl 4 (vl b * vl 5) := ⟨_, rfl⟩
          rw [← hv3] at w3
          refine lv_aload_n hx hb d_Mo_raise_32 rfl (lv_at hl 0 rfl) ?_
          refine lv_iload_n hx hb d_Mo_raise_33 rfl (lv_at hl 1 rfl) ?_
          refine lv_iconst (v := iZ (4)) hx hb d_Mo_raise_34 (by decide +kernel) ?_
          refine cv (n := 2) (wr := []) (w1 := (fun (u : (Nat → Int32) × (Nat → Int32)) => [(mo, .inr (8, [.int qc, .int (iZ (np : Int)), .ref ow, .ref om, .ref ok_, .ref oK, .ref og, .ref on_, .ref oh, .ref ox, .int qn, .int qf, .ref op_, .int ql])), (ow, .inl (cI, 108000, .inl u.1)), (om, .inl (cI, 9, .inl u.2))])) (As := [.int (iZ (b : Int)), .int (iZ 4)]) (rest := []) K hP hD hK hS hA hl.1 (c_Mo_copyTo l D mo qc np ow om ok_ oK og on_ oh ox qn qf op_ ql fx3 fy3 cI v3 b 4 H.size w3 (by omega) (by omega) (by omega)) [0, 1, 2] [] [0] rfl rfl rfl (by decide) (by decide) (by decide) 0 rfl rfl (big_in mw_1193 rfl) (big_in mw_10 rfl) (big_in mw_1190 rfl) (big_in mw_1192 rfl) (big_in sp_22 rfl) rfl rfl (by decide +kernel) ⟨by rw [hR]; exact Nat.le_of_ble_eq_true rfl, by rw [hR]; exact Nat.le_of_ble_eq_true rfl⟩ rfl (Nat.le_of_ble_eq_true rfl) d_Mo_raise_35 ⟨by rw [hR]; exact Nat.le_of_ble_eq_true rfl, by rw [hR]; exact Nat.le_of_ble_eq_true rfl⟩ rfl (fun v u H locs hp6 hP hD hS _ => ?_)
          obtain ⟨fx4, fy4⟩ := u
          try dsimp only at hp6
          obtain ⟨rfl, w4⟩ := hp6
          have hP : va_P D cls0 [(mo, .inr (8, [.int qc, .int (iZ (np : Int)), .ref ow, .ref om, .ref ok_, .ref oK, .ref og, .ref on_, .ref oh, .ref ox, .int qn, .int qf, .ref op_, .int ql])), (ow, .inl (cI, 108000, .inl fx4)), (om, .inl (cI, 9, .inl fy4))] H := hP
          have hD : va_D A [(mo, .inr (8, [.int qc, .int (iZ (np : Int)), .ref ow, .ref om, .ref ok_, .ref oK, .ref og, .ref on_, .ref oh, .ref ox, .int qn, .int qf, .ref op_, .int ql])), (ow, .inl (cI, 108000, .inl fx4)), (om, .inl (cI, 9, .inl fy4))] := hD
          show W p l e R s m args below meth c H locs _ _ Q (F0 m 38 ls [])
          obtain ⟨v4, hv4⟩ : ∃ z, z = up v3 b (v3 4) := ⟨_, rfl⟩
          rw [← hv4] at w4
          have md1 : val b ^ (n % 2 ^ i) * val b ^ (2 ^ i) = val b ^ (n % 2 ^ (i + 1)) := by rw [← Nat.pow_add, md2, hodd, Nat.mul_one]
          have ea4 : v4 b = val b ^ (n % 2 ^ i) * val b ^ (2 ^ i) := by rw [hv4, up_s, hv3, up_s, ia, ip (by omega)]
          have e45 : v4 5 = vl 5 := by rw [hv4, up_n (by omega), hv3, up_n (by decide)]
          have eo4 : ∀ j, j < 4 → j ≠ b → v4 j = val j := fun j h1 h2 => by rw [hv4, up_n h2, hv3, up_n (by omega)]; exact io j h1 h2
          refine lv_iload_n hx hb d_Mo_raise_38 rfl (lv_at hl 3 rfl) ?_
          refine lv_iconst (v := iZ (2)) hx hb d_Mo_raise_39 (by decide +kernel) ?_
          refine zz_idiv hx hb d_Mo_raise_40 (by omega) (by omega) ?_
          refine lv_istore_n (lv' := [(3, .int (iZ ((lf : Int) / 2))), (0, .ref mo), (1, .int (iZ (b : Int))), (2, .int (iZ (n : Int)))]) hx hb d_Mo_raise_41 rfl hl (by decide) rfl (fun ls hl => ?_)
          refine lv_iload_n hx hb d_Mo_raise_42 rfl (lv_at hl 0 rfl) ?_
          refine zz_if_le (tgt := 14) hx hb d_Mo_raise_43 (by decide) (by omega) (fun c43 => ?_) (fun c43 => ?_)
          · rw [show ((lf : Int) / 2 : Int) = ((lf / 2 : Nat) : Int) by omega] at hl
            exact ih (i + 1) (lf / 2) fx4 fy4 v4 _ _ _ (by omega) w4 (by rw [il, dv2]) (by omega) (by rw [ea4, md1]) (fun z => absurd z (by omega)) eo4 (hP.sub (ws' := [(mo, .inr (8, [.int qc, .int (iZ (np : Int)), .ref ow, .ref om, .ref ok_, .ref oK, .ref og, .ref on_, .ref oh, .ref ox, .int qn, .int qf, .ref op_, .int ql])), (ow, .inl (cI, 108000, .inl fx4)), (om, .inl (cI, 9, .inl fy4))]) [0, 1, 2] rfl) (hD.sub (ws' := [(mo, .inr (8, [.int qc, .int (iZ (np : Int)), .ref ow, .ref om, .ref ok_, .ref oK, .ref og, .ref on_, .ref oh, .ref ox, .int qn, .int qf, .ref op_, .int ql])), (ow, .inl (cI, 108000, .inl fx4)), (om, .inl (cI, 9, .inl fy4))]) [0, 1, 2] (by decide) rfl) hS (lv_sub hl [1, 2, 3, 0] rfl)
          · refine lv_aload_n hx hb d_Mo_raise_46 rfl (lv_at hl 1 rfl) ?_
            refine lv_iconst (v := iZ (4)) hx hb d_Mo_raise_47 (by decide +kernel) ?_
            refine lv_iconst (v := iZ (5)) hx hb d_Mo_raise_48 (by decide +kernel) ?_
            refine lv_iconst (v := iZ (5)) hx hb d_Mo_raise_49 (by decide +kernel) ?_
            refine cv (n := 3) (wr := []) (w1 := (fun (u : (Nat → Int32) × (Nat → Int32)) => [(mo, .inr (8, [.int qc, .int (iZ (np : Int)), .ref ow, .ref om, .ref ok_, .ref oK, .ref og, .ref on_, .ref oh, .ref ox, .int qn, .int qf, .ref op_, .int ql])), (ow, .inl (cI, 108000, .inl u.1)), (om, .inl (cI, 9, .inl u.2))])) (As := [.int (iZ 4), .int (iZ 5), .int (iZ 5)]) (rest := []) K hP hD hK hS hA hl.1 (c_Mo_product l D mo qc np ow om ok_ oK og on_ oh ox qn qf op_ ql fx4 fy4 cI v4 4 5 5 H.size w4 (by decide) (by decide) (by decide) (by decide) (by decide) (by rw [e45, ip (by omega)]; exact rs_cap (dv2_le (by omega)) hcap)) [0, 1, 2] [] [0] rfl rfl rfl (by decide) (by decide) (by decide) 0 rfl rfl (big_in mw_1258 rfl) (big_in mw_10 rfl) (big_in mw_1255 rfl) (big_in mw_1257 rfl) (big_in sp_34 rfl) rfl rfl (by decide +kernel) ⟨by rw [hR]; exact Nat.le_of_ble_eq_true rfl, by rw [hR]; exact Nat.le_of_ble_eq_true rfl⟩ rfl (Nat.le_of_ble_eq_true rfl) d_Mo_raise_50 ⟨by rw [hR]; exact Nat.le_of_ble_eq_true rfl, by rw [hR]; exact Nat.le_of_ble_eq_true rfl⟩ rfl (fun v u H locs hp7 hP hD hS _ => ?_)
            obtain ⟨fx5, fy5⟩ := u
            try dsimp only at hp7
            obtain ⟨rfl, w5⟩ := hp7
            have hP : va_P D cls0 [(mo, .inr (8, [.int qc, .int (iZ (np : Int)), .ref ow, .ref om, .ref ok_, .ref oK, .ref og, .ref on_, .ref oh, .ref ox, .int qn, .int qf, .ref op_, .int ql])), (ow, .inl (cI, 108000, .inl fx5)), (om, .inl (cI, 9, .inl fy5))] H := hP
            have hD : va_D A [(mo, .inr (8, [.int qc, .int (iZ (np : Int)), .ref ow, .ref om, .ref ok_, .ref oK, .ref og, .ref on_, .ref oh, .ref ox, .int qn, .int qf, .ref op_, .int ql])), (ow, .inl (cI, 108000, .inl fx5)), (om, .inl (cI, 9, .inl fy5))] := hD
            show W p l e R s m args below meth c H locs _ _ Q (F0 m 53 ls [])
            obtain ⟨v5, hv5⟩ : ∃ z, z = up v4 4 (v4 5 * v4 5) := ⟨_, rfl⟩
            rw [← hv5] at w5
            refine lv_aload_n hx hb d_Mo_raise_53 rfl (lv_at hl 1 rfl) ?_
            refine lv_iconst (v := iZ (5)) hx hb d_Mo_raise_54 (by decide +kernel) ?_
            refine lv_iconst (v := iZ (4)) hx hb d_Mo_raise_55 (by decide +kernel) ?_
            refine cv (n := 2) (wr := []) (w1 := (fun (u : (Nat → Int32) × (Nat → Int32)) => [(mo, .inr (8, [.int qc, .int (iZ (np : Int)), .ref ow, .ref om, .ref ok_, .ref oK, .ref og, .ref on_, .ref oh, .ref ox, .int qn, .int qf, .ref op_, .int ql])), (ow, .inl (cI, 108000, .inl u.1)), (om, .inl (cI, 9, .inl u.2))])) (As := [.int (iZ 5), .int (iZ 4)]) (rest := []) K hP hD hK hS hA hl.1 (c_Mo_copyTo l D mo qc np ow om ok_ oK og on_ oh ox qn qf op_ ql fx5 fy5 cI v5 5 4 H.size w5 (by omega) (by omega) (by omega)) [0, 1, 2] [] [0] rfl rfl rfl (by decide) (by decide) (by decide) 0 rfl rfl (big_in mw_1193 rfl) (big_in mw_10 rfl) (big_in mw_1190 rfl) (big_in mw_1192 rfl) (big_in sp_22 rfl) rfl rfl (by decide +kernel) ⟨by rw [hR]; exact Nat.le_of_ble_eq_true rfl, by rw [hR]; exact Nat.le_of_ble_eq_true rfl⟩ rfl (Nat.le_of_ble_eq_true rfl) d_Mo_raise_56 ⟨by rw [hR]; exact Nat.le_of_ble_eq_true rfl, by rw [hR]; exact Nat.le_of_ble_eq_true rfl⟩ rfl (fun v u H locs hp8 hP hD hS _ => ?_)
            obtain ⟨fx6, fy6⟩ := u
            try dsimp only at hp8
            obtain ⟨rfl, w6⟩ := hp8
            have hP : va_P D cls0 [(mo, .inr (8, [.int qc, .int (iZ (np : Int)), .ref ow, .ref om, .ref ok_, .ref oK, .ref og, .ref on_, .ref oh, .ref ox, .int qn, .int qf, .ref op_, .int ql])), (ow, .inl (cI, 108000, .inl fx6)), (om, .inl (cI, 9, .inl fy6))] H := hP
            have hD : va_D A [(mo, .inr (8, [.int qc, .int (iZ (np : Int)), .ref ow, .ref om, .ref ok_, .ref oK, .ref og, .ref on_, .ref oh, .ref ox, .int qn, .int qf, .ref op_, .int ql])), (ow, .inl (cI, 108000, .inl fx6)), (om, .inl (cI, 9, .inl fy6))] := hD
            show W p l e R s m args below meth c H locs _ _ Q (F0 m 59 ls [])
            obtain ⟨v6, hv6⟩ : ∃ z, z = up v5 5 (v5 4) := ⟨_, rfl⟩
            rw [← hv6] at w6
            have ea6 : v6 b = val b ^ (n % 2 ^ i) * val b ^ (2 ^ i) := by rw [hv6, up_n (by omega), hv5, up_n (by omega)]; exact ea4
            have ep6 : v6 5 = val b ^ (2 ^ i) * val b ^ (2 ^ i) := by rw [hv6, up_s, hv5, up_s, e45, ip (by omega)]
            have eo6 : ∀ j, j < 4 → j ≠ b → v6 j = val j := fun j h1 h2 => by rw [hv6, up_n (by omega), hv5, up_n (by omega)]; exact eo4 j h1 h2
            refine lv_goto (tgt := 14) hx hb d_Mo_raise_59 (by decide) ?_
            rw [show ((lf : Int) / 2 : Int) = ((lf / 2 : Nat) : Int) by omega] at hl
            exact ih (i + 1) (lf / 2) fx6 fy6 v6 _ _ _ (by omega) w6 (by rw [il, dv2]) (by omega) (by rw [ea6, md1]) (fun _ => by rw [ep6, Nat.pow_succ, Nat.mul_two, Nat.pow_add]) eo6 (hP.sub (ws' := [(mo, .inr (8, [.int qc, .int (iZ (np : Int)), .ref ow, .ref om, .ref ok_, .ref oK, .ref og, .ref on_, .ref oh, .ref ox, .int qn, .int qf, .ref op_, .int ql])), (ow, .inl (cI, 108000, .inl fx6)), (om, .inl (cI, 9, .inl fy6))]) [0, 1, 2] rfl) (hD.sub (ws' := [(mo, .inr (8, [.int qc, .int (iZ (np : Int)), .ref ow, .ref om, .ref ok_, .ref oK, .ref og, .ref on_, .ref oh, .ref ox, .int qn, .int qf, .ref op_, .int ql])), (ow, .inl (cI, 108000, .inl fx6)), (om, .inl (cI, 9, .inl fy6))]) [0, 1, 2] (by decide) rfl) hS (lv_sub hl [1, 2, 3, 0] rfl)
  exact L14 _ 0 n fx2 fy2 v2 _ _ _ (Nat.lt_succ_self _) w2 (by rw [Nat.pow_zero, Nat.div_one]) hn (by rw [Nat.pow_zero, Nat.mod_one, Nat.pow_zero, hv2, up_s]) (fun _ => by rw [Nat.pow_zero, Nat.pow_one, hv2, up_n (by omega), hv1, up_s]) (fun j h1 h2 => by rw [hv2, up_n h2, hv1, up_n (by omega)]) (hP.sub (ws' := [(mo, .inr (8, [.int qc, .int (iZ (np : Int)), .ref ow, .ref om, .ref ok_, .ref oK, .ref og, .ref on_, .ref oh, .ref ox, .int qn, .int qf, .ref op_, .int ql])), (ow, .inl (cI, 108000, .inl fx2)), (om, .inl (cI, 9, .inl fy2))]) [0, 1, 2] rfl) (hD.sub (ws' := [(mo, .inr (8, [.int qc, .int (iZ (np : Int)), .ref ow, .ref om, .ref ok_, .ref oK, .ref og, .ref on_, .ref oh, .ref ox, .int qn, .int qf, .ref op_, .int ql])), (ow, .inl (cI, 108000, .inl fx2)), (om, .inl (cI, 9, .inl fy2))]) [0, 1, 2] (by decide) rfl) hS (lv_sub hl [1, 2, 3, 0] rfl)
