theorem nd_neq {u v : Nat} (h : nd u < nd v) : u < v := by
  apply Nat.lt_of_not_le
  intro q
  have := nd_mono q
  omega
theorem nd_eqv {u v n : Nat} (hu : nd u = n) (hv : nd v = n) (h : ∀ i, i < n → dz u i = dz v i) : u = v := by
  have := dz_ext h
  rw [md_full (by omega), md_full (by omega)] at this
  exact this
theorem aT_0 (u v : Nat) : 0 = aT u v 0 / tB 0 := by
  unfold aT
  rw [tB_0, Nat.mod_one, Nat.mod_one]
theorem sT_0 (v f : Nat) : 0 = sT v f 0 / tB 0 := by
  unfold sT
  rw [tB_0, Nat.mod_one, Nat.zero_mul]
set_option maxHeartbeats 4000000 in
set_option maxRecDepth 100000 in
/-- order(b, c) -/
theorem c_Mo_order (l : Launch) (D : va_G) (mo : Nat) (qc : Int32) (np : Nat) (ow : Nat) (om : Nat) (ok_ : Nat) (oK : Nat) (og : Nat) (on_ : Nat) (oh : Nat) (ox : Nat) (qn : Int32) (qf : Int32) (op_ : Nat) (ql : Int32) (fw : Nat → Int32) (fm : Nat → Int32) (cI : ClassId) (val : Nat → Nat) (b : Nat) (c_ : Nat) (sz : Nat) (hW : WB fw fm val) (hb9 : b < 9) (hc9 : c_ < 9) : Met l y_Mo_order (wsB y_Mo_order b_Mo_order 5 (some .int)) ({ frames := 0, cells := 0, slots := 0, locals := 0 }) (va_Pc [.ref mo, .int (iZ (b : Int)), .int (iZ (c_ : Int))] (wPre D [(cI, .int)] [(mo, .inr (8, [.int qc, .int (iZ (np : Int)), .ref ow, .ref om, .ref ok_, .ref oK, .ref og, .ref on_, .ref oh, .ref ox, .int qn, .int qf, .ref op_, .int ql])), (ow, .inl (cI, 108000, .inl fw)), (om, .inl (cI, 9, .inl fm))] sz)) (va_QV (fun (v_9 : Option Value) (u_9 : Int) => v_9 = some (.int (iZ u_9)) ∧ (u_9 = cmpZ (val b : Int) (val c_ : Int))) (fun u_9 => wPost D [(cI, .int)] [(mo, .inr (8, [.int qc, .int (iZ (np : Int)), .ref ow, .ref om, .ref ok_, .ref oK, .ref og, .ref on_, .ref oh, .ref ox, .int qn, .int qf, .ref op_, .int ql])), (ow, .inl (cI, 108000, .inl fw)), (om, .inl (cI, 9, .inl fm))] [(mo, .inr (8, [.int qc, .int (iZ (np : Int)), .ref ow, .ref om, .ref ok_, .ref oK, .ref og, .ref on_, .ref oh, .ref ox, .int qn, .int qf, .ref op_, .int ql])), (ow, .inl (cI, 108000, .inl fw)), (om, .inl (cI, 9, .inl fm))] sz) (va_A [(mo, .inr (8, [.int qc, .int (iZ (np : Int)), .ref ow, .ref om, .ref ok_, .ref oK, .ref og, .ref on_, .ref oh, .ref ox, .int qn, .int qf, .ref op_, .int ql])), (ow, .inl (cI, 108000, .inl fw)), (om, .inl (cI, 9, .inl fm))] sz)) 0 0 (va_A [(mo, .inr (8, [.int qc, .int (iZ (np : Int)), .ref ow, .ref om, .ref ok_, .ref oK, .ref og, .ref on_, .ref oh, .ref ox, .int qn, .int qf, .ref op_, .int ql])), (ow, .inl (cI, 108000, .inl fw)), (om, .inl (cI, 9, .inl fm))] sz) := by
  refine met_enter (by decide +kernel) (Nat.le_of_ble_eq_true rfl) ?_
  intro p e s m args below meth c ls A R Q H locs K hin hAe hA hR hQ hP hK hD hS hl
  obtain ⟨hx, hb, hml, hrt, hlk, hts, hown, hno⟩ := id K
  have hl : lv_has ls 5 [(0, .ref mo), (1, .int (iZ (b : Int))), (2, .int (iZ (c_ : Int)))] := hl
  have hn9 := hW.n hc9
  have hn8 := hW.n hb9
  refine lv_aload_n hx hb d_Mo_order_0 rfl (lv_at hl 0 rfl) ?_
  refine va_get (D := D) (ci := 8) (v := .ref om) (C := R_Mo) (T := F_Mo) (N := 14) hx hb hts i_Mo hown hK hP 0 rfl rfl 3 (by decide) (hts _ (big_in mw_1118 rfl)) (fun _ h9 => h9) rfl d_Mo_order_1 ?_
  refine lv_iload_n hx hb d_Mo_order_4 rfl (lv_at hl 1 rfl) ?_
  refine zz_iald hx hb hK hP 2 0 rfl rfl (b) (by omega) (by omega) (by omega) d_Mo_order_5 ?_
  rw [hW.m hb9]
  refine lv_aload_n hx hb d_Mo_order_6 rfl (lv_at hl 0 rfl) ?_
  refine va_get (D := D) (ci := 8) (v := .ref om) (C := R_Mo) (T := F_Mo) (N := 14) hx hb hts i_Mo hown hK hP 0 rfl rfl 3 (by decide) (hts _ (big_in mw_1118 rfl)) (fun _ h9 => h9) rfl d_Mo_order_7 ?_
  refine lv_iload_n hx hb d_Mo_order_10 rfl (lv_at hl 2 rfl) ?_
  refine zz_iald hx hb hK hP 2 0 rfl rfl (c_) (by omega) (by omega) (by omega) d_Mo_order_11 ?_
  rw [hW.m hc9]
  refine zz_icmp_eq (tgt := 36) hx hb d_Mo_order_12 (by decide) (by omega) (by omega) (fun c12 => ?_) (fun c12 => ?_)
  · have hq : nd (val b) = nd (val c_) := by omega
    refine lv_aload_n hx hb d_Mo_order_36 rfl (lv_at hl 0 rfl) ?_
    refine va_get (D := D) (ci := 8) (v := .ref om) (C := R_Mo) (T := F_Mo) (N := 14) hx hb hts i_Mo hown hK hP 0 rfl rfl 3 (by decide) (hts _ (big_in mw_1118 rfl)) (fun _ h9 => h9) rfl d_Mo_order_37 ?_
    refine lv_iload_n hx hb d_Mo_order_40 rfl (lv_at hl 1 rfl) ?_
    refine zz_iald hx hb hK hP 2 0 rfl rfl (b) (by omega) (by omega) (by omega) d_Mo_order_41 ?_
    rw [hW.m hb9]
    refine lv_iconst (v := iZ (1)) hx hb d_Mo_order_42 (by decide +kernel) ?_
    refine zz_isub hx hb d_Mo_order_43 ?_
    refine lv_istore_n (lv' := [(3, .int (iZ ((nd (val b) : Int) - 1))), (0, .ref mo), (1, .int (iZ (b : Int))), (2, .int (iZ (c_ : Int)))]) hx hb d_Mo_order_44 rfl hl (by decide) rfl (fun ls hl => ?_)
    have L45 : ∀ (N : Nat) (k : Nat) (H : Heap) (locs : List Loc) (ls : Array Slot), k < N → (k ≤ nd (val b)) → (∀ i, k ≤ i → i < nd (val b) → dz (val b) i = dz (val c_) i) → va_P D cls0 [(mo, .inr (8, [.int qc, .int (iZ (np : Int)), .ref ow, .ref om, .ref ok_, .ref oK, .ref og, .ref on_, .ref oh, .ref ox, .int qn, .int qf, .ref op_, .int ql])), (ow, .inl (cI, 108000, .inl fw)), (om, .inl (cI, 9, .inl fm))] H → va_D A [(mo, .inr (8, [.int qc, .int (iZ (np : Int)), .ref ow, .ref om, .ref ok_, .ref oK, .ref og, .ref on_, .ref oh, .ref ox, .int qn, .int qf, .ref op_, .int ql])), (ow, .inl (cI, 108000, .inl fw)), (om, .inl (cI, 9, .inl fm))] → va_S A s.heap H locs → lv_has ls 5 [(0, .ref mo), (1, .int (iZ (b : Int))), (2, .int (iZ (c_ : Int))), (3, .int (iZ ((k : Int) - 1)))] → W p l e R s m args below meth c H locs 0 0 Q (F0 m 45 ls []) := by
      intro N
      induction N with
      | zero => intro k H locs ls hN; exact absurd hN (Nat.not_lt_zero _)
      | succ N ih =>
        intro k H locs ls hN ik ie hP hD hS hl
        refine lv_iload_n hx hb d_Mo_order_45 rfl (lv_at hl 3 rfl) ?_
        refine zz_if_lt (tgt := 98) hx hb d_Mo_order_46 (by decide) (by omega) (fun c46 => ?_) (fun c46 => ?_)
        · refine lv_iconst (v := iZ (0)) hx hb d_Mo_order_98 (by decide +kernel) ?_
          have hP9 : va_P D cls0 [(mo, .inr (8, [.int qc, .int (iZ (np : Int)), .ref ow, .ref om, .ref ok_, .ref oK, .ref og, .ref on_, .ref oh, .ref ox, .int qn, .int qf, .ref op_, .int ql])), (ow, .inl (cI, 108000, .inl fw)), (om, .inl (cI, 9, .inl fm))] H := hP.sub [0, 1, 2] rfl
          have hD9 : va_D A [(mo, .inr (8, [.int qc, .int (iZ (np : Int)), .ref ow, .ref om, .ref ok_, .ref oK, .ref og, .ref on_, .ref oh, .ref ox, .int qn, .int qf, .ref op_, .int ql])), (ow, .inl (cI, 108000, .inl fw)), (om, .inl (cI, 9, .inl fm))] := hD.sub [0, 1, 2] (by decide) rfl
          rw [hQ, ← hAe]
          refine r_i (v := (iZ 0)) K 0 hS d_Mo_order_99 ?_ (fun t ht hv => ?_)
          · refine ⟨rfl, ?_⟩
            have q := nd_eqv (u := val b) (v := val c_) (n := nd (val b)) rfl hq.symm (fun i hi => ie i (by omega) hi)
            unfold cmpZ
            rw [if_neg (by omega), if_pos (by omega)]
          · exact ⟨by rw [ht]; exact hP9, va_K.moved hv hK, by rw [← hAe]; exact hD9⟩
        · have b1 := dz_lt (val b) (k - 1)
          have b2 := dz_lt (val c_) (k - 1)
          refine lv_aload_n hx hb d_Mo_order_49 rfl (lv_at hl 0 rfl) ?_
          refine va_get (D := D) (ci := 8) (v := .ref ow) (C := R_Mo) (T := F_Mo) (N := 14) hx hb hts i_Mo hown hK hP 0 rfl rfl 2 (by decide) (hts _ (big_in mw_1117 rfl)) (fun _ h9 => h9) rfl d_Mo_order_50 ?_
          refine lv_sipush (v := iZ (12000)) hx hb d_Mo_order_53 (by decide +kernel) ?_
          refine lv_iload_n hx hb d_Mo_order_56 rfl (lv_at hl 1 rfl) ?_
          refine zz_imul hx hb d_Mo_order_57 ?_
          refine lv_iload_n hx hb d_Mo_order_58 rfl (lv_at hl 3 rfl) ?_
          refine zz_iadd hx hb d_Mo_order_59 ?_
          refine zz_iald hx hb hK hP 1 0 rfl rfl (12000 * b + (k - 1)) (by omega) (by omega) (by omega) d_Mo_order_60 ?_
          rw [hW.d hb9 (by omega)]
          refine lv_aload_n hx hb d_Mo_order_61 rfl (lv_at hl 0 rfl) ?_
          refine va_get (D := D) (ci := 8) (v := .ref ow) (C := R_Mo) (T := F_Mo) (N := 14) hx hb hts i_Mo hown hK hP 0 rfl rfl 2 (by decide) (hts _ (big_in mw_1117 rfl)) (fun _ h9 => h9) rfl d_Mo_order_62 ?_
          refine lv_sipush (v := iZ (12000)) hx hb d_Mo_order_65 (by decide +kernel) ?_
          refine lv_iload_n hx hb d_Mo_order_68 rfl (lv_at hl 2 rfl) ?_
          refine zz_imul hx hb d_Mo_order_69 ?_
          refine lv_iload_n hx hb d_Mo_order_70 rfl (lv_at hl 3 rfl) ?_
          refine zz_iadd hx hb d_Mo_order_71 ?_
          refine zz_iald hx hb hK hP 1 0 rfl rfl (12000 * c_ + (k - 1)) (by omega) (by omega) (by omega) d_Mo_order_72 ?_
          rw [hW.d hc9 (by omega)]
          refine zz_isub hx hb d_Mo_order_73 ?_
          refine lv_istore (lv' := [(4, .int (iZ ((dz (val b) (k - 1) : Int) - (dz (val c_) (k - 1) : Int)))), (0, .ref mo), (1, .int (iZ (b : Int))), (2, .int (iZ (c_ : Int))), (3, .int (iZ ((k : Int) - 1)))]) hx hb d_Mo_order_74 hl (by decide) rfl (fun ls hl => ?_)
          refine lv_iload hx hb d_Mo_order_76 (lv_at hl 0 rfl) ?_
          refine zz_if_eq (tgt := 92) hx hb d_Mo_order_78 (by decide) (by omega) (fun c78 => ?_) (fun c78 => ?_)
          · refine lv_iinc (v := iZ ((k : Int) - 1 - 1)) (lv' := [(3, .int (iZ ((k : Int) - 1 - 1))), (4, .int (iZ ((dz (val b) (k - 1) : Int) - (dz (val c_) (k - 1) : Int)))), (0, .ref mo), (1, .int (iZ (b : Int))), (2, .int (iZ (c_ : Int)))]) hx hb d_Mo_order_92 hl (k := 4) rfl (iZ_add _ _) (by decide) rfl (fun ls hl => ?_)
            refine lv_goto (tgt := 45) hx hb d_Mo_order_95 (by decide) ?_
            rw [show ((k : Int) - 1 - 1 : Int) = ((k - 1 : Nat) : Int) - 1 by omega] at hl
            exact ih (k - 1) _ _ _ (by omega) (by omega) (fun i h1 h2 => by rcases Nat.lt_or_ge i k with q | q; (have e : i = k - 1 := by omega); (rw [e]; omega); exact ie i q h2) (hP.sub (ws' := [(mo, .inr (8, [.int qc, .int (iZ (np : Int)), .ref ow, .ref om, .ref ok_, .ref oK, .ref og, .ref on_, .ref oh, .ref ox, .int qn, .int qf, .ref op_, .int ql])), (ow, .inl (cI, 108000, .inl fw)), (om, .inl (cI, 9, .inl fm))]) [0, 1, 2] rfl) (hD.sub (ws' := [(mo, .inr (8, [.int qc, .int (iZ (np : Int)), .ref ow, .ref om, .ref ok_, .ref oK, .ref og, .ref on_, .ref oh, .ref ox, .int qn, .int qf, .ref op_, .int ql])), (ow, .inl (cI, 108000, .inl fw)), (om, .inl (cI, 9, .inl fm))]) [0, 1, 2] (by decide) rfl) hS (lv_sub hl [2, 3, 4, 0] rfl)
          · refine lv_iload hx hb d_Mo_order_81 (lv_at hl 0 rfl) ?_
            refine zz_if_ge (tgt := 90) hx hb d_Mo_order_83 (by decide) (by omega) (fun c83 => ?_) (fun c83 => ?_)
            · refine lv_iconst (v := iZ (1)) hx hb d_Mo_order_90 (by decide +kernel) ?_
              have hP9 : va_P D cls0 [(mo, .inr (8, [.int qc, .int (iZ (np : Int)), .ref ow, .ref om, .ref ok_, .ref oK, .ref og, .ref on_, .ref oh, .ref ox, .int qn, .int qf, .ref op_, .int ql])), (ow, .inl (cI, 108000, .inl fw)), (om, .inl (cI, 9, .inl fm))] H := hP.sub [0, 1, 2] rfl
              have hD9 : va_D A [(mo, .inr (8, [.int qc, .int (iZ (np : Int)), .ref ow, .ref om, .ref ok_, .ref oK, .ref og, .ref on_, .ref oh, .ref ox, .int qn, .int qf, .ref op_, .int ql])), (ow, .inl (cI, 108000, .inl fw)), (om, .inl (cI, 9, .inl fm))] := hD.sub [0, 1, 2] (by decide) rfl
              rw [hQ, ← hAe]
              refine r_i (v := (iZ 1)) K 1 hS d_Mo_order_91 ?_ (fun t ht hv => ?_)
              · refine ⟨rfl, ?_⟩
                unfold cmpZ
                first | (have q := dz_less (u := val b) (v := val c_) (k := k - 1) (n := nd (val b)) (by omega) (nd_self _) (by rw [hq]; exact nd_self _) (fun i h1 h2 => ie i (by omega) h2) (by omega); rw [if_pos (by omega)]) | (have q := dz_less (u := val c_) (v := val b) (k := k - 1) (n := nd (val b)) (by omega) (by rw [hq]; exact nd_self _) (nd_self _) (fun i h1 h2 => (ie i (by omega) h2).symm) (by omega); rw [if_neg (by omega), if_neg (by omega)])
              · exact ⟨by rw [ht]; exact hP9, va_K.moved hv hK, by rw [← hAe]; exact hD9⟩
            · refine lv_iconst (v := iZ (-1)) hx hb d_Mo_order_86 (by decide +kernel) ?_
              refine lv_goto (tgt := 91) hx hb d_Mo_order_87 (by decide) ?_
              have hP9 : va_P D cls0 [(mo, .inr (8, [.int qc, .int (iZ (np : Int)), .ref ow, .ref om, .ref ok_, .ref oK, .ref og, .ref on_, .ref oh, .ref ox, .int qn, .int qf, .ref op_, .int ql])), (ow, .inl (cI, 108000, .inl fw)), (om, .inl (cI, 9, .inl fm))] H := hP.sub [0, 1, 2] rfl
              have hD9 : va_D A [(mo, .inr (8, [.int qc, .int (iZ (np : Int)), .ref ow, .ref om, .ref ok_, .ref oK, .ref og, .ref on_, .ref oh, .ref ox, .int qn, .int qf, .ref op_, .int ql])), (ow, .inl (cI, 108000, .inl fw)), (om, .inl (cI, 9, .inl fm))] := hD.sub [0, 1, 2] (by decide) rfl
              rw [hQ, ← hAe]
              refine r_i (v := (iZ (-1))) K (-1) hS d_Mo_order_91 ?_ (fun t ht hv => ?_)
              · refine ⟨rfl, ?_⟩
                unfold cmpZ
                first | (have q := dz_less (u := val b) (v := val c_) (k := k - 1) (n := nd (val b)) (by omega) (nd_self _) (by rw [hq]; exact nd_self _) (fun i h1 h2 => ie i (by omega) h2) (by omega); rw [if_pos (by omega)]) | (have q := dz_less (u := val c_) (v := val b) (k := k - 1) (n := nd (val b)) (by omega) (by rw [hq]; exact nd_self _) (nd_self _) (fun i h1 h2 => (ie i (by omega) h2).symm) (by omega); rw [if_neg (by omega), if_neg (by omega)])
              · exact ⟨by rw [ht]; exact hP9, va_K.moved hv hK, by rw [← hAe]; exact hD9⟩
    rw [show ((nd (val b) : Int) - 1 : Int) = ((nd (val b) : Nat) : Int) - 1 by omega] at hl
    exact L45 _ (nd (val b)) _ _ _ (Nat.lt_succ_self _) (Nat.le_refl _) (fun i h1 h2 => absurd h1 (by omega)) (hP.sub (ws' := [(mo, .inr (8, [.int qc, .int (iZ (np : Int)), .ref ow, .ref om, .ref ok_, .ref oK, .ref og, .ref on_, .ref oh, .ref ox, .int qn, .int qf, .ref op_, .int ql])), (ow, .inl (cI, 108000, .inl fw)), (om, .inl (cI, 9, .inl fm))]) [0, 1, 2] rfl) (hD.sub (ws' := [(mo, .inr (8, [.int qc, .int (iZ (np : Int)), .ref ow, .ref om, .ref ok_, .ref oK, .ref og, .ref on_, .ref oh, .ref ox, .int qn, .int qf, .ref op_, .int ql])), (ow, .inl (cI, 108000, .inl fw)), (om, .inl (cI, 9, .inl fm))]) [0, 1, 2] (by decide) rfl) hS (lv_sub hl [1, 2, 3, 0] rfl)
  · refine lv_aload_n hx hb d_Mo_order_15 rfl (lv_at hl 0 rfl) ?_
    refine va_get (D := D) (ci := 8) (v := .ref om) (C := R_Mo) (T := F_Mo) (N := 14) hx hb hts i_Mo hown hK hP 0 rfl rfl 3 (by decide) (hts _ (big_in mw_1118 rfl)) (fun _ h9 => h9) rfl d_Mo_order_16 ?_
    refine lv_iload_n hx hb d_Mo_order_19 rfl (lv_at hl 1 rfl) ?_
    refine zz_iald hx hb hK hP 2 0 rfl rfl (b) (by omega) (by omega) (by omega) d_Mo_order_20 ?_
    rw [hW.m hb9]
    refine lv_aload_n hx hb d_Mo_order_21 rfl (lv_at hl 0 rfl) ?_
    refine va_get (D := D) (ci := 8) (v := .ref om) (C := R_Mo) (T := F_Mo) (N := 14) hx hb hts i_Mo hown hK hP 0 rfl rfl 3 (by decide) (hts _ (big_in mw_1118 rfl)) (fun _ h9 => h9) rfl d_Mo_order_22 ?_
    refine lv_iload_n hx hb d_Mo_order_25 rfl (lv_at hl 2 rfl) ?_
    refine zz_iald hx hb hK hP 2 0 rfl rfl (c_) (by omega) (by omega) (by omega) d_Mo_order_26 ?_
    rw [hW.m hc9]
    refine zz_icmp_ge (tgt := 34) hx hb d_Mo_order_27 (by decide) (by omega) (by omega) (fun c27 => ?_) (fun c27 => ?_)
    · refine lv_iconst (v := iZ (1)) hx hb d_Mo_order_34 (by decide +kernel) ?_
      have hP9 : va_P D cls0 [(mo, .inr (8, [.int qc, .int (iZ (np : Int)), .ref ow, .ref om, .ref ok_, .ref oK, .ref og, .ref on_, .ref oh, .ref ox, .int qn, .int qf, .ref op_, .int ql])), (ow, .inl (cI, 108000, .inl fw)), (om, .inl (cI, 9, .inl fm))] H := hP.sub [0, 1, 2] rfl
      have hD9 : va_D A [(mo, .inr (8, [.int qc, .int (iZ (np : Int)), .ref ow, .ref om, .ref ok_, .ref oK, .ref og, .ref on_, .ref oh, .ref ox, .int qn, .int qf, .ref op_, .int ql])), (ow, .inl (cI, 108000, .inl fw)), (om, .inl (cI, 9, .inl fm))] := hD.sub [0, 1, 2] (by decide) rfl
      rw [hQ, ← hAe]
      refine r_i (v := (iZ 1)) K 1 hS d_Mo_order_35 ?_ (fun t ht hv => ?_)
      · refine ⟨rfl, ?_⟩
        unfold cmpZ
        first | (have q := nd_neq (u := val b) (v := val c_) (by omega); rw [if_pos (by omega)]) | (have q := nd_neq (u := val c_) (v := val b) (by omega); rw [if_neg (by omega), if_neg (by omega)])
      · exact ⟨by rw [ht]; exact hP9, va_K.moved hv hK, by rw [← hAe]; exact hD9⟩
    · refine lv_iconst (v := iZ (-1)) hx hb d_Mo_order_30 (by decide +kernel) ?_
      refine lv_goto (tgt := 35) hx hb d_Mo_order_31 (by decide) ?_
      have hP9 : va_P D cls0 [(mo, .inr (8, [.int qc, .int (iZ (np : Int)), .ref ow, .ref om, .ref ok_, .ref oK, .ref og, .ref on_, .ref oh, .ref ox, .int qn, .int qf, .ref op_, .int ql])), (ow, .inl (cI, 108000, .inl fw)), (om, .inl (cI, 9, .inl fm))] H := hP.sub [0, 1, 2] rfl
      have hD9 : va_D A [(mo, .inr (8, [.int qc, .int (iZ (np : Int)), .ref ow, .ref om, .ref ok_, .ref oK, .ref og, .ref on_, .ref oh, .ref ox, .int qn, .int qf, .ref op_, .int ql])), (ow, .inl (cI, 108000, .inl fw)), (om, .inl (cI, 9, .inl fm))] := hD.sub [0, 1, 2] (by decide) rfl
      rw [hQ, ← hAe]
      refine r_i (v := (iZ (-1))) K (-1) hS d_Mo_order_35 ?_ (fun t ht hv => ?_)
      · refine ⟨rfl, ?_⟩
        unfold cmpZ
        first | (have q := nd_neq (u := val b) (v := val c_) (by omega); rw [if_pos (by omega)]) | (have q := nd_neq (u := val c_) (v := val b) (by omega); rw [if_neg (by omega), if_neg (by omega)])
      · exact ⟨by rw [ht]; exact hP9, va_K.moved hv hK, by rw [← hAe]; exact hD9⟩
set_option maxHeartbeats 4000000 in
set_option maxRecDepth 100000 in
/-- addTo(b, c) -/
theorem c_Mo_addTo (l : Launch) (D : va_G) (mo : Nat) (qc : Int32) (np : Nat) (ow : Nat) (om : Nat) (ok_ : Nat) (oK : Nat) (og : Nat) (on_ : Nat) (oh : Nat) (ox : Nat) (qn : Int32) (qf : Int32) (op_ : Nat) (ql : Int32) (fw : Nat → Int32) (fm : Nat → Int32) (cI : ClassId) (val : Nat → Nat) (b : Nat) (c_ : Nat) (sz : Nat) (hW : WB fw fm val) (hb9 : b < 9) (hc9 : c_ < 9) (hbc : b ≠ c_) (hcap : nd (val b) < 12000) (hcap2 : nd (val c_) < 12000) : Met l y_Mo_addTo (wsB y_Mo_addTo b_Mo_addTo 7 none) ({ frames := 1, cells := 0, slots := 0, locals := 23 }) (va_Pc [.ref mo, .int (iZ (b : Int)), .int (iZ (c_ : Int))] (wPre D [(cI, .int)] [(mo, .inr (8, [.int qc, .int (iZ (np : Int)), .ref ow, .ref om, .ref ok_, .ref oK, .ref og, .ref on_, .ref oh, .ref ox, .int qn, .int qf, .ref op_, .int ql])), (ow, .inl (cI, 108000, .inl fw)), (om, .inl (cI, 9, .inl fm))] sz)) (va_QV (fun (v_9 : Option Value) (u_9 : (Nat → Int32) × (Nat → Int32)) => v_9 = none ∧ (WB u_9.1 u_9.2 (up val b (val b + val c_)))) (fun u_9 => wPost D [(cI, .int)] [(mo, .inr (8, [.int qc, .int (iZ (np : Int)), .ref ow, .ref om, .ref ok_, .ref oK, .ref og, .ref on_, .ref oh, .ref ox, .int qn, .int qf, .ref op_, .int ql])), (ow, .inl (cI, 108000, .inl fw)), (om, .inl (cI, 9, .inl fm))] [(mo, .inr (8, [.int qc, .int (iZ (np : Int)), .ref ow, .ref om, .ref ok_, .ref oK, .ref og, .ref on_, .ref oh, .ref ox, .int qn, .int qf, .ref op_, .int ql])), (ow, .inl (cI, 108000, .inl u_9.1)), (om, .inl (cI, 9, .inl u_9.2))] sz) (va_A [(mo, .inr (8, [.int qc, .int (iZ (np : Int)), .ref ow, .ref om, .ref ok_, .ref oK, .ref og, .ref on_, .ref oh, .ref ox, .int qn, .int qf, .ref op_, .int ql])), (ow, .inl (cI, 108000, .inl fw)), (om, .inl (cI, 9, .inl fm))] sz)) 0 0 (va_A [(mo, .inr (8, [.int qc, .int (iZ (np : Int)), .ref ow, .ref om, .ref ok_, .ref oK, .ref og, .ref on_, .ref oh, .ref ox, .int qn, .int qf, .ref op_, .int ql])), (ow, .inl (cI, 108000, .inl fw)), (om, .inl (cI, 9, .inl fm))] sz) := by
  refine met_enter (by decide +kernel) (Nat.le_of_ble_eq_true rfl) ?_
  intro p e s m args below meth c ls A R Q H locs K hin hAe hA hR hQ hP hK hD hS hl
  obtain ⟨hx, hb, hml, hrt, hlk, hts, hown, hno⟩ := id K
  have hl : lv_has ls 7 [(0, .ref mo), (1, .int (iZ (b : Int))), (2, .int (iZ (c_ : Int)))] := hl
  have hn9 := hW.n hc9
  have hn8 := hW.n hb9
  have L37 : ∀ (N : Nat) (k : Nat) (n_ : Nat) (cy : Nat) (H : Heap) (locs : List Loc) (ls : Array Slot), n_ - k < N → (k ≤ n_) → (nd (val b) ≤ n_) → (nd (val c_) ≤ n_) → (n_ < 12000) → (cy = aT (val b) (val c_) k / tB k) → va_P D cls0 [(mo, .inr (8, [.int qc, .int (iZ (np : Int)), .ref ow, .ref om, .ref ok_, .ref oK, .ref og, .ref on_, .ref oh, .ref ox, .int qn, .int qf, .ref op_, .int ql])), (ow, .inl (cI, 108000, .inl (ovr fw b k (val b + val c_)))), (om, .inl (cI, 9, .inl fm))] H → va_D A [(mo, .inr (8, [.int qc, .int (iZ (np : Int)), .ref ow, .ref om, .ref ok_, .ref oK, .ref og, .ref on_, .ref oh, .ref ox, .int qn, .int qf, .ref op_, .int ql])), (ow, .inl (cI, 108000, .inl (ovr fw b k (val b + val c_)))), (om, .inl (cI, 9, .inl fm))] → va_S A s.heap H locs → lv_has ls 7 [(0, .ref mo), (1, .int (iZ (b : Int))), (2, .int (iZ (c_ : Int))), (3, .int (iZ (n_ : Int))), (4, .int (iZ (cy : Int))), (5, .int (iZ (k : Int)))] → W p l e R s m args below meth c H locs 0 0 Q (F0 m 37 ls []) := by
    intro N
    induction N with
    | zero => intro k n_ cy H locs ls hN; exact absurd hN (Nat.not_lt_zero _)
    | succ N ih =>
      intro k n_ cy H locs ls hN ik in1 in2 in3 icy hP hD hS hl
      refine lv_iload hx hb d_Mo_addTo_37 (lv_at hl 5 rfl) ?_
      refine lv_iload_n hx hb d_Mo_addTo_39 rfl (lv_at hl 3 rfl) ?_
      refine zz_icmp_ge (tgt := 96) hx hb d_Mo_addTo_40 (by decide) (by omega) (by omega) (fun c40 => ?_) (fun c40 => ?_)
      · have ek : k = n_ := by omega
        subst ek
        refine lv_aload_n hx hb d_Mo_addTo_96 rfl (lv_at hl 0 rfl) ?_
        refine va_get (D := D) (ci := 8) (v := .ref ow) (C := R_Mo) (T := F_Mo) (N := 14) hx hb hts i_Mo hown hK hP 0 rfl rfl 2 (by decide) (hts _ (big_in mw_1117 rfl)) (fun _ h9 => h9) rfl d_Mo_addTo_97 ?_
        refine lv_sipush (v := iZ (12000)) hx hb d_Mo_addTo_100 (by decide +kernel) ?_
        refine lv_iload_n hx hb d_Mo_addTo_103 rfl (lv_at hl 1 rfl) ?_
        refine zz_imul hx hb d_Mo_addTo_104 ?_
        refine lv_iload_n hx hb d_Mo_addTo_105 rfl (lv_at hl 3 rfl) ?_
        refine zz_iadd hx hb d_Mo_addTo_106 ?_
        refine lv_iload hx hb d_Mo_addTo_107 (lv_at hl 4 rfl) ?_
        refine zz_iast hx hb hK hP hD hS 1 0 rfl rfl (12000 * b + k) (by omega) (by omega) (by omega) d_Mo_addTo_109 (fun H locs hP hD hS => ?_)
        have hP : va_P D cls0 [(mo, .inr (8, [.int qc, .int (iZ (np : Int)), .ref ow, .ref om, .ref ok_, .ref oK, .ref og, .ref on_, .ref oh, .ref ox, .int qn, .int qf, .ref op_, .int ql])), (ow, .inl (cI, 108000, .inl (upd (ovr fw b k (val b + val c_)) (12000 * b + k) (iZ (cy : Int))))), (om, .inl (cI, 9, .inl fm))] H := hP
        have hD : va_D A [(mo, .inr (8, [.int qc, .int (iZ (np : Int)), .ref ow, .ref om, .ref ok_, .ref oK, .ref og, .ref on_, .ref oh, .ref ox, .int qn, .int qf, .ref op_, .int ql])), (ow, .inl (cI, 108000, .inl (upd (ovr fw b k (val b + val c_)) (12000 * b + k) (iZ (cy : Int))))), (om, .inl (cI, 9, .inl fm))] := hD
        rw [ovr_s (by rw [icy, aT_end in1 in2])] at hP hD
        refine lv_aload_n hx hb d_Mo_addTo_110 rfl (lv_at hl 0 rfl) ?_
        refine lv_iload_n hx hb d_Mo_addTo_111 rfl (lv_at hl 1 rfl) ?_
        refine lv_iload_n hx hb d_Mo_addTo_112 rfl (lv_at hl 3 rfl) ?_
        refine lv_iconst (v := iZ (1)) hx hb d_Mo_addTo_113 (by decide +kernel) ?_
        refine zz_iadd hx hb d_Mo_addTo_114 ?_
        rw [show ((k : Int) + 1 : Int) = ((k + 1 : Nat) : Int) by omega]
        refine cv (n := 2) (wr := []) (w1 := (fun (u : Unit) => [(mo, .inr (8, [.int qc, .int (iZ (np : Int)), .ref ow, .ref om, .ref ok_, .ref oK, .ref og, .ref on_, .ref oh, .ref ox, .int qn, .int qf, .ref op_, .int ql])), (ow, .inl (cI, 108000, .inl (ovr fw b (k + 1) (val b + val c_)))), (om, .inl (cI, 9, .inl (upd fm b (iZ (nd (val b + val c_) : Int)))))])) (As := [.int (iZ (b : Int)), .int (iZ ((k + 1 : Nat) : Int))]) (rest := []) K hP hD hK hS hA hl.1 (c_Mo_trim l D mo qc np ow om ok_ oK og on_ oh ox qn qf op_ ql (ovr fw b (k + 1) (val b + val c_)) fm cI b (k + 1) (val b + val c_) H.size hb9 (by omega) (by have q := nd_add (val b) (val c_); omega) (fun i hi => ovr_in hi)) [0, 1, 2] [] [0] rfl rfl rfl (by decide) (by decide) (by decide) 0 rfl rfl (big_in mw_1211 rfl) (big_in mw_10 rfl) (big_in mw_1208 rfl) (big_in mw_1210 rfl) (big_in sp_26 rfl) rfl rfl (by decide +kernel) ⟨by rw [hR]; exact Nat.le_of_ble_eq_true rfl, by rw [hR]; exact Nat.le_of_ble_eq_true rfl⟩ rfl (Nat.le_of_ble_eq_true rfl) d_Mo_addTo_115 ⟨by rw [hR]; exact Nat.le_of_ble_eq_true rfl, by rw [hR]; exact Nat.le_of_ble_eq_true rfl⟩ rfl (fun v u H locs hp1 hP hD hS _ => ?_)
        obtain rfl := hp1
        have hP : va_P D cls0 [(mo, .inr (8, [.int qc, .int (iZ (np : Int)), .ref ow, .ref om, .ref ok_, .ref oK, .ref og, .ref on_, .ref oh, .ref ox, .int qn, .int qf, .ref op_, .int ql])), (ow, .inl (cI, 108000, .inl (ovr fw b (k + 1) (val b + val c_)))), (om, .inl (cI, 9, .inl (upd fm b (iZ (nd (val b + val c_) : Int)))))] H := hP
        have hD : va_D A [(mo, .inr (8, [.int qc, .int (iZ (np : Int)), .ref ow, .ref om, .ref ok_, .ref oK, .ref og, .ref on_, .ref oh, .ref ox, .int qn, .int qf, .ref op_, .int ql])), (ow, .inl (cI, 108000, .inl (ovr fw b (k + 1) (val b + val c_)))), (om, .inl (cI, 9, .inl (upd fm b (iZ (nd (val b + val c_) : Int)))))] := hD
        show W p l e R s m args below meth c H locs _ _ Q (F0 m 118 ls [])
        have hP9 : va_P D cls0 [(mo, .inr (8, [.int qc, .int (iZ (np : Int)), .ref ow, .ref om, .ref ok_, .ref oK, .ref og, .ref on_, .ref oh, .ref ox, .int qn, .int qf, .ref op_, .int ql])), (ow, .inl (cI, 108000, .inl (ovr fw b (k + 1) (val b + val c_)))), (om, .inl (cI, 9, .inl (upd fm b (iZ (nd (val b + val c_) : Int)))))] H := hP.sub [0, 1, 2] rfl
        have hD9 : va_D A [(mo, .inr (8, [.int qc, .int (iZ (np : Int)), .ref ow, .ref om, .ref ok_, .ref oK, .ref og, .ref on_, .ref oh, .ref ox, .int qn, .int qf, .ref op_, .int ql])), (ow, .inl (cI, 108000, .inl (ovr fw b (k + 1) (val b + val c_)))), (om, .inl (cI, 9, .inl (upd fm b (iZ (nd (val b + val c_) : Int)))))] := hD.sub [0, 1, 2] (by decide) rfl
        rw [hQ, ← hAe]
        refine r_v K ((ovr fw b (k + 1) (val b + val c_)), upd fm b (iZ (nd (val b + val c_) : Int))) hS d_Mo_addTo_118 ?_ (fun t ht hv => ?_)
        · try dsimp only
          exact ⟨rfl, hW.set (by have q := nd_add (val b) (val c_); omega) (by omega) rfl⟩
        · exact ⟨by rw [ht]; exact hP9, va_K.moved hv hK, by rw [← hAe]; exact hD9⟩
      · have b1 := dz_lt (val b) k
        have b2 := dz_lt (val c_) k
        have b3 := aT_lt (val b) (val c_) k
        rw [← icy] at b3
        refine lv_aload_n hx hb d_Mo_addTo_43 rfl (lv_at hl 0 rfl) ?_
        refine lv_iload_n hx hb d_Mo_addTo_44 rfl (lv_at hl 1 rfl) ?_
        refine lv_iload hx hb d_Mo_addTo_45 (lv_at hl 5 rfl) ?_
        refine cv (n := 2) (wr := []) (w1 := (fun (u : Nat) => [(mo, .inr (8, [.int qc, .int (iZ (np : Int)), .ref ow, .ref om, .ref ok_, .ref oK, .ref og, .ref on_, .ref oh, .ref ox, .int qn, .int qf, .ref op_, .int ql])), (ow, .inl (cI, 108000, .inl (ovr fw b k (val b + val c_)))), (om, .inl (cI, 9, .inl fm))])) (As := [.int (iZ (b : Int)), .int (iZ (k : Int))]) (rest := []) K hP hD hK hS hA hl.1 (c_Mo_figure l D mo qc np ow om ok_ oK og on_ oh ox qn qf op_ ql (ovr fw b k (val b + val c_)) fm cI b k (val b) H.size (by omega) (hW.m (by omega)) (hW.n (by omega)) (by omega) (fun q => by rw [ovr_out (by omega)]; exact hW.d hb9 q)) [0, 1, 2] [] [0] rfl rfl rfl (by decide) (by decide) (by decide) 0 rfl rfl (big_in mw_1266 rfl) (big_in mw_10 rfl) (big_in mw_1263 rfl) (big_in mw_1265 rfl) (big_in sp_36 rfl) rfl rfl (by decide +kernel) ⟨by rw [hR]; exact Nat.le_of_ble_eq_true rfl, by rw [hR]; exact Nat.le_of_ble_eq_true rfl⟩ rfl (Nat.le_of_ble_eq_true rfl) d_Mo_addTo_47 ⟨by rw [hR]; exact Nat.le_of_ble_eq_true rfl, by rw [hR]; exact Nat.le_of_ble_eq_true rfl⟩ rfl (fun v u H locs hp2 hP hD hS _ => ?_)
        obtain ⟨r1, rfl⟩ : ∃ z, z = u := ⟨_, rfl⟩
        obtain ⟨rfl, g1⟩ := hp2
        have hP : va_P D cls0 [(mo, .inr (8, [.int qc, .int (iZ (np : Int)), .ref ow, .ref om, .ref ok_, .ref oK, .ref og, .ref on_, .ref oh, .ref ox, .int qn, .int qf, .ref op_, .int ql])), (ow, .inl (cI, 108000, .inl (ovr fw b k (val b + val c_)))), (om, .inl (cI, 9, .inl fm))] H := hP
        have hD : va_D A [(mo, .inr (8, [.int qc, .int (iZ (np : Int)), .ref ow, .ref om, .ref ok_, .ref oK, .ref og, .ref on_, .ref oh, .ref ox, .int qn, .int qf, .ref op_, .int ql])), (ow, .inl (cI, 108000, .inl (ovr fw b k (val b + val c_)))), (om, .inl (cI, 9, .inl fm))] := hD
        show W p l e R s m args below meth c H locs _ _ Q (F0 m 50 ls [.int (iZ (r1 : Int))])
        refine lv_aload_n hx hb d_Mo_addTo_50 rfl (lv_at hl 0 rfl) ?_
        refine lv_iload_n hx hb d_Mo_addTo_51 rfl (lv_at hl 2 rfl) ?_
        refine lv_iload hx hb d_Mo_addTo_52 (lv_at hl 5 rfl) ?_
        refine cv (n := 2) (wr := []) (w1 := (fun (u : Nat) => [(mo, .inr (8, [.int qc, .int (iZ (np : Int)), .ref ow, .ref om, .ref ok_, .ref oK, .ref og, .ref on_, .ref oh, .ref ox, .int qn, .int qf, .ref op_, .int ql])), (ow, .inl (cI, 108000, .inl (ovr fw b k (val b + val c_)))), (om, .inl (cI, 9, .inl fm))])) (As := [.int (iZ (c_ : Int)), .int (iZ (k : Int))]) (rest := [.int (iZ (r1 : Int))]) K hP hD hK hS hA hl.1 (c_Mo_figure l D mo qc np ow om ok_ oK og on_ oh ox qn qf op_ ql (ovr fw b k (val b + val c_)) fm cI c_ k (val c_) H.size (by omega) (hW.m (by omega)) (hW.n (by omega)) (by omega) (fun q => by rw [ovr_out (by omega)]; exact hW.d hc9 q)) [0, 1, 2] [] [0] rfl rfl rfl (by decide) (by decide) (by decide) 0 rfl rfl (big_in mw_1266 rfl) (big_in mw_10 rfl) (big_in mw_1263 rfl) (big_in mw_1265 rfl) (big_in sp_36 rfl) rfl rfl (by decide +kernel) ⟨by rw [hR]; exact Nat.le_of_ble_eq_true rfl, by rw [hR]; exact Nat.le_of_ble_eq_true rfl⟩ rfl (Nat.le_of_ble_eq_true rfl) d_Mo_addTo_54 ⟨by rw [hR]; exact Nat.le_of_ble_eq_true rfl, by rw [hR]; exact Nat.le_of_ble_eq_true rfl⟩ rfl (fun v u H locs hp3 hP hD hS _ => ?_)
        obtain ⟨r2, rfl⟩ : ∃ z, z = u := ⟨_, rfl⟩
        obtain ⟨rfl, g2⟩ := hp3
        have hP : va_P D cls0 [(mo, .inr (8, [.int qc, .int (iZ (np : Int)), .ref ow, .ref om, .ref ok_, .ref oK, .ref og, .ref on_, .ref oh, .ref ox, .int qn, .int qf, .ref op_, .int ql])), (ow, .inl (cI, 108000, .inl (ovr fw b k (val b + val c_)))), (om, .inl (cI, 9, .inl fm))] H := hP
        have hD : va_D A [(mo, .inr (8, [.int qc, .int (iZ (np : Int)), .ref ow, .ref om, .ref ok_, .ref oK, .ref og, .ref on_, .ref oh, .ref ox, .int qn, .int qf, .ref op_, .int ql])), (ow, .inl (cI, 108000, .inl (ovr fw b k (val b + val c_)))), (om, .inl (cI, 9, .inl fm))] := hD
        show W p l e R s m args below meth c H locs _ _ Q (F0 m 57 ls [.int (iZ (r2 : Int)), .int (iZ (r1 : Int))])
        refine zz_iadd hx hb d_Mo_addTo_57 ?_
        refine lv_iload hx hb d_Mo_addTo_58 (lv_at hl 4 rfl) ?_
        refine zz_iadd hx hb d_Mo_addTo_60 ?_
        refine lv_istore (lv' := [(6, .int (iZ ((r1 : Int) + (r2 : Int) + (cy : Int)))), (0, .ref mo), (1, .int (iZ (b : Int))), (2, .int (iZ (c_ : Int))), (3, .int (iZ (n_ : Int))), (4, .int (iZ (cy : Int))), (5, .int (iZ (k : Int)))]) hx hb d_Mo_addTo_61 hl (by decide) rfl (fun ls hl => ?_)
        refine lv_aload_n hx hb d_Mo_addTo_63 rfl (lv_at hl 1 rfl) ?_
        refine va_get (D := D) (ci := 8) (v := .ref ow) (C := R_Mo) (T := F_Mo) (N := 14) hx hb hts i_Mo hown hK hP 0 rfl rfl 2 (by decide) (hts _ (big_in mw_1117 rfl)) (fun _ h9 => h9) rfl d_Mo_addTo_64 ?_
        refine lv_sipush (v := iZ (12000)) hx hb d_Mo_addTo_67 (by decide +kernel) ?_
        refine lv_iload_n hx hb d_Mo_addTo_70 rfl (lv_at hl 2 rfl) ?_
        refine zz_imul hx hb d_Mo_addTo_71 ?_
        refine lv_iload hx hb d_Mo_addTo_72 (lv_at hl 6 rfl) ?_
        refine zz_iadd hx hb d_Mo_addTo_74 ?_
        refine lv_iload hx hb d_Mo_addTo_75 (lv_at hl 0 rfl) ?_
        refine lv_sipush (v := iZ (10000)) hx hb d_Mo_addTo_77 (by decide +kernel) ?_
        refine zz_irem hx hb d_Mo_addTo_80 (by omega) (by omega) ?_
        refine zz_iast hx hb hK hP hD hS 1 0 rfl rfl (12000 * b + k) (by omega) (by omega) (by omega) d_Mo_addTo_81 (fun H locs hP hD hS => ?_)
        have hP : va_P D cls0 [(mo, .inr (8, [.int qc, .int (iZ (np : Int)), .ref ow, .ref om, .ref ok_, .ref oK, .ref og, .ref on_, .ref oh, .ref ox, .int qn, .int qf, .ref op_, .int ql])), (ow, .inl (cI, 108000, .inl (upd (ovr fw b k (val b + val c_)) (12000 * b + k) (iZ (((r1 : Int) + (r2 : Int) + (cy : Int)) % 10000))))), (om, .inl (cI, 9, .inl fm))] H := hP
        have hD : va_D A [(mo, .inr (8, [.int qc, .int (iZ (np : Int)), .ref ow, .ref om, .ref ok_, .ref oK, .ref og, .ref on_, .ref oh, .ref ox, .int qn, .int qf, .ref op_, .int ql])), (ow, .inl (cI, 108000, .inl (upd (ovr fw b k (val b + val c_)) (12000 * b + k) (iZ (((r1 : Int) + (r2 : Int) + (cy : Int)) % 10000))))), (om, .inl (cI, 9, .inl fm))] := hD
        have ed := aT_dz (val b) (val c_) k
        have ec := aT_c (val b) (val c_) k
        rw [← icy, ← g1, ← g2] at ed ec
        rw [ovr_s (by congr 1; omega)] at hP hD
        refine lv_iload hx hb d_Mo_addTo_82 (lv_at hl 0 rfl) ?_
        refine lv_sipush (v := iZ (10000)) hx hb d_Mo_addTo_84 (by decide +kernel) ?_
        refine zz_idiv hx hb d_Mo_addTo_87 (by omega) (by omega) ?_
        refine lv_istore (lv' := [(4, .int (iZ (((r1 : Int) + (r2 : Int) + (cy : Int)) / 10000))), (6, .int (iZ ((r1 : Int) + (r2 : Int) + (cy : Int)))), (0, .ref mo), (1, .int (iZ (b : Int))), (2, .int (iZ (c_ : Int))), (3, .int (iZ (n_ : Int))), (5, .int (iZ (k : Int)))]) hx hb d_Mo_addTo_88 hl (by decide) rfl (fun ls hl => ?_)
        refine lv_iinc (v := iZ ((k : Int) + 1)) (lv' := [(5, .int (iZ ((k : Int) + 1))), (4, .int (iZ (((r1 : Int) + (r2 : Int) + (cy : Int)) / 10000))), (6, .int (iZ ((r1 : Int) + (r2 : Int) + (cy : Int)))), (0, .ref mo), (1, .int (iZ (b : Int))), (2, .int (iZ (c_ : Int))), (3, .int (iZ (n_ : Int)))]) hx hb d_Mo_addTo_90 hl (k := 6) rfl (iZ_add _ _) (by decide) rfl (fun ls hl => ?_)
        refine lv_goto (tgt := 37) hx hb d_Mo_addTo_93 (by decide) ?_
        rw [show (((r1 : Int) + (r2 : Int) + (cy : Int)) / 10000 : Int) = (((r1 + r2 + cy) / 10000 : Nat) : Int) by omega] at hl
        rw [show ((k : Int) + 1 : Int) = ((k + 1 : Nat) : Int) by omega] at hl
        exact ih (k + 1) n_ ((r1 + r2 + cy) / 10000) _ _ _ (by omega) (by omega) in1 in2 in3 ec (hP.sub (ws' := [(mo, .inr (8, [.int qc, .int (iZ (np : Int)), .ref ow, .ref om, .ref ok_, .ref oK, .ref og, .ref on_, .ref oh, .ref ox, .int qn, .int qf, .ref op_, .int ql])), (ow, .inl (cI, 108000, .inl (ovr fw b (k + 1) (val b + val c_)))), (om, .inl (cI, 9, .inl fm))]) [0, 1, 2] rfl) (hD.sub (ws' := [(mo, .inr (8, [.int qc, .int (iZ (np : Int)), .ref ow, .ref om, .ref ok_, .ref oK, .ref og, .ref on_, .ref oh, .ref ox, .int qn, .int qf, .ref op_, .int ql])), (ow, .inl (cI, 108000, .inl (ovr fw b (k + 1) (val b + val c_)))), (om, .inl (cI, 9, .inl fm))]) [0, 1, 2] (by decide) rfl) hS (lv_sub hl [3, 4, 5, 6, 1, 0] rfl)
  rw [← ovr_0 fw b (val b + val c_)] at hP hD
  refine lv_aload_n hx hb d_Mo_addTo_0 rfl (lv_at hl 0 rfl) ?_
  refine va_get (D := D) (ci := 8) (v := .ref om) (C := R_Mo) (T := F_Mo) (N := 14) hx hb hts i_Mo hown hK hP 0 rfl rfl 3 (by decide) (hts _ (big_in mw_1118 rfl)) (fun _ h9 => h9) rfl d_Mo_addTo_1 ?_
  refine lv_iload_n hx hb d_Mo_addTo_4 rfl (lv_at hl 1 rfl) ?_
  refine zz_iald hx hb hK hP 2 0 rfl rfl (b) (by omega) (by omega) (by omega) d_Mo_addTo_5 ?_
  rw [hW.m hb9]
  refine lv_aload_n hx hb d_Mo_addTo_6 rfl (lv_at hl 0 rfl) ?_
  refine va_get (D := D) (ci := 8) (v := .ref om) (C := R_Mo) (T := F_Mo) (N := 14) hx hb hts i_Mo hown hK hP 0 rfl rfl 3 (by decide) (hts _ (big_in mw_1118 rfl)) (fun _ h9 => h9) rfl d_Mo_addTo_7 ?_
  refine lv_iload_n hx hb d_Mo_addTo_10 rfl (lv_at hl 2 rfl) ?_
  refine zz_iald hx hb hK hP 2 0 rfl rfl (c_) (by omega) (by omega) (by omega) d_Mo_addTo_11 ?_
  rw [hW.m hc9]
  refine zz_icmp_le (tgt := 24) hx hb d_Mo_addTo_12 (by decide) (by omega) (by omega) (fun c12 => ?_) (fun c12 => ?_)
  · refine lv_aload_n hx hb d_Mo_addTo_24 rfl (lv_at hl 0 rfl) ?_
    refine va_get (D := D) (ci := 8) (v := .ref om) (C := R_Mo) (T := F_Mo) (N := 14) hx hb hts i_Mo hown hK hP 0 rfl rfl 3 (by decide) (hts _ (big_in mw_1118 rfl)) (fun _ h9 => h9) rfl d_Mo_addTo_25 ?_
    refine lv_iload_n hx hb d_Mo_addTo_28 rfl (lv_at hl 2 rfl) ?_
    refine zz_iald hx hb hK hP 2 0 rfl rfl (c_) (by omega) (by omega) (by omega) d_Mo_addTo_29 ?_
    rw [hW.m hc9]
    refine lv_istore_n (lv' := [(3, .int (iZ (nd (val c_) : Int))), (0, .ref mo), (1, .int (iZ (b : Int))), (2, .int (iZ (c_ : Int)))]) hx hb d_Mo_addTo_30 rfl hl (by decide) rfl (fun ls hl => ?_)
    refine lv_iconst (v := iZ (0)) hx hb d_Mo_addTo_31 (by decide +kernel) ?_
    refine lv_istore (lv' := [(4, .int (iZ 0)), (3, .int (iZ (nd (val c_) : Int))), (0, .ref mo), (1, .int (iZ (b : Int))), (2, .int (iZ (c_ : Int)))]) hx hb d_Mo_addTo_32 hl (by decide) rfl (fun ls hl => ?_)
    refine lv_iconst (v := iZ (0)) hx hb d_Mo_addTo_34 (by decide +kernel) ?_
    refine lv_istore (lv' := [(5, .int (iZ 0)), (4, .int (iZ 0)), (3, .int (iZ (nd (val c_) : Int))), (0, .ref mo), (1, .int (iZ (b : Int))), (2, .int (iZ (c_ : Int)))]) hx hb d_Mo_addTo_35 hl (by decide) rfl (fun ls hl => ?_)
    rw [show ((nd (val c_) : Int) : Int) = (((nd (val c_)) : Nat) : Int) by omega] at hl
    exact L37 _ 0 (nd (val c_)) 0 _ _ _ (Nat.lt_succ_self _) (Nat.zero_le _) (by omega) (by omega) (by omega) (aT_0 _ _) (hP.sub (ws' := [(mo, .inr (8, [.int qc, .int (iZ (np : Int)), .ref ow, .ref om, .ref ok_, .ref oK, .ref og, .ref on_, .ref oh, .ref ox, .int qn, .int qf, .ref op_, .int ql])), (ow, .inl (cI, 108000, .inl (ovr fw b 0 (val b + val c_)))), (om, .inl (cI, 9, .inl fm))]) [0, 1, 2] rfl) (hD.sub (ws' := [(mo, .inr (8, [.int qc, .int (iZ (np : Int)), .ref ow, .ref om, .ref ok_, .ref oK, .ref og, .ref on_, .ref oh, .ref ox, .int qn, .int qf, .ref op_, .int ql])), (ow, .inl (cI, 108000, .inl (ovr fw b 0 (val b + val c_)))), (om, .inl (cI, 9, .inl fm))]) [0, 1, 2] (by decide) rfl) hS (lv_sub hl [3, 4, 5, 2, 1, 0] rfl)
  · refine lv_aload_n hx hb d_Mo_addTo_15 rfl (lv_at hl 0 rfl) ?_
    refine va_get (D := D) (ci := 8) (v := .ref om) (C := R_Mo) (T := F_Mo) (N := 14) hx hb hts i_Mo hown hK hP 0 rfl rfl 3 (by decide) (hts _ (big_in mw_1118 rfl)) (fun _ h9 => h9) rfl d_Mo_addTo_16 ?_
    refine lv_iload_n hx hb d_Mo_addTo_19 rfl (lv_at hl 1 rfl) ?_
    refine zz_iald hx hb hK hP 2 0 rfl rfl (b) (by omega) (by omega) (by omega) d_Mo_addTo_20 ?_
    rw [hW.m hb9]
    refine lv_goto (tgt := 30) hx hb d_Mo_addTo_21 (by decide) ?_
    refine lv_istore_n (lv' := [(3, .int (iZ (nd (val b) : Int))), (0, .ref mo), (1, .int (iZ (b : Int))), (2, .int (iZ (c_ : Int)))]) hx hb d_Mo_addTo_30 rfl hl (by decide) rfl (fun ls hl => ?_)
    refine lv_iconst (v := iZ (0)) hx hb d_Mo_addTo_31 (by decide +kernel) ?_
    refine lv_istore (lv' := [(4, .int (iZ 0)), (3, .int (iZ (nd (val b) : Int))), (0, .ref mo), (1, .int (iZ (b : Int))), (2, .int (iZ (c_ : Int)))]) hx hb d_Mo_addTo_32 hl (by decide) rfl (fun ls hl => ?_)
    refine lv_iconst (v := iZ (0)) hx hb d_Mo_addTo_34 (by decide +kernel) ?_
    refine lv_istore (lv' := [(5, .int (iZ 0)), (4, .int (iZ 0)), (3, .int (iZ (nd (val b) : Int))), (0, .ref mo), (1, .int (iZ (b : Int))), (2, .int (iZ (c_ : Int)))]) hx hb d_Mo_addTo_35 hl (by decide) rfl (fun ls hl => ?_)
    rw [show ((nd (val b) : Int) : Int) = (((nd (val b)) : Nat) : Int) by omega] at hl
    exact L37 _ 0 (nd (val b)) 0 _ _ _ (Nat.lt_succ_self _) (Nat.zero_le _) (by omega) (by omega) (by omega) (aT_0 _ _) (hP.sub (ws' := [(mo, .inr (8, [.int qc, .int (iZ (np : Int)), .ref ow, .ref om, .ref ok_, .ref oK, .ref og, .ref on_, .ref oh, .ref ox, .int qn, .int qf, .ref op_, .int ql])), (ow, .inl (cI, 108000, .inl (ovr fw b 0 (val b + val c_)))), (om, .inl (cI, 9, .inl fm))]) [0, 1, 2] rfl) (hD.sub (ws' := [(mo, .inr (8, [.int qc, .int (iZ (np : Int)), .ref ow, .ref om, .ref ok_, .ref oK, .ref og, .ref on_, .ref oh, .ref ox, .int qn, .int qf, .ref op_, .int ql])), (ow, .inl (cI, 108000, .inl (ovr fw b 0 (val b + val c_)))), (om, .inl (cI, 9, .inl fm))]) [0, 1, 2] (by decide) rfl) hS (lv_sub hl [3, 4, 5, 2, 1, 0] rfl)
