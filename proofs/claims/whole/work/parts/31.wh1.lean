set_option maxHeartbeats 4000000 in
set_option maxRecDepth 100000 in
/-- trim(): zeros on top go -/
theorem c_Wh_trim (l : Launch) (D : va_G) (h : Nat) (a : Nat) (k : Nat) (n : Nat) (f : Nat → Int32) (cI : ClassId) (sz : Nat) (hk : k ≤ n) (hn : n < 1000000) : Met l y_Wh_trim (wsB y_Wh_trim b_Wh_trim 1 none) ({ frames := 0, cells := 0, slots := 0, locals := 0 }) (va_Pc [.ref h] (wPre D [(cI, .int)] [(h, .inr (0, [.ref a, .int (iZ (k : Int))])), (a, .inl (cI, n, .inl f))] sz)) (va_QV (fun (v : Option Value) (u : Nat) => v = none ∧ (u ≤ k) ∧ (∀ i, u ≤ i → i < k → f i = 0) ∧ (u = 0 ∨ f (u - 1) ≠ 0)) (fun u => wPost D [(cI, .int)] [(h, .inr (0, [.ref a, .int (iZ (k : Int))])), (a, .inl (cI, n, .inl f))] [(h, .inr (0, [.ref a, .int (iZ (u : Int))])), (a, .inl (cI, n, .inl f))] sz) (va_A [(h, .inr (0, [.ref a, .int (iZ (k : Int))])), (a, .inl (cI, n, .inl f))] sz)) 0 0 (va_A [(h, .inr (0, [.ref a, .int (iZ (k : Int))])), (a, .inl (cI, n, .inl f))] sz) := by
  refine met_enter (by decide) (Nat.le_of_ble_eq_true rfl) ?_
  intro p e s m args below meth c ls A R Q H locs K hin hAe hA hR hQ hP hK hD hS hl
  obtain ⟨hx, hb, hml, hr, hlk, hts, hown, hno⟩ := id K
  have hl : lv_has ls 1 [(0, .ref h)] := hl
  have L0 : ∀ (N : Nat) (j : Nat) (H : Heap) (locs : List Loc) (ls : Array Slot), j < N → (j ≤ k) → (∀ i, j ≤ i → i < k → f i = 0) → va_P D cls0 [(h, .inr (0, [.ref a, .int (iZ (j : Int))])), (a, .inl (cI, n, .inl f))] H → va_D A [(h, .inr (0, [.ref a, .int (iZ (j : Int))])), (a, .inl (cI, n, .inl f))] → va_S A s.heap H locs → lv_has ls 1 [(0, .ref h)] → W p l e R s m args below meth c H locs 0 0 Q (F0 m 0 ls []) := by
    intro N
    induction N with
    | zero => intro j H locs ls hN; exact absurd hN (Nat.not_lt_zero _)
    | succ N ih =>
      intro j H locs ls hN ij iz hP hD hS hl
      refine lv_aload_n hx hb d_Wh_trim_0 rfl (lv_at hl 0 rfl) ?_
      refine va_get (D := D) (ci := 0) (v := .int (iZ (j : Int))) (C := R_Wh) (T := F_Wh) (N := 2) hx hb hts i_Wh hown hK hP 0 rfl rfl 1 (by decide) (hts _ (big_in mw_94 rfl)) (fun _ h9 => h9) rfl d_Wh_trim_1 ?_
      refine zz_if_le (tgt := 34) hx hb d_Wh_trim_4 (by decide) (by omega) (fun c4 => ?_) (fun c4 => ?_)
      · have hP9 : va_P D cls0 [(h, .inr (0, [.ref a, .int (iZ (j : Int))])), (a, .inl (cI, n, .inl f))] H := hP.sub [0, 1] rfl
        have hD9 : va_D A [(h, .inr (0, [.ref a, .int (iZ (j : Int))])), (a, .inl (cI, n, .inl f))] := hD.sub [0, 1] (by decide) rfl
        rw [hQ, ← hAe]
        refine r_v K j hS d_Wh_trim_34 ?_ (fun t ht hv => ?_)
        · exact ⟨rfl, ij, iz, by first | exact Or.inl (by omega) | exact Or.inr c18⟩
        · exact ⟨by rw [ht]; exact hP9, va_K.moved hv hK, by rw [← hAe]; exact hD9⟩
      · refine lv_aload_n hx hb d_Wh_trim_7 rfl (lv_at hl 0 rfl) ?_
        refine va_get (D := D) (ci := 0) (v := .ref a) (C := R_Wh) (T := F_Wh) (N := 2) hx hb hts i_Wh hown hK hP 0 rfl rfl 0 (by decide) (hts _ (big_in mw_90 rfl)) (fun _ h9 => h9) rfl d_Wh_trim_8 ?_
        refine lv_aload_n hx hb d_Wh_trim_11 rfl (lv_at hl 0 rfl) ?_
        refine va_get (D := D) (ci := 0) (v := .int (iZ (j : Int))) (C := R_Wh) (T := F_Wh) (N := 2) hx hb hts i_Wh hown hK hP 0 rfl rfl 1 (by decide) (hts _ (big_in mw_94 rfl)) (fun _ h9 => h9) rfl d_Wh_trim_12 ?_
        refine lv_iconst (v := iZ (1)) hx hb d_Wh_trim_15 (by decide +kernel) ?_
        refine zz_isub hx hb d_Wh_trim_16 ?_
        refine zz_iald hx hb hK hP 1 0 rfl rfl (j - 1) (by omega) (by omega) (by omega) d_Wh_trim_17 ?_
        refine lv_if_ne (tgt := 34) hx hb d_Wh_trim_18 (by decide) (fun c18 => ?_) (fun c18 => ?_)
        · have hP9 : va_P D cls0 [(h, .inr (0, [.ref a, .int (iZ (j : Int))])), (a, .inl (cI, n, .inl f))] H := hP.sub [0, 1] rfl
          have hD9 : va_D A [(h, .inr (0, [.ref a, .int (iZ (j : Int))])), (a, .inl (cI, n, .inl f))] := hD.sub [0, 1] (by decide) rfl
          rw [hQ, ← hAe]
          refine r_v K j hS d_Wh_trim_34 ?_ (fun t ht hv => ?_)
          · exact ⟨rfl, ij, iz, by first | exact Or.inl (by omega) | exact Or.inr c18⟩
          · exact ⟨by rw [ht]; exact hP9, va_K.moved hv hK, by rw [← hAe]; exact hD9⟩
        · refine lv_aload_n hx hb d_Wh_trim_21 rfl (lv_at hl 0 rfl) ?_
          refine lv_dup hx hb d_Wh_trim_22 rfl ?_
          refine va_get (D := D) (ci := 0) (v := .int (iZ (j : Int))) (C := R_Wh) (T := F_Wh) (N := 2) hx hb hts i_Wh hown hK hP 0 rfl rfl 1 (by decide) (hts _ (big_in mw_94 rfl)) (fun _ h9 => h9) rfl d_Wh_trim_23 ?_
          refine lv_iconst (v := iZ (1)) hx hb d_Wh_trim_26 (by decide +kernel) ?_
          refine zz_isub hx hb d_Wh_trim_27 ?_
          refine va_put (D := D) (ci := 0) (v := .int (iZ ((j : Int) - 1))) (ty := .int) (C := R_Wh) (T := F_Wh) (N := 2) hx hb hts i_Wh t_Wh t_Wh_ok n_Wh hown hK hP hD hS 0 rfl rfl 1 (by decide) (hts _ (big_in mw_94 rfl)) (fun _ h9 => h9) rfl (by decide +kernel) rfl rfl (Nat.le_of_ble_eq_true rfl) d_Wh_trim_28 (fun H locs hP hD hS => ?_)
          have hP : va_P D cls0 [(h, .inr (0, [.ref a, .int (iZ ((j : Int) - 1))])), (a, .inl (cI, n, .inl f))] H := hP
          have hD : va_D A [(h, .inr (0, [.ref a, .int (iZ ((j : Int) - 1))])), (a, .inl (cI, n, .inl f))] := hD
          refine lv_goto (tgt := 0) hx hb d_Wh_trim_31 (by decide) ?_
          rw [show ((j : Int) - 1 : Int) = ((j - 1 : Nat) : Int) by omega] at hP hD
          exact ih (j - 1) _ _ _ (by omega) (by omega) (fun i h1 h2 => by rcases Nat.lt_or_ge i j with q | q; (have : i = j - 1 := by omega); (rw [this]; exact c18); exact iz i q h2) (hP.sub (ws' := [(h, .inr (0, [.ref a, .int (iZ ((j - 1 : Nat) : Int))])), (a, .inl (cI, n, .inl f))]) [0, 1] rfl) (hD.sub (ws' := [(h, .inr (0, [.ref a, .int (iZ ((j - 1 : Nat) : Int))])), (a, .inl (cI, n, .inl f))]) [0, 1] (by decide) rfl) hS (lv_sub hl [0] rfl)
  exact L0 _ k _ _ _ (Nat.lt_succ_self _) (Nat.le_refl k) (fun i h1 h2 => absurd h1 (by omega)) (hP.sub (ws' := [(h, .inr (0, [.ref a, .int (iZ (k : Int))])), (a, .inl (cI, n, .inl f))]) [0, 1] rfl) (hD.sub (ws' := [(h, .inr (0, [.ref a, .int (iZ (k : Int))])), (a, .inl (cI, n, .inl f))]) [0, 1] (by decide) rfl) hS (lv_sub hl [0] rfl)
