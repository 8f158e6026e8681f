/-! WHOLE: contracts of its small methods -/
def atZ (f : Nat → Int32) (k : Nat) (z : Int) : Int := if 0 ≤ z ∧ z < k then (uw (f z.toNat) : Int) else 0
theorem atZ_r (f : Nat → Int32) (k : Nat) (z : Int) : 0 ≤ atZ f k z ∧ atZ f k z < 4294967296 := by
  unfold atZ; split
  · have := uw_lt (f z.toNat); omega
  · omega
theorem atZ_n (f : Nat → Int32) (k i : Nat) : atZ f k i = (at0 f k i : Nat) := by
  unfold atZ at0
  by_cases h : i < k
  · rw [if_pos ⟨by omega, by omega⟩, if_pos h, Int.toNat_natCast]
  · rw [if_neg (by omega), if_neg h]; rfl
theorem atZ_neg {f : Nat → Int32} {k : Nat} {z : Int} (h : z < 0) : atZ f k z = 0 := by unfold atZ; rw [if_neg (by omega)]
theorem uwZ (x : Int32) : 0 ≤ (uw x : Int) ∧ (uw x : Int) < 4294967296 := by have := uw_lt x; omega
set_option maxHeartbeats 4000000 in
set_option maxRecDepth 100000 in
/-- trim(): zeros on top go -/
theorem c_Wh_trim (l : Launch) (D : va_G) (h : Nat) (a : Nat) (k : Nat) (n : Nat) (f : Nat → Int32) (cI : ClassId) (sz : Nat) (hk : k ≤ n) (hn : n < 1000000) : Met l y_Wh_trim (wsB y_Wh_trim b_Wh_trim 1 none) ({ frames := 0, cells := 0, slots := 0, locals := 0 }) (va_Pc [.ref h] (wPre D [(cI, .int)] [(h, .inr (0, [.ref a, .int (iZ (k : Int))])), (a, .inl (cI, n, .inl f))] sz)) (va_QV (fun (v9 : Option Value) (u9 : Nat) => v9 = none ∧ (u9 ≤ k) ∧ (∀ i, u9 ≤ i → i < k → f i = 0) ∧ (u9 = 0 ∨ f (u9 - 1) ≠ 0)) (fun u9 => wPost D [(cI, .int)] [(h, .inr (0, [.ref a, .int (iZ (k : Int))])), (a, .inl (cI, n, .inl f))] [(h, .inr (0, [.ref a, .int (iZ (u9 : Int))])), (a, .inl (cI, n, .inl f))] sz) (va_A [(h, .inr (0, [.ref a, .int (iZ (k : Int))])), (a, .inl (cI, n, .inl f))] sz)) 0 0 (va_A [(h, .inr (0, [.ref a, .int (iZ (k : Int))])), (a, .inl (cI, n, .inl f))] sz) := by
  refine met_enter (by decide +kernel) (Nat.le_of_ble_eq_true rfl) ?_
  intro p e s m args below meth c ls A R Q H locs K hin hAe hA hR hQ hP hK hD hS hl
  obtain ⟨hx, hb, hml, hrt, hlk, hts, hown, hno⟩ := id K
  have hl : lv_has ls 1 [(0, .ref h)] := hl
  have L0 : ∀ (N : Nat) (j : Nat) (H : Heap) (locs : List Loc) (ls : Array Slot), j < N → (j ≤ k) → (∀ i, j ≤ i → i < k → f i = 0) → va_P D cls0 [(h, .inr (0, [.ref a, .int (iZ (j : Int))])), (a, .inl (cI, n, .inl f))] H → va_D A [(h, .inr (0, [.ref a, .int (iZ (j : Int))])), (a, .inl (cI, n, .inl f))] → va_S A s.heap H locs → lv_has ls 1 [(0, .ref h)] → W p l e R s m args below meth c H locs 0 0 Q (F0 m 0 ls []) := by
    intro N
    induction N with
    | zero => intro j H locs ls hN; exact absurd hN (Nat.not_lt_zero _)
    | succ N ih =>
      intro j H locs ls hN ij iz hP hD hS hl
      refine lv_aload_n hx hb d_Wh_trim_0 rfl (lv_at hl 0 rfl) ?_
      refine va_get (D := D) (ci := 0) (v := .int (iZ (j : Int))) (C := R_Wh) (T := F_Wh) (N := 2) hx hb hts i_Wh hown hK hP 0 rfl rfl 1 (by decide) (hts _ (big_in mw_94 rfl)) (fun _ h9 => h9) rfl d_Wh_trim_1 ?_
      refine zz_if_le (tgt := 34) hx hb d_Wh_trim_4 (by decide) (by omega) (fun c4 => ?_) (fun c4 => ?_)
      · have hP9 : va_P D cls0 [(h, .inr (0, [.ref a, .int (iZ (j : Int))])), (a, .inl (cI, n, .inl f))] H := hP.sub [0, 1] rfl
        have hD9 : va_D A [(h, .inr (0, [.ref a, .int (iZ (j : Int))])), (a, .inl (cI, n, .inl f))] := hD.sub [0, 1] (by decide) rfl
        rw [hQ, ← hAe]
        refine r_v K j hS d_Wh_trim_34 ?_ (fun t ht hv => ?_)
        · exact ⟨rfl, ij, iz, by first | exact Or.inl (by omega) | exact Or.inr c18⟩
        · exact ⟨by rw [ht]; exact hP9, va_K.moved hv hK, by rw [← hAe]; exact hD9⟩
      · refine lv_aload_n hx hb d_Wh_trim_7 rfl (lv_at hl 0 rfl) ?_
        refine va_get (D := D) (ci := 0) (v := .ref a) (C := R_Wh) (T := F_Wh) (N := 2) hx hb hts i_Wh hown hK hP 0 rfl rfl 0 (by decide) (hts _ (big_in mw_90 rfl)) (fun _ h9 => h9) rfl d_Wh_trim_8 ?_
        refine lv_aload_n hx hb d_Wh_trim_11 rfl (lv_at hl 0 rfl) ?_
        refine va_get (D := D) (ci := 0) (v := .int (iZ (j : Int))) (C := R_Wh) (T := F_Wh) (N := 2) hx hb hts i_Wh hown hK hP 0 rfl rfl 1 (by decide) (hts _ (big_in mw_94 rfl)) (fun _ h9 => h9) rfl d_Wh_trim_12 ?_
        refine lv_iconst (v := iZ (1)) hx hb d_Wh_trim_15 (by decide +kernel) ?_
        refine zz_isub hx hb d_Wh_trim_16 ?_
        refine zz_iald hx hb hK hP 1 0 rfl rfl (j - 1) (by omega) (by omega) (by omega) d_Wh_trim_17 ?_
        refine lv_if_ne (tgt := 34) hx hb d_Wh_trim_18 (by decide) (fun c18 => ?_) (fun c18 => ?_)
        · have hP9 : va_P D cls0 [(h, .inr (0, [.ref a, .int (iZ (j : Int))])), (a, .inl (cI, n, .inl f))] H := hP.sub [0, 1] rfl
          have hD9 : va_D A [(h, .inr (0, [.ref a, .int (iZ (j : Int))])), (a, .inl (cI, n, .inl f))] := hD.sub [0, 1] (by decide) rfl
          rw [hQ, ← hAe]
          refine r_v K j hS d_Wh_trim_34 ?_ (fun t ht hv => ?_)
          · exact ⟨rfl, ij, iz, by first | exact Or.inl (by omega) | exact Or.inr c18⟩
          · exact ⟨by rw [ht]; exact hP9, va_K.moved hv hK, by rw [← hAe]; exact hD9⟩
        · refine lv_aload_n hx hb d_Wh_trim_21 rfl (lv_at hl 0 rfl) ?_
          refine lv_dup hx hb d_Wh_trim_22 rfl ?_
          refine va_get (D := D) (ci := 0) (v := .int (iZ (j : Int))) (C := R_Wh) (T := F_Wh) (N := 2) hx hb hts i_Wh hown hK hP 0 rfl rfl 1 (by decide) (hts _ (big_in mw_94 rfl)) (fun _ h9 => h9) rfl d_Wh_trim_23 ?_
          refine lv_iconst (v := iZ (1)) hx hb d_Wh_trim_26 (by decide +kernel) ?_
          refine zz_isub hx hb d_Wh_trim_27 ?_
          refine va_put (D := D) (ci := 0) (v := .int (iZ ((j : Int) - 1))) (ty := .int) (C := R_Wh) (T := F_Wh) (N := 2) hx hb hts i_Wh t_Wh t_Wh_ok n_Wh hown hK hP hD hS 0 rfl rfl 1 (by decide) (hts _ (big_in mw_94 rfl)) (fun _ h9 => h9) rfl (by decide +kernel) rfl rfl (Nat.le_of_ble_eq_true rfl) d_Wh_trim_28 (fun H locs hP hD hS => ?_)
          have hP : va_P D cls0 [(h, .inr (0, [.ref a, .int (iZ ((j : Int) - 1))])), (a, .inl (cI, n, .inl f))] H := hP
          have hD : va_D A [(h, .inr (0, [.ref a, .int (iZ ((j : Int) - 1))])), (a, .inl (cI, n, .inl f))] := hD
          refine lv_goto (tgt := 0) hx hb d_Wh_trim_31 (by decide) ?_
          rw [show ((j : Int) - 1 : Int) = ((j - 1 : Nat) : Int) by omega] at hP hD
          exact ih (j - 1) _ _ _ (by omega) (by omega) (fun i h1 h2 => by rcases Nat.lt_or_ge i j with q | q; (have : i = j - 1 := by omega); (rw [this]; exact c18); exact iz i q h2) (hP.sub (ws' := [(h, .inr (0, [.ref a, .int (iZ ((j - 1 : Nat) : Int))])), (a, .inl (cI, n, .inl f))]) [0, 1] rfl) (hD.sub (ws' := [(h, .inr (0, [.ref a, .int (iZ ((j - 1 : Nat) : Int))])), (a, .inl (cI, n, .inl f))]) [0, 1] (by decide) rfl) hS (lv_sub hl [0] rfl)
  exact L0 _ k _ _ _ (Nat.lt_succ_self _) (Nat.le_refl k) (fun i h1 h2 => absurd h1 (by omega)) (hP.sub (ws' := [(h, .inr (0, [.ref a, .int (iZ (k : Int))])), (a, .inl (cI, n, .inl f))]) [0, 1] rfl) (hD.sub (ws' := [(h, .inr (0, [.ref a, .int (iZ (k : Int))])), (a, .inl (cI, n, .inl f))]) [0, 1] (by decide) rfl) hS (lv_sub hl [0] rfl)
set_option maxHeartbeats 4000000 in
set_option maxRecDepth 100000 in
/-- claim(count): nothing where the row is long enough -/
theorem c_Wh_claim (l : Launch) (D : va_G) (h : Nat) (a : Nat) (q : Int32) (n : Nat) (f : Nat → Int32) (cI : ClassId) (z : Int) (sz : Nat) (hz : -2147483648 ≤ z ∧ z ≤ n) (hn : n < 1000000) : Met l y_Wh_claim (wsB y_Wh_claim b_Wh_claim 2 none) ({ frames := 0, cells := 0, slots := 0, locals := 0 }) (va_Pc [.ref h, .int (iZ z)] (wPre D [(cI, .int)] [(h, .inr (0, [.ref a, .int q])), (a, .inl (cI, n, .inl f))] sz)) (va_QV (fun (v9 : Option Value) (u9 : Unit) => v9 = none) (fun u9 => wPost D [(cI, .int)] [(h, .inr (0, [.ref a, .int q])), (a, .inl (cI, n, .inl f))] [(h, .inr (0, [.ref a, .int q])), (a, .inl (cI, n, .inl f))] sz) (va_A [(h, .inr (0, [.ref a, .int q])), (a, .inl (cI, n, .inl f))] sz)) 0 0 (va_A [(h, .inr (0, [.ref a, .int q])), (a, .inl (cI, n, .inl f))] sz) := by
  refine met_enter (by decide +kernel) (Nat.le_of_ble_eq_true rfl) ?_
  intro p e s m args below meth c ls A R Q H locs K hin hAe hA hR hQ hP hK hD hS hl
  obtain ⟨hx, hb, hml, hrt, hlk, hts, hown, hno⟩ := id K
  have hl : lv_has ls 2 [(0, .ref h), (1, .int (iZ z))] := hl
  refine lv_iload_n hx hb d_Wh_claim_0 rfl (lv_at hl 1 rfl) ?_
  refine lv_aload_n hx hb d_Wh_claim_1 rfl (lv_at hl 0 rfl) ?_
  refine va_get (D := D) (ci := 0) (v := .ref a) (C := R_Wh) (T := F_Wh) (N := 2) hx hb hts i_Wh hown hK hP 0 rfl rfl 0 (by decide) (hts _ (big_in mw_90 rfl)) (fun _ h9 => h9) rfl d_Wh_claim_2 ?_
  refine va_alen hx hb hK hP 1 0 rfl rfl (v := iZ (n : Int)) (nI_iZ _) d_Wh_claim_5 ?_
  refine zz_icmp_le (tgt := 19) hx hb d_Wh_claim_6 (by decide) (by omega) (by omega) (fun c6 => ?_) (fun c6 => False.elim (by omega))
  have hP9 : va_P D cls0 [(h, .inr (0, [.ref a, .int q])), (a, .inl (cI, n, .inl f))] H := hP.sub [0, 1] rfl
  have hD9 : va_D A [(h, .inr (0, [.ref a, .int q])), (a, .inl (cI, n, .inl f))] := hD.sub [0, 1] (by decide) rfl
  rw [hQ, ← hAe]
  refine r_v K () hS d_Wh_claim_19 ?_ (fun t ht hv => ?_)
  · exact rfl
  · exact ⟨by rw [ht]; exact hP9, va_K.moved hv hK, by rw [← hAe]; exact hD9⟩
set_option maxHeartbeats 4000000 in
set_option maxRecDepth 100000 in
/-- at(i): limb i, 0 where there is none -/
theorem c_Wh_at (l : Launch) (D : va_G) (h : Nat) (a : Nat) (k : Nat) (n : Nat) (f : Nat → Int32) (cI : ClassId) (z : Int) (sz : Nat) (hz : -2147483648 ≤ z ∧ z < 2147483648) (hk : k ≤ n) (hn : n < 1000000) : Met l y_Wh_at (wsB y_Wh_at b_Wh_at 2 (some .long)) ({ frames := 0, cells := 0, slots := 0, locals := 0 }) (va_Pc [.ref h, .int (iZ z)] (wPre D [(cI, .int)] [(h, .inr (0, [.ref a, .int (iZ (k : Int))])), (a, .inl (cI, n, .inl f))] sz)) (va_QV (fun (v9 : Option Value) (u9 : Int) => v9 = some (.long (lZ u9)) ∧ (u9 = atZ f k z)) (fun u9 => wPost D [(cI, .int)] [(h, .inr (0, [.ref a, .int (iZ (k : Int))])), (a, .inl (cI, n, .inl f))] [(h, .inr (0, [.ref a, .int (iZ (k : Int))])), (a, .inl (cI, n, .inl f))] sz) (va_A [(h, .inr (0, [.ref a, .int (iZ (k : Int))])), (a, .inl (cI, n, .inl f))] sz)) 0 0 (va_A [(h, .inr (0, [.ref a, .int (iZ (k : Int))])), (a, .inl (cI, n, .inl f))] sz) := by
  refine met_enter (by decide +kernel) (Nat.le_of_ble_eq_true rfl) ?_
  intro p e s m args below meth c ls A R Q H locs K hin hAe hA hR hQ hP hK hD hS hl
  obtain ⟨hx, hb, hml, hrt, hlk, hts, hown, hno⟩ := id K
  have hl : lv_has ls 2 [(0, .ref h), (1, .int (iZ z))] := hl
  refine lv_iload_n hx hb d_Wh_at_0 rfl (lv_at hl 1 rfl) ?_
  refine zz_if_lt (tgt := 26) hx hb d_Wh_at_1 (by decide) (by omega) (fun c1 => ?_) (fun c1 => ?_)
  · refine lv_lconst (v := lZ (0)) hx hb d_Wh_at_26 (by decide +kernel) ?_
    have hP9 : va_P D cls0 [(h, .inr (0, [.ref a, .int (iZ (k : Int))])), (a, .inl (cI, n, .inl f))] H := hP.sub [0, 1] rfl
    have hD9 : va_D A [(h, .inr (0, [.ref a, .int (iZ (k : Int))])), (a, .inl (cI, n, .inl f))] := hD.sub [0, 1] (by decide) rfl
    rw [hQ, ← hAe]
    refine r_l (v := (lZ 0)) K 0 hS d_Wh_at_27 ?_ (fun t ht hv => ?_)
    · exact ⟨rfl, by unfold atZ; rw [if_neg (by omega)]⟩
    · exact ⟨by rw [ht]; exact hP9, va_K.moved hv hK, by rw [← hAe]; exact hD9⟩
  · refine lv_iload_n hx hb d_Wh_at_4 rfl (lv_at hl 1 rfl) ?_
    refine lv_aload_n hx hb d_Wh_at_5 rfl (lv_at hl 0 rfl) ?_
    refine va_get (D := D) (ci := 0) (v := .int (iZ (k : Int))) (C := R_Wh) (T := F_Wh) (N := 2) hx hb hts i_Wh hown hK hP 0 rfl rfl 1 (by decide) (hts _ (big_in mw_94 rfl)) (fun _ h9 => h9) rfl d_Wh_at_6 ?_
    refine zz_icmp_ge (tgt := 26) hx hb d_Wh_at_9 (by decide) (by omega) (by omega) (fun c9 => ?_) (fun c9 => ?_)
    · refine lv_lconst (v := lZ (0)) hx hb d_Wh_at_26 (by decide +kernel) ?_
      have hP9 : va_P D cls0 [(h, .inr (0, [.ref a, .int (iZ (k : Int))])), (a, .inl (cI, n, .inl f))] H := hP.sub [0, 1] rfl
      have hD9 : va_D A [(h, .inr (0, [.ref a, .int (iZ (k : Int))])), (a, .inl (cI, n, .inl f))] := hD.sub [0, 1] (by decide) rfl
      rw [hQ, ← hAe]
      refine r_l (v := (lZ 0)) K 0 hS d_Wh_at_27 ?_ (fun t ht hv => ?_)
      · exact ⟨rfl, by unfold atZ; rw [if_neg (by omega)]⟩
      · exact ⟨by rw [ht]; exact hP9, va_K.moved hv hK, by rw [← hAe]; exact hD9⟩
    · refine lv_aload_n hx hb d_Wh_at_12 rfl (lv_at hl 0 rfl) ?_
      refine va_get (D := D) (ci := 0) (v := .ref a) (C := R_Wh) (T := F_Wh) (N := 2) hx hb hts i_Wh hown hK hP 0 rfl rfl 0 (by decide) (hts _ (big_in mw_90 rfl)) (fun _ h9 => h9) rfl d_Wh_at_13 ?_
      refine lv_iload_n hx hb d_Wh_at_16 rfl (lv_at hl 1 rfl) ?_
      refine zz_iald hx hb hK hP 1 0 rfl rfl (z.toNat) (by omega) (by omega) (by omega) d_Wh_at_17 ?_
      refine lv_i2l (v := (f z.toNat).toInt64) hx hb d_Wh_at_18 rfl ?_
      refine lv_ldc2 (v := 4294967295) hx hb hown (hts _ (big_in mw_398 rfl)) d_Wh_at_19 ?_
      refine zz_mask hx hb d_Wh_at_22 ?_
      have bw22 := uwZ (f z.toNat)
      refine lv_goto (tgt := 27) hx hb d_Wh_at_23 (by decide) ?_
      have hP9 : va_P D cls0 [(h, .inr (0, [.ref a, .int (iZ (k : Int))])), (a, .inl (cI, n, .inl f))] H := hP.sub [0, 1] rfl
      have hD9 : va_D A [(h, .inr (0, [.ref a, .int (iZ (k : Int))])), (a, .inl (cI, n, .inl f))] := hD.sub [0, 1] (by decide) rfl
      rw [hQ, ← hAe]
      refine r_l (v := (lZ (uw (f z.toNat) : Int))) K (uw (f z.toNat) : Int) hS d_Wh_at_27 ?_ (fun t ht hv => ?_)
      · exact ⟨rfl, by unfold atZ; rw [if_pos (by omega)]⟩
      · exact ⟨by rw [ht]; exact hP9, va_K.moved hv hK, by rw [← hAe]; exact hD9⟩
theorem Rp.one_of {f : Nat → Int32} {k v : Nat} (h : Rp f k v) (hk : (k : Int) = 1) (h0 : f 0 = iZ 1) : v = 1 := by
  have hk : k = 1 := by omega
  subst hk
  rw [← h.1, vV_s, vV_0, h0, pB_0]
  decide
theorem Rp.one_is {f : Nat → Int32} {k v : Nat} (h : Rp f k v) (hv : v = 1) : k = 1 ∧ f 0 = iZ 1 := by
  have hk : k = 1 := by rw [h.size, hv]; decide
  subst hk
  refine ⟨rfl, uw_inj ?_⟩
  have h1 := h.1
  rw [vV_s, vV_0, pB_0] at h1
  have h2 : uw (iZ 1) = 1 := by decide
  omega
theorem Rp.odd_is {f : Nat → Int32} {k v : Nat} (h : Rp f k v) : v % 2 = if k = 0 then 0 else uw (f 0) % 2 := by
  rw [← h.1]
  cases k with
  | zero => rfl
  | succ k => rw [vV_low, if_neg (by omega)]; omega
set_option maxHeartbeats 4000000 in
set_option maxRecDepth 100000 in
/-- isOne() -/
theorem c_Wh_isOne (l : Launch) (D : va_G) (h : Nat) (a : Nat) (k : Nat) (n : Nat) (f : Nat → Int32) (cI : ClassId) (v : Nat) (sz : Nat) (hr : Rp f k v) (hk : k ≤ n) (hn : n < 1000000) : Met l y_Wh_isOne (wsB y_Wh_isOne b_Wh_isOne 1 (some .boolean)) ({ frames := 0, cells := 0, slots := 0, locals := 0 }) (va_Pc [.ref h] (wPre D [(cI, .int)] [(h, .inr (0, [.ref a, .int (iZ (k : Int))])), (a, .inl (cI, n, .inl f))] sz)) (va_QV (fun (v9 : Option Value) (u9 : Int) => v9 = some (.int (iZ u9)) ∧ (u9 = if v = 1 then 1 else 0)) (fun u9 => wPost D [(cI, .int)] [(h, .inr (0, [.ref a, .int (iZ (k : Int))])), (a, .inl (cI, n, .inl f))] [(h, .inr (0, [.ref a, .int (iZ (k : Int))])), (a, .inl (cI, n, .inl f))] sz) (va_A [(h, .inr (0, [.ref a, .int (iZ (k : Int))])), (a, .inl (cI, n, .inl f))] sz)) 0 0 (va_A [(h, .inr (0, [.ref a, .int (iZ (k : Int))])), (a, .inl (cI, n, .inl f))] sz) := by
  refine met_enter (by decide +kernel) (Nat.le_of_ble_eq_true rfl) ?_
  intro p e s m args below meth c ls A R Q H locs K hin hAe hA hR hQ hP hK hD hS hl
  obtain ⟨hx, hb, hml, hrt, hlk, hts, hown, hno⟩ := id K
  have hl : lv_has ls 1 [(0, .ref h)] := hl
  refine lv_aload_n hx hb d_Wh_isOne_0 rfl (lv_at hl 0 rfl) ?_
  refine va_get (D := D) (ci := 0) (v := .int (iZ (k : Int))) (C := R_Wh) (T := F_Wh) (N := 2) hx hb hts i_Wh hown hK hP 0 rfl rfl 1 (by decide) (hts _ (big_in mw_94 rfl)) (fun _ h9 => h9) rfl d_Wh_isOne_1 ?_
  refine lv_iconst (v := iZ (1)) hx hb d_Wh_isOne_4 (by decide +kernel) ?_
  refine zz_icmp_ne (tgt := 22) hx hb d_Wh_isOne_5 (by decide) (by omega) (by omega) (fun c5 => ?_) (fun c5 => ?_)
  · refine lv_iconst (v := iZ (0)) hx hb d_Wh_isOne_22 (by decide +kernel) ?_
    have hP9 : va_P D cls0 [(h, .inr (0, [.ref a, .int (iZ (k : Int))])), (a, .inl (cI, n, .inl f))] H := hP.sub [0, 1] rfl
    have hD9 : va_D A [(h, .inr (0, [.ref a, .int (iZ (k : Int))])), (a, .inl (cI, n, .inl f))] := hD.sub [0, 1] (by decide) rfl
    rw [hQ, ← hAe]
    refine r_z (v := (iZ 0)) K 0 hS rfl d_Wh_isOne_23 ?_ (fun t ht hv => ?_)
    · refine ⟨rfl, ?_⟩
      rw [if_neg]
      intro h1
      obtain ⟨h2, h3⟩ := Rp.one_is hr h1
      first | omega | exact c15 h3
    · exact ⟨by rw [ht]; exact hP9, va_K.moved hv hK, by rw [← hAe]; exact hD9⟩
  · refine lv_aload_n hx hb d_Wh_isOne_8 rfl (lv_at hl 0 rfl) ?_
    refine va_get (D := D) (ci := 0) (v := .ref a) (C := R_Wh) (T := F_Wh) (N := 2) hx hb hts i_Wh hown hK hP 0 rfl rfl 0 (by decide) (hts _ (big_in mw_90 rfl)) (fun _ h9 => h9) rfl d_Wh_isOne_9 ?_
    refine lv_iconst (v := iZ (0)) hx hb d_Wh_isOne_12 (by decide +kernel) ?_
    refine zz_iald hx hb hK hP 1 0 rfl rfl (0) (by omega) (by omega) (by omega) d_Wh_isOne_13 ?_
    refine lv_iconst (v := iZ (1)) hx hb d_Wh_isOne_14 (by decide +kernel) ?_
    refine lv_icmp_ne (tgt := 22) hx hb d_Wh_isOne_15 (by decide) (fun c15 => ?_) (fun c15 => ?_)
    · refine lv_iconst (v := iZ (0)) hx hb d_Wh_isOne_22 (by decide +kernel) ?_
      have hP9 : va_P D cls0 [(h, .inr (0, [.ref a, .int (iZ (k : Int))])), (a, .inl (cI, n, .inl f))] H := hP.sub [0, 1] rfl
      have hD9 : va_D A [(h, .inr (0, [.ref a, .int (iZ (k : Int))])), (a, .inl (cI, n, .inl f))] := hD.sub [0, 1] (by decide) rfl
      rw [hQ, ← hAe]
      refine r_z (v := (iZ 0)) K 0 hS rfl d_Wh_isOne_23 ?_ (fun t ht hv => ?_)
      · refine ⟨rfl, ?_⟩
        rw [if_neg]
        intro h1
        obtain ⟨h2, h3⟩ := Rp.one_is hr h1
        first | omega | exact c15 h3
      · exact ⟨by rw [ht]; exact hP9, va_K.moved hv hK, by rw [← hAe]; exact hD9⟩
    · refine lv_iconst (v := iZ (1)) hx hb d_Wh_isOne_18 (by decide +kernel) ?_
      refine lv_goto (tgt := 23) hx hb d_Wh_isOne_19 (by decide) ?_
      have hP9 : va_P D cls0 [(h, .inr (0, [.ref a, .int (iZ (k : Int))])), (a, .inl (cI, n, .inl f))] H := hP.sub [0, 1] rfl
      have hD9 : va_D A [(h, .inr (0, [.ref a, .int (iZ (k : Int))])), (a, .inl (cI, n, .inl f))] := hD.sub [0, 1] (by decide) rfl
      rw [hQ, ← hAe]
      refine r_z (v := (iZ 1)) K 1 hS rfl d_Wh_isOne_23 ?_ (fun t ht hv => ?_)
      · exact ⟨rfl, by rw [if_pos (Rp.one_of hr (by omega) c15)]⟩
      · exact ⟨by rw [ht]; exact hP9, va_K.moved hv hK, by rw [← hAe]; exact hD9⟩
set_option maxHeartbeats 4000000 in
set_option maxRecDepth 100000 in
/-- isOdd() -/
theorem c_Wh_isOdd (l : Launch) (D : va_G) (h : Nat) (a : Nat) (k : Nat) (n : Nat) (f : Nat → Int32) (cI : ClassId) (v : Nat) (sz : Nat) (hr : Rp f k v) (hk : k ≤ n) (hn : n < 1000000) : Met l y_Wh_isOdd (wsB y_Wh_isOdd b_Wh_isOdd 1 (some .boolean)) ({ frames := 0, cells := 0, slots := 0, locals := 0 }) (va_Pc [.ref h] (wPre D [(cI, .int)] [(h, .inr (0, [.ref a, .int (iZ (k : Int))])), (a, .inl (cI, n, .inl f))] sz)) (va_QV (fun (v9 : Option Value) (u9 : Int) => v9 = some (.int (iZ u9)) ∧ (u9 = (v % 2 : Nat))) (fun u9 => wPost D [(cI, .int)] [(h, .inr (0, [.ref a, .int (iZ (k : Int))])), (a, .inl (cI, n, .inl f))] [(h, .inr (0, [.ref a, .int (iZ (k : Int))])), (a, .inl (cI, n, .inl f))] sz) (va_A [(h, .inr (0, [.ref a, .int (iZ (k : Int))])), (a, .inl (cI, n, .inl f))] sz)) 0 0 (va_A [(h, .inr (0, [.ref a, .int (iZ (k : Int))])), (a, .inl (cI, n, .inl f))] sz) := by
  refine met_enter (by decide +kernel) (Nat.le_of_ble_eq_true rfl) ?_
  intro p e s m args below meth c ls A R Q H locs K hin hAe hA hR hQ hP hK hD hS hl
  obtain ⟨hx, hb, hml, hrt, hlk, hts, hown, hno⟩ := id K
  have hl : lv_has ls 1 [(0, .ref h)] := hl
  refine lv_aload_n hx hb d_Wh_isOdd_0 rfl (lv_at hl 0 rfl) ?_
  refine va_get (D := D) (ci := 0) (v := .int (iZ (k : Int))) (C := R_Wh) (T := F_Wh) (N := 2) hx hb hts i_Wh hown hK hP 0 rfl rfl 1 (by decide) (hts _ (big_in mw_94 rfl)) (fun _ h9 => h9) rfl d_Wh_isOdd_1 ?_
  refine zz_if_le (tgt := 22) hx hb d_Wh_isOdd_4 (by decide) (by omega) (fun c4 => ?_) (fun c4 => ?_)
  · refine lv_iconst (v := iZ (0)) hx hb d_Wh_isOdd_22 (by decide +kernel) ?_
    have hP9 : va_P D cls0 [(h, .inr (0, [.ref a, .int (iZ (k : Int))])), (a, .inl (cI, n, .inl f))] H := hP.sub [0, 1] rfl
    have hD9 : va_D A [(h, .inr (0, [.ref a, .int (iZ (k : Int))])), (a, .inl (cI, n, .inl f))] := hD.sub [0, 1] (by decide) rfl
    rw [hQ, ← hAe]
    refine r_z (v := (iZ 0)) K 0 hS rfl d_Wh_isOdd_23 ?_ (fun t ht hv => ?_)
    · refine ⟨rfl, ?_⟩
      have q := hr.odd_is
      by_cases h0 : k = 0
      · rw [if_pos h0] at q; omega
      · rw [if_neg h0] at q; omega
    · exact ⟨by rw [ht]; exact hP9, va_K.moved hv hK, by rw [← hAe]; exact hD9⟩
  · refine lv_aload_n hx hb d_Wh_isOdd_7 rfl (lv_at hl 0 rfl) ?_
    refine va_get (D := D) (ci := 0) (v := .ref a) (C := R_Wh) (T := F_Wh) (N := 2) hx hb hts i_Wh hown hK hP 0 rfl rfl 0 (by decide) (hts _ (big_in mw_90 rfl)) (fun _ h9 => h9) rfl d_Wh_isOdd_8 ?_
    refine lv_iconst (v := iZ (0)) hx hb d_Wh_isOdd_11 (by decide +kernel) ?_
    refine zz_iald hx hb hK hP 1 0 rfl rfl (0) (by omega) (by omega) (by omega) d_Wh_isOdd_12 ?_
    refine lv_iconst (v := iZ (1)) hx hb d_Wh_isOdd_13 (by decide +kernel) ?_
    refine zz_iand1 hx hb d_Wh_isOdd_14 ?_
    refine zz_if_eq (tgt := 22) hx hb d_Wh_isOdd_15 (by decide) (by omega) (fun c15 => ?_) (fun c15 => ?_)
    · refine lv_iconst (v := iZ (0)) hx hb d_Wh_isOdd_22 (by decide +kernel) ?_
      have hP9 : va_P D cls0 [(h, .inr (0, [.ref a, .int (iZ (k : Int))])), (a, .inl (cI, n, .inl f))] H := hP.sub [0, 1] rfl
      have hD9 : va_D A [(h, .inr (0, [.ref a, .int (iZ (k : Int))])), (a, .inl (cI, n, .inl f))] := hD.sub [0, 1] (by decide) rfl
      rw [hQ, ← hAe]
      refine r_z (v := (iZ 0)) K 0 hS rfl d_Wh_isOdd_23 ?_ (fun t ht hv => ?_)
      · refine ⟨rfl, ?_⟩
        have q := hr.odd_is
        by_cases h0 : k = 0
        · rw [if_pos h0] at q; omega
        · rw [if_neg h0] at q; omega
      · exact ⟨by rw [ht]; exact hP9, va_K.moved hv hK, by rw [← hAe]; exact hD9⟩
    · refine lv_iconst (v := iZ (1)) hx hb d_Wh_isOdd_18 (by decide +kernel) ?_
      refine lv_goto (tgt := 23) hx hb d_Wh_isOdd_19 (by decide) ?_
      have hP9 : va_P D cls0 [(h, .inr (0, [.ref a, .int (iZ (k : Int))])), (a, .inl (cI, n, .inl f))] H := hP.sub [0, 1] rfl
      have hD9 : va_D A [(h, .inr (0, [.ref a, .int (iZ (k : Int))])), (a, .inl (cI, n, .inl f))] := hD.sub [0, 1] (by decide) rfl
      rw [hQ, ← hAe]
      refine r_z (v := (iZ 1)) K 1 hS rfl d_Wh_isOdd_23 ?_ (fun t ht hv => ?_)
      · refine ⟨rfl, ?_⟩
        have q := hr.odd_is
        by_cases h0 : k = 0
        · rw [if_pos h0] at q; omega
        · rw [if_neg h0] at q; omega
      · exact ⟨by rw [ht]; exact hP9, va_K.moved hv hK, by rw [← hAe]; exact hD9⟩
