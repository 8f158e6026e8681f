/-! PRINTED: putFigures, write -/
theorem ch_step {v i : Nat} : dg 9 (v / 10 ^ (9 * i) % 1000000000) ++ dg (9 * i) v = dg (9 * (i + 1)) v := by
  rw [show (1000000000 : Nat) = 10 ^ 9 by decide, dg_mod 9 9 _ (Nat.le_refl _), ← dg_cat]
  congr 1; omega
theorem ch_div (v i : Nat) : v / 10 ^ (9 * i) / 1000000000 = v / 10 ^ (9 * (i + 1)) := by
  rw [Nat.div_div_eq_div_mul, show (1000000000 : Nat) = 10 ^ 9 by decide, ← Nat.pow_add]
  congr 2
theorem ch_ge {v i : Nat} (h : 0 < v / 10 ^ i) : 10 ^ i ≤ v := by
  apply Nat.le_of_not_lt
  intro q
  rw [Nat.div_eq_of_lt q] at h
  omega
theorem ch_fit {v i k : Nat} (hv : v < pB k) (h : 0 < v / 10 ^ (9 * (i + 1))) : 9 * (i + 1) < 10 * k := by
  have h1 := ch_ge h
  have h2 := p10_le (k := k)
  exact (Nat.pow_lt_pow_iff_right (show 1 < 10 by decide)).mp (by omega)
theorem ch_last {v i k : Nat} (hv : v < pB k) (h : 9 * i ≤ 10 * k) : v / 10 ^ (9 * i) < 10 ^ (10 * k - 9 * i) := by
  apply Nat.div_lt_of_lt_mul
  rw [← Nat.pow_add, show 9 * i + (10 * k - 9 * i) = 10 * k by omega]
  exact Nat.lt_of_lt_of_le hv (p10_le)
theorem ch_le {v i k : Nat} (hv : v < pB k) (h : 0 < v / 10 ^ (9 * i)) : 9 * i ≤ 10 * k := by
  have h1 := ch_ge h
  have h2 := p10_le (k := k)
  have := (Nat.pow_lt_pow_iff_right (show 1 < 10 by decide)).mp (show 10 ^ (9 * i) < 10 ^ (10 * k) by omega)
  omega
/-- the last figures -/
theorem ch_end {v i k : Nat} (h0 : 0 < v / 10 ^ (9 * i)) (h1 : v / 10 ^ (9 * i) < 1000000000) (h2 : v / 10 ^ (9 * i) % 1000000000 < 10 ^ k) (h3 : k = 0 ∨ 10 ^ (k - 1) ≤ v / 10 ^ (9 * i) % 1000000000) : dg k (v / 10 ^ (9 * i) % 1000000000) ++ dg (9 * i) v = dg (k + 9 * i) v ∧ IsD v (k + 9 * i) := by
  rw [Nat.mod_eq_of_lt h1] at h2 h3 ⊢
  have hk : 0 < k := by
    rcases Nat.eq_zero_or_pos k with q | q
    · rw [q, Nat.pow_zero] at h2; omega
    · exact q
  refine ⟨(dg_cat _ _ _).symm, by omega, ?_, Or.inr ?_⟩
  · rw [Nat.pow_add, Nat.mul_comm]
    exact Nat.lt_of_lt_of_le (Nat.lt_mul_div_succ v (Nat.pow_pos (by decide))) (Nat.mul_le_mul_left _ h2)
  · rcases h3 with q | q
    · omega
    · rw [show k + 9 * i - 1 = (k - 1) + 9 * i by omega, Nat.pow_add]
      exact Nat.le_trans (Nat.mul_le_mul_right _ q) (Nat.div_mul_le_self _ _)
set_option maxHeartbeats 4000000 in
set_option maxRecDepth 100000 in
/-- putFigures(number) -/
theorem c_Pr_putFigures (l : Launch) (D : va_G) (hp_ : Nat) (aq : Nat) (nq : Nat) (fq : Nat → Int32) (fr : Nat) (cC : ClassId) (h4 : Nat) (a4 : Nat) (k4 : Nat) (f4 : Nat → Int32) (n : Nat) (cI : ClassId) (li : List Nat) (v4 : Nat) (sz : Nat) (hT : TX fq fr nq li) (hnq : nq ≤ 20000) (r4 : Rp f4 k4 v4) (hk4 : k4 ≤ n) (hn : n ≤ 2240) (hfr : 10 * k4 ≤ fr) (h1fr : 1 ≤ fr) (hkq : 2 * k4 ≤ nq) : Met l y_Pr_putFigures (wsB y_Pr_putFigures b_Pr_putFigures 4 none) ({ frames := 2, cells := 0, slots := 0, locals := 54 }) (va_Pc [.ref hp_, .ref h4] (wPre D [(cC, .char), (cI, .int)] [(hp_, .inr (6, [.ref aq, .int (iZ (fr : Int))])), (aq, .inl (cC, nq, .inl fq)), (h4, .inr (0, [.ref a4, .int (iZ (k4 : Int))])), (a4, .inl (cI, n, .inl f4))] sz)) (va_QV (fun (v_9 : Option Value) (u_9 : Nat × (Nat → Int32) × Nat × Nat × (Nat → Int32)) => v_9 = none ∧ (TX u_9.2.1 u_9.1 nq (dg u_9.2.2.1 v4 ++ li)) ∧ (IsD v4 u_9.2.2.1)) (fun u_9 => wPost D [(cC, .char), (cI, .int)] [(hp_, .inr (6, [.ref aq, .int (iZ (fr : Int))])), (aq, .inl (cC, nq, .inl fq)), (h4, .inr (0, [.ref a4, .int (iZ (k4 : Int))])), (a4, .inl (cI, n, .inl f4))] [(hp_, .inr (6, [.ref aq, .int (iZ (u_9.1 : Int))])), (aq, .inl (cC, nq, .inl u_9.2.1)), (h4, .inr (0, [.ref a4, .int (iZ (u_9.2.2.2.1 : Int))])), (a4, .inl (cI, n, .inl u_9.2.2.2.2))] sz) (va_A [(hp_, .inr (6, [.ref aq, .int (iZ (fr : Int))])), (aq, .inl (cC, nq, .inl fq)), (h4, .inr (0, [.ref a4, .int (iZ (k4 : Int))])), (a4, .inl (cI, n, .inl f4))] sz)) 0 0 (va_A [(hp_, .inr (6, [.ref aq, .int (iZ (fr : Int))])), (aq, .inl (cC, nq, .inl fq)), (h4, .inr (0, [.ref a4, .int (iZ (k4 : Int))])), (a4, .inl (cI, n, .inl f4))] sz) := by
  refine met_enter (by decide +kernel) (Nat.le_of_ble_eq_true rfl) ?_
  intro p e s m args below meth c ls A R Q H locs K hin hAe hA hR hQ hP hK hD hS hl
  obtain ⟨hx, hb, hml, hrt, hlk, hts, hown, hno⟩ := id K
  have hl : lv_has ls 4 [(0, .ref hp_), (1, .ref h4)] := hl
  have hTl := hT.1
  have L15a : ∀ (N : Nat) (i : Nat) (fx : Nat) (gx : Nat → Int32) (kx : Nat) (ex : Nat → Int32) (H : Heap) (locs : List Loc) (ls : Array Slot), nq - i < N → (TX gx fx nq (dg (9 * i) v4 ++ li)) → (Rp ex kx (v4 / 10 ^ (9 * i))) → (kx ≤ k4) → (0 < v4 / 10 ^ (9 * i)) → (i ≤ nq) → va_P D cls0 [(hp_, .inr (6, [.ref aq, .int (iZ (fx : Int))])), (aq, .inl (cC, nq, .inl gx)), (h4, .inr (0, [.ref a4, .int (iZ (kx : Int))])), (a4, .inl (cI, n, .inl ex))] H → va_D A [(hp_, .inr (6, [.ref aq, .int (iZ (fx : Int))])), (aq, .inl (cC, nq, .inl gx)), (h4, .inr (0, [.ref a4, .int (iZ (kx : Int))])), (a4, .inl (cI, n, .inl ex))] → va_S A s.heap H locs → lv_has ls 4 [(0, .ref hp_), (1, .ref h4), (2, .int (iZ (i : Int)))] → W p l e R s m args below meth c H locs 0 0 Q (F0 m 15 ls []) := by
    intro N
    induction N with
    | zero => intro i fx gx kx ex H locs ls hN; exact absurd hN (Nat.not_lt_zero _)
    | succ N ih =>
      intro i fx gx kx ex H locs ls hN iT ir ik ip ii hP hD hS hl
      refine lv_iload_n hx hb d_Pr_putFigures_15 rfl (lv_at hl 2 rfl) ?_
      refine lv_aload_n hx hb d_Pr_putFigures_16 rfl (lv_at hl 0 rfl) ?_
      refine va_get (D := D) (ci := 6) (v := .ref aq) (C := R_Pr) (T := F_Pr) (N := 2) hx hb hts i_Pr hown hK hP 0 rfl rfl 0 (by decide) (hts _ (big_in mw_171 rfl)) (fun _ h9 => h9) rfl d_Pr_putFigures_17 ?_
      refine va_alen hx hb hK hP 1 0 rfl rfl (v := iZ (nq : Int)) (nI_iZ _) d_Pr_putFigures_20 ?_
      refine zz_icmp_ge (tgt := 63) hx hb d_Pr_putFigures_21 (by decide) (by omega) (by omega) (fun c21 => ?_) (fun c21 => ?_)
      · exfalso
        have hl9 := r4.lt
        first | (have q := ir.pos; omega) | (have q := ch_le hl9 ip; omega)
      · have hTx := iT.1
        rw [List.length_append, dg_len] at hTx
        have hTl := hT.1
        refine lv_aload_n hx hb d_Pr_putFigures_24 rfl (lv_at hl 1 rfl) ?_
        refine va_get (D := D) (ci := 0) (v := .int (iZ (kx : Int))) (C := R_Wh) (T := F_Wh) (N := 2) hx hb hts i_Wh hown hK hP 2 rfl rfl 1 (by decide) (hts _ (big_in mw_96 rfl)) (fun _ h9 => h9) rfl d_Pr_putFigures_25 ?_
        refine zz_if_le (tgt := 63) hx hb d_Pr_putFigures_28 (by decide) (by omega) (fun c28 => ?_) (fun c28 => ?_)
        · exfalso
          have hl9 := r4.lt
          first | (have q := ir.pos; omega) | (have q := ch_le hl9 ip; omega)
        · refine lv_aload_n hx hb d_Pr_putFigures_31 rfl (lv_at hl 1 rfl) ?_
          refine lv_ldc2 (v := lZ (1000000000)) hx hb hown (hts _ (big_in mw_1100 rfl)) d_Pr_putFigures_32 ?_
          refine cv (n := 1) (wr := [(hp_, .inr (6, [.ref aq, .int (iZ (fx : Int))])), (aq, .inl (cC, nq, .inl gx))]) (w1 := (fun (u : Nat × (Nat → Int32)) => [(h4, .inr (0, [.ref a4, .int (iZ (u.1 : Int))])), (a4, .inl (cI, n, .inl u.2))])) (As := [.long (lZ 1000000000)]) (rest := []) K hP hD hK hS hA hl.1 (c_Wh_divideByLimb l D h4 a4 kx n ex cI (v4 / 10 ^ (9 * i)) 1000000000 H.size ir (by omega) (by omega) (by omega) (by omega)) [2, 3] [0, 1] [1] rfl rfl rfl (by decide) (by decide) (by decide) 0 rfl rfl (big_in mw_745 rfl) (big_in mw_6 rfl) (big_in mw_1101 rfl) (big_in mw_743 rfl) (big_in mw_744 rfl) rfl rfl (by decide +kernel) ⟨by rw [hR]; exact Nat.le_of_ble_eq_true rfl, by rw [hR]; exact Nat.le_of_ble_eq_true rfl⟩ rfl (Nat.le_of_ble_eq_true rfl) d_Pr_putFigures_35 ⟨by rw [hR]; exact Nat.le_of_ble_eq_true rfl, by rw [hR]; exact Nat.le_of_ble_eq_true rfl⟩ rfl (fun v u H locs hp1 hP hD hS _ => ?_)
          obtain ⟨ud, gd⟩ := u
          try dsimp only at hp1
          obtain ⟨rfl, d1, d2⟩ := hp1
          have hP : va_P D cls0 [(hp_, .inr (6, [.ref aq, .int (iZ (fx : Int))])), (aq, .inl (cC, nq, .inl gx)), (h4, .inr (0, [.ref a4, .int (iZ (ud : Int))])), (a4, .inl (cI, n, .inl gd))] H := hP
          have hD : va_D A [(hp_, .inr (6, [.ref aq, .int (iZ (fx : Int))])), (aq, .inl (cC, nq, .inl gx)), (h4, .inr (0, [.ref a4, .int (iZ (ud : Int))])), (a4, .inl (cI, n, .inl gd))] := hD
          show W p l e R s m args below meth c H locs _ _ Q (F0 m 38 ls [.long (lZ (((v4 / 10 ^ (9 * i)) % 1000000000 : Nat) : Int))])
          refine zz_l2i hx hb d_Pr_putFigures_38 ?_
          refine lv_istore_n (lv' := [(3, .int (iZ (((v4 / 10 ^ (9 * i)) % 1000000000 : Nat) : Int))), (0, .ref hp_), (1, .ref h4), (2, .int (iZ (i : Int)))]) hx hb d_Pr_putFigures_39 rfl hl (by decide) rfl (fun ls hl => ?_)
          refine lv_aload_n hx hb d_Pr_putFigures_40 rfl (lv_at hl 1 rfl) ?_
          refine lv_iload_n hx hb d_Pr_putFigures_41 rfl (lv_at hl 0 rfl) ?_
          refine lv_aload_n hx hb d_Pr_putFigures_42 rfl (lv_at hl 2 rfl) ?_
          refine va_get (D := D) (ci := 0) (v := .int (iZ (ud : Int))) (C := R_Wh) (T := F_Wh) (N := 2) hx hb hts i_Wh hown hK hP 2 rfl rfl 1 (by decide) (hts _ (big_in mw_96 rfl)) (fun _ h9 => h9) rfl d_Pr_putFigures_43 ?_
          refine zz_if_le (tgt := 53) hx hb d_Pr_putFigures_46 (by decide) (by omega) (fun c46 => ?_) (fun c46 => ?_)
          · refine lv_iconst (v := iZ (0)) hx hb d_Pr_putFigures_53 (by decide +kernel) ?_
            rw [show ((((v4 / 10 ^ (9 * i)) % 1000000000 : Nat) : Int) : Int) = ((v4 / 10 ^ (9 * i) % 1000000000 : Nat) : Int) by omega]
            refine cv (n := 2) (wr := [(h4, .inr (0, [.ref a4, .int (iZ (ud : Int))])), (a4, .inl (cI, n, .inl gd))]) (w1 := (fun (u : Nat × (Nat → Int32) × Nat) => [(hp_, .inr (6, [.ref aq, .int (iZ (u.1 : Int))])), (aq, .inl (cC, nq, .inl u.2.1))])) (As := [.int (iZ ((v4 / 10 ^ (9 * i) % 1000000000 : Nat) : Int)), .int (iZ 0)]) (rest := []) K hP hD hK hS hA hl.1 (c_Pr_putNine0 l D hp_ aq nq gx fx cC (dg (9 * i) v4 ++ li) (v4 / 10 ^ (9 * i) % 1000000000) (10 * k4 - 9 * i) H.size iT hnq (Nat.mod_lt _ (by decide)) (Nat.lt_of_le_of_lt (Nat.mod_le _ _) (ch_last r4.lt (ch_le r4.lt ip))) (by have q := ch_le r4.lt ip; omega)) [0, 1] [2, 3] [0] rfl rfl rfl (by decide) (by decide) (by decide) 0 rfl rfl (big_in mw_1105 rfl) (big_in mw_8 rfl) (big_in mw_1102 rfl) (big_in mw_1104 rfl) (big_in sp_17 rfl) rfl rfl (by decide +kernel) ⟨by rw [hR]; exact Nat.le_of_ble_eq_true rfl, by rw [hR]; exact Nat.le_of_ble_eq_true rfl⟩ rfl (Nat.le_of_ble_eq_true rfl) d_Pr_putFigures_54 ⟨by rw [hR]; exact Nat.le_of_ble_eq_true rfl, by rw [hR]; exact Nat.le_of_ble_eq_true rfl⟩ rfl (fun v u H locs hp2 hP hD hS _ => ?_)
            obtain ⟨fz, gz, kn⟩ := u
            try dsimp only at hp2
            obtain ⟨rfl, pT, pk1, pk2⟩ := hp2
            have hP : va_P D cls0 [(h4, .inr (0, [.ref a4, .int (iZ (ud : Int))])), (a4, .inl (cI, n, .inl gd)), (hp_, .inr (6, [.ref aq, .int (iZ (fz : Int))])), (aq, .inl (cC, nq, .inl gz))] H := hP
            have hD : va_D A [(h4, .inr (0, [.ref a4, .int (iZ (ud : Int))])), (a4, .inl (cI, n, .inl gd)), (hp_, .inr (6, [.ref aq, .int (iZ (fz : Int))])), (aq, .inl (cC, nq, .inl gz))] := hD
            show W p l e R s m args below meth c H locs _ _ Q (F0 m 57 ls [])
            refine lv_iinc (v := iZ ((i : Int) + 1)) (lv' := [(2, .int (iZ ((i : Int) + 1))), (3, .int (iZ (((v4 / 10 ^ (9 * i)) % 1000000000 : Nat) : Int))), (0, .ref hp_), (1, .ref h4)]) hx hb d_Pr_putFigures_57 hl (k := 3) rfl (iZ_add _ _) (by decide) rfl (fun ls hl => ?_)
            refine lv_goto (tgt := 15) hx hb d_Pr_putFigures_60 (by decide) ?_
            -- the number is used up
            refine lv_iload_n hx hb d_Pr_putFigures_15 rfl (lv_at hl 0 rfl) ?_
            refine lv_aload_n hx hb d_Pr_putFigures_16 rfl (lv_at hl 2 rfl) ?_
            refine va_get (D := D) (ci := 6) (v := .ref aq) (C := R_Pr) (T := F_Pr) (N := 2) hx hb hts i_Pr hown hK hP 2 rfl rfl 0 (by decide) (hts _ (big_in mw_171 rfl)) (fun _ h9 => h9) rfl d_Pr_putFigures_17 ?_
            refine va_alen hx hb hK hP 3 0 rfl rfl (v := iZ (nq : Int)) (nI_iZ _) d_Pr_putFigures_20 ?_
            refine zz_icmp_ge (tgt := 63) hx hb d_Pr_putFigures_21 (by decide) (by omega) (by omega) (fun c21 => ?_) (fun c21 => ?_)
            · have hP9 : va_P D cls0 [(hp_, .inr (6, [.ref aq, .int (iZ (fz : Int))])), (aq, .inl (cC, nq, .inl gz)), (h4, .inr (0, [.ref a4, .int (iZ (ud : Int))])), (a4, .inl (cI, n, .inl gd))] H := hP.sub [2, 3, 0, 1] rfl
              have hD9 : va_D A [(hp_, .inr (6, [.ref aq, .int (iZ (fz : Int))])), (aq, .inl (cC, nq, .inl gz)), (h4, .inr (0, [.ref a4, .int (iZ (ud : Int))])), (a4, .inl (cI, n, .inl gd))] := hD.sub [2, 3, 0, 1] (by decide) rfl
              rw [hQ, ← hAe]
              refine r_v K (fz, gz, kn + 9 * i, ud, gd) hS d_Pr_putFigures_63 ?_ (fun t ht hv => ?_)
              · try dsimp only
                have hq0 : v4 / 10 ^ (9 * i) < 1000000000 := by
                  have q := d1.pos
                  have q2 : v4 / 10 ^ (9 * i) / 1000000000 = 0 := by omega
                  rcases Nat.div_eq_zero_iff.mp q2 with z | z
                  · omega
                  · exact z
                obtain ⟨z1, z2⟩ := ch_end ip hq0 pk1 pk2
                exact ⟨rfl, by rw [← List.append_assoc, z1] at pT; exact pT, z2⟩
              · exact ⟨by rw [ht]; exact hP9, va_K.moved hv hK, by rw [← hAe]; exact hD9⟩
            · refine lv_aload_n hx hb d_Pr_putFigures_24 rfl (lv_at hl 3 rfl) ?_
              refine va_get (D := D) (ci := 0) (v := .int (iZ (ud : Int))) (C := R_Wh) (T := F_Wh) (N := 2) hx hb hts i_Wh hown hK hP 0 rfl rfl 1 (by decide) (hts _ (big_in mw_96 rfl)) (fun _ h9 => h9) rfl d_Pr_putFigures_25 ?_
              refine zz_if_le (tgt := 63) hx hb d_Pr_putFigures_28 (by decide) (by omega) (fun c28 => ?_) (fun c28 => False.elim (by omega))
              have hP9 : va_P D cls0 [(hp_, .inr (6, [.ref aq, .int (iZ (fz : Int))])), (aq, .inl (cC, nq, .inl gz)), (h4, .inr (0, [.ref a4, .int (iZ (ud : Int))])), (a4, .inl (cI, n, .inl gd))] H := hP.sub [2, 3, 0, 1] rfl
              have hD9 : va_D A [(hp_, .inr (6, [.ref aq, .int (iZ (fz : Int))])), (aq, .inl (cC, nq, .inl gz)), (h4, .inr (0, [.ref a4, .int (iZ (ud : Int))])), (a4, .inl (cI, n, .inl gd))] := hD.sub [2, 3, 0, 1] (by decide) rfl
              rw [hQ, ← hAe]
              refine r_v K (fz, gz, kn + 9 * i, ud, gd) hS d_Pr_putFigures_63 ?_ (fun t ht hv => ?_)
              · try dsimp only
                have hq0 : v4 / 10 ^ (9 * i) < 1000000000 := by
                  have q := d1.pos
                  have q2 : v4 / 10 ^ (9 * i) / 1000000000 = 0 := by omega
                  rcases Nat.div_eq_zero_iff.mp q2 with z | z
                  · omega
                  · exact z
                obtain ⟨z1, z2⟩ := ch_end ip hq0 pk1 pk2
                exact ⟨rfl, by rw [← List.append_assoc, z1] at pT; exact pT, z2⟩
              · exact ⟨by rw [ht]; exact hP9, va_K.moved hv hK, by rw [← hAe]; exact hD9⟩
          · refine lv_iconst (v := iZ (1)) hx hb d_Pr_putFigures_49 (by decide +kernel) ?_
            refine lv_goto (tgt := 54) hx hb d_Pr_putFigures_50 (by decide) ?_
            rw [show ((((v4 / 10 ^ (9 * i)) % 1000000000 : Nat) : Int) : Int) = ((v4 / 10 ^ (9 * i) % 1000000000 : Nat) : Int) by omega]
            refine cv (n := 2) (wr := [(h4, .inr (0, [.ref a4, .int (iZ (ud : Int))])), (a4, .inl (cI, n, .inl gd))]) (w1 := (fun (u : Nat × (Nat → Int32)) => [(hp_, .inr (6, [.ref aq, .int (iZ (u.1 : Int))])), (aq, .inl (cC, nq, .inl u.2))])) (As := [.int (iZ ((v4 / 10 ^ (9 * i) % 1000000000 : Nat) : Int)), .int (iZ 1)]) (rest := []) K hP hD hK hS hA hl.1 (c_Pr_putNine1 l D hp_ aq nq gx fx cC (dg (9 * i) v4 ++ li) (v4 / 10 ^ (9 * i) % 1000000000) H.size iT hnq (Nat.mod_lt _ (by decide)) (by have q := ch_fit (i := i) r4.lt (by rw [← ch_div]; exact d1.pos.mpr (by omega)); omega)) [0, 1] [2, 3] [0] rfl rfl rfl (by decide) (by decide) (by decide) 0 rfl rfl (big_in mw_1105 rfl) (big_in mw_8 rfl) (big_in mw_1102 rfl) (big_in mw_1104 rfl) (big_in sp_17 rfl) rfl rfl (by decide +kernel) ⟨by rw [hR]; exact Nat.le_of_ble_eq_true rfl, by rw [hR]; exact Nat.le_of_ble_eq_true rfl⟩ rfl (Nat.le_of_ble_eq_true rfl) d_Pr_putFigures_54 ⟨by rw [hR]; exact Nat.le_of_ble_eq_true rfl, by rw [hR]; exact Nat.le_of_ble_eq_true rfl⟩ rfl (fun v u H locs hp3 hP hD hS _ => ?_)
            obtain ⟨fz, gz⟩ := u
            try dsimp only at hp3
            obtain ⟨rfl, pT⟩ := hp3
            have hP : va_P D cls0 [(h4, .inr (0, [.ref a4, .int (iZ (ud : Int))])), (a4, .inl (cI, n, .inl gd)), (hp_, .inr (6, [.ref aq, .int (iZ (fz : Int))])), (aq, .inl (cC, nq, .inl gz))] H := hP
            have hD : va_D A [(h4, .inr (0, [.ref a4, .int (iZ (ud : Int))])), (a4, .inl (cI, n, .inl gd)), (hp_, .inr (6, [.ref aq, .int (iZ (fz : Int))])), (aq, .inl (cC, nq, .inl gz))] := hD
            show W p l e R s m args below meth c H locs _ _ Q (F0 m 57 ls [])
            refine lv_iinc (v := iZ ((i : Int) + 1)) (lv' := [(2, .int (iZ ((i : Int) + 1))), (3, .int (iZ (((v4 / 10 ^ (9 * i)) % 1000000000 : Nat) : Int))), (0, .ref hp_), (1, .ref h4)]) hx hb d_Pr_putFigures_57 hl (k := 3) rfl (iZ_add _ _) (by decide) rfl (fun ls hl => ?_)
            refine lv_goto (tgt := 15) hx hb d_Pr_putFigures_60 (by decide) ?_
            rw [show ((i : Int) + 1 : Int) = ((i + 1 : Nat) : Int) by omega] at hl
            exact ih (i + 1) fz gz ud gd _ _ _ (by omega) (by rw [← List.append_assoc, ch_step] at pT; exact pT) (by rw [← ch_div]; exact d1) (by omega) (by rw [← ch_div]; exact d1.pos.mpr (by omega)) (by omega) (hP.sub (ws' := [(hp_, .inr (6, [.ref aq, .int (iZ (fz : Int))])), (aq, .inl (cC, nq, .inl gz)), (h4, .inr (0, [.ref a4, .int (iZ (ud : Int))])), (a4, .inl (cI, n, .inl gd))]) [2, 3, 0, 1] rfl) (hD.sub (ws' := [(hp_, .inr (6, [.ref aq, .int (iZ (fz : Int))])), (aq, .inl (cC, nq, .inl gz)), (h4, .inr (0, [.ref a4, .int (iZ (ud : Int))])), (a4, .inl (cI, n, .inl gd))]) [2, 3, 0, 1] (by decide) rfl) hS (lv_sub hl [2, 3, 0] rfl)
  refine lv_aload_n hx hb d_Pr_putFigures_0 rfl (lv_at hl 1 rfl) ?_
  refine va_get (D := D) (ci := 0) (v := .int (iZ (k4 : Int))) (C := R_Wh) (T := F_Wh) (N := 2) hx hb hts i_Wh hown hK hP 2 rfl rfl 1 (by decide) (hts _ (big_in mw_96 rfl)) (fun _ h9 => h9) rfl d_Pr_putFigures_1 ?_
  refine zz_if_ne (tgt := 13) hx hb d_Pr_putFigures_4 (by decide) (by omega) (fun c4 => ?_) (fun c4 => ?_)
  · refine lv_iconst (v := iZ (0)) hx hb d_Pr_putFigures_13 (by decide +kernel) ?_
    refine lv_istore_n (lv' := [(2, .int (iZ 0)), (0, .ref hp_), (1, .ref h4)]) hx hb d_Pr_putFigures_14 rfl hl (by decide) rfl (fun ls hl => ?_)
    exact L15a _ 0 fr fq k4 f4 _ _ _ (Nat.lt_succ_self _) hT (by rw [Nat.mul_zero, Nat.pow_zero, Nat.div_one]; exact r4) (by omega) (by rw [Nat.mul_zero, Nat.pow_zero, Nat.div_one]; have := r4.pos; omega) (by omega) (hP.sub (ws' := [(hp_, .inr (6, [.ref aq, .int (iZ (fr : Int))])), (aq, .inl (cC, nq, .inl fq)), (h4, .inr (0, [.ref a4, .int (iZ (k4 : Int))])), (a4, .inl (cI, n, .inl f4))]) [0, 1, 2, 3] rfl) (hD.sub (ws' := [(hp_, .inr (6, [.ref aq, .int (iZ (fr : Int))])), (aq, .inl (cC, nq, .inl fq)), (h4, .inr (0, [.ref a4, .int (iZ (k4 : Int))])), (a4, .inl (cI, n, .inl f4))]) [0, 1, 2, 3] (by decide) rfl) hS (lv_sub hl [1, 2, 0] rfl)
  · refine lv_aload_n hx hb d_Pr_putFigures_7 rfl (lv_at hl 0 rfl) ?_
    refine lv_bipush (v := iZ (48)) hx hb d_Pr_putFigures_8 (by decide +kernel) ?_
    refine cv (n := 1) (wr := [(h4, .inr (0, [.ref a4, .int (iZ (k4 : Int))])), (a4, .inl (cI, n, .inl f4))]) (w1 := (fun (u : Nat × (Nat → Int32)) => [(hp_, .inr (6, [.ref aq, .int (iZ (u.1 : Int))])), (aq, .inl (cC, nq, .inl u.2))])) (As := [.int (iZ 48)]) (rest := []) K hP hD hK hS hA hl.1 (c_Pr_put l D hp_ aq nq fq fr cC li 48 H.size hT (by omega) (by omega) (by omega)) [0, 1] [2, 3] [0] rfl rfl rfl (by decide) (by decide) (by decide) 0 rfl rfl (big_in mw_1099 rfl) (big_in mw_8 rfl) (big_in mw_1096 rfl) (big_in mw_1098 rfl) (big_in sp_16 rfl) rfl rfl (by decide +kernel) ⟨by rw [hR]; exact Nat.le_of_ble_eq_true rfl, by rw [hR]; exact Nat.le_of_ble_eq_true rfl⟩ rfl (Nat.le_of_ble_eq_true rfl) d_Pr_putFigures_10 ⟨by rw [hR]; exact Nat.le_of_ble_eq_true rfl, by rw [hR]; exact Nat.le_of_ble_eq_true rfl⟩ rfl (fun v u H locs hp4 hP hD hS _ => ?_)
    obtain ⟨fz, gz⟩ := u
    try dsimp only at hp4
    obtain ⟨rfl, pT⟩ := hp4
    have hP : va_P D cls0 [(h4, .inr (0, [.ref a4, .int (iZ (k4 : Int))])), (a4, .inl (cI, n, .inl f4)), (hp_, .inr (6, [.ref aq, .int (iZ (fz : Int))])), (aq, .inl (cC, nq, .inl gz))] H := hP
    have hD : va_D A [(h4, .inr (0, [.ref a4, .int (iZ (k4 : Int))])), (a4, .inl (cI, n, .inl f4)), (hp_, .inr (6, [.ref aq, .int (iZ (fz : Int))])), (aq, .inl (cC, nq, .inl gz))] := hD
    show W p l e R s m args below meth c H locs _ _ Q (F0 m 13 ls [])
    refine lv_iconst (v := iZ (0)) hx hb d_Pr_putFigures_13 (by decide +kernel) ?_
    refine lv_istore_n (lv' := [(2, .int (iZ 0)), (0, .ref hp_), (1, .ref h4)]) hx hb d_Pr_putFigures_14 rfl hl (by decide) rfl (fun ls hl => ?_)
    -- the number is used up
    refine lv_iload_n hx hb d_Pr_putFigures_15 rfl (lv_at hl 0 rfl) ?_
    refine lv_aload_n hx hb d_Pr_putFigures_16 rfl (lv_at hl 1 rfl) ?_
    refine va_get (D := D) (ci := 6) (v := .ref aq) (C := R_Pr) (T := F_Pr) (N := 2) hx hb hts i_Pr hown hK hP 2 rfl rfl 0 (by decide) (hts _ (big_in mw_171 rfl)) (fun _ h9 => h9) rfl d_Pr_putFigures_17 ?_
    refine va_alen hx hb hK hP 3 0 rfl rfl (v := iZ (nq : Int)) (nI_iZ _) d_Pr_putFigures_20 ?_
    refine zz_icmp_ge (tgt := 63) hx hb d_Pr_putFigures_21 (by decide) (by omega) (by omega) (fun c21 => ?_) (fun c21 => ?_)
    · have hP9 : va_P D cls0 [(hp_, .inr (6, [.ref aq, .int (iZ (fz : Int))])), (aq, .inl (cC, nq, .inl gz)), (h4, .inr (0, [.ref a4, .int (iZ (k4 : Int))])), (a4, .inl (cI, n, .inl f4))] H := hP.sub [2, 3, 0, 1] rfl
      have hD9 : va_D A [(hp_, .inr (6, [.ref aq, .int (iZ (fz : Int))])), (aq, .inl (cC, nq, .inl gz)), (h4, .inr (0, [.ref a4, .int (iZ (k4 : Int))])), (a4, .inl (cI, n, .inl f4))] := hD.sub [2, 3, 0, 1] (by decide) rfl
      rw [hQ, ← hAe]
      refine r_v K (fz, gz, 1, k4, f4) hS d_Pr_putFigures_63 ?_ (fun t ht hv => ?_)
      · try dsimp only
        have h0 : v4 = 0 := by have := r4.pos; omega
        subst h0
        exact ⟨rfl, pT, ⟨by decide, by decide, Or.inl rfl⟩⟩
      · exact ⟨by rw [ht]; exact hP9, va_K.moved hv hK, by rw [← hAe]; exact hD9⟩
    · refine lv_aload_n hx hb d_Pr_putFigures_24 rfl (lv_at hl 2 rfl) ?_
      refine va_get (D := D) (ci := 0) (v := .int (iZ (k4 : Int))) (C := R_Wh) (T := F_Wh) (N := 2) hx hb hts i_Wh hown hK hP 0 rfl rfl 1 (by decide) (hts _ (big_in mw_96 rfl)) (fun _ h9 => h9) rfl d_Pr_putFigures_25 ?_
      refine zz_if_le (tgt := 63) hx hb d_Pr_putFigures_28 (by decide) (by omega) (fun c28 => ?_) (fun c28 => False.elim (by omega))
      have hP9 : va_P D cls0 [(hp_, .inr (6, [.ref aq, .int (iZ (fz : Int))])), (aq, .inl (cC, nq, .inl gz)), (h4, .inr (0, [.ref a4, .int (iZ (k4 : Int))])), (a4, .inl (cI, n, .inl f4))] H := hP.sub [2, 3, 0, 1] rfl
      have hD9 : va_D A [(hp_, .inr (6, [.ref aq, .int (iZ (fz : Int))])), (aq, .inl (cC, nq, .inl gz)), (h4, .inr (0, [.ref a4, .int (iZ (k4 : Int))])), (a4, .inl (cI, n, .inl f4))] := hD.sub [2, 3, 0, 1] (by decide) rfl
      rw [hQ, ← hAe]
      refine r_v K (fz, gz, 1, k4, f4) hS d_Pr_putFigures_63 ?_ (fun t ht hv => ?_)
      · try dsimp only
        have h0 : v4 = 0 := by have := r4.pos; omega
        subst h0
        exact ⟨rfl, pT, ⟨by decide, by decide, Or.inl rfl⟩⟩
      · exact ⟨by rw [ht]; exact hP9, va_K.moved hv hK, by rw [← hAe]; exact hD9⟩
set_option maxHeartbeats 4000000 in
set_option maxRecDepth 100000 in
/-- write(x) -/
theorem c_Pr_write (l : Launch) (D : va_G) (hp_ : Nat) (aq : Nat) (nq : Nat) (fq : Nat → Int32) (cC : ClassId) (qf : Int32) (rb : Nat) (s4 : Int) (h4 : Nat) (a4 : Nat) (k4 : Nat) (f4 : Nat → Int32) (h5 : Nat) (a5 : Nat) (k5 : Nat) (f5 : Nat → Int32) (n : Nat) (cI : ClassId) (v4 : Nat) (v5 : Nat) (ro : Nat) (sz : Nat) (hnq : nq ≤ 20000) (hro : nq = 10 * ro + 2) (r4 : Rp f4 k4 v4) (r5 : Rp f5 k5 v5) (hkk : k4 + k5 ≤ ro) (hkn : ro ≤ n) (hn : n ≤ 2240) (h50 : 0 < v5) (hs4 : -1 ≤ s4 ∧ s4 ≤ 1) (e4 : s4 = 0 ↔ v4 = 0) (hcp : v4 = 0 → v5 = 1) : Met l y_Pr_write (wsB y_Pr_write b_Pr_write 2 none) ({ frames := 3, cells := 0, slots := 0, locals := 77 }) (va_Pc [.ref hp_, .ref rb] (wPre D [(cC, .char), (cI, .int)] [(hp_, .inr (6, [.ref aq, .int qf])), (aq, .inl (cC, nq, .inl fq)), (rb, .inr (1, [.int (iZ s4), .ref h4, .ref h5])), (h4, .inr (0, [.ref a4, .int (iZ (k4 : Int))])), (a4, .inl (cI, n, .inl f4)), (h5, .inr (0, [.ref a5, .int (iZ (k5 : Int))])), (a5, .inl (cI, n, .inl f5))] sz)) (va_QV (fun (v_9 : Option Value) (u_9 : Nat × (Nat → Int32) × Nat × Nat × Nat × (Nat → Int32) × Nat × (Nat → Int32)) => v_9 = none ∧ (TX u_9.2.1 u_9.1 nq ((if s4 < 0 then [45] else []) ++ (dg u_9.2.2.1 v4 ++ (if v5 = 1 then [] else 47 :: dg u_9.2.2.2.1 v5)))) ∧ (IsD v4 u_9.2.2.1) ∧ (v5 ≠ 1 → IsD v5 u_9.2.2.2.1)) (fun u_9 => wPost D [(cC, .char), (cI, .int)] [(hp_, .inr (6, [.ref aq, .int qf])), (aq, .inl (cC, nq, .inl fq)), (rb, .inr (1, [.int (iZ s4), .ref h4, .ref h5])), (h4, .inr (0, [.ref a4, .int (iZ (k4 : Int))])), (a4, .inl (cI, n, .inl f4)), (h5, .inr (0, [.ref a5, .int (iZ (k5 : Int))])), (a5, .inl (cI, n, .inl f5))] [(hp_, .inr (6, [.ref aq, .int (iZ (u_9.1 : Int))])), (aq, .inl (cC, nq, .inl u_9.2.1)), (rb, .inr (1, [.int (iZ s4), .ref h4, .ref h5])), (h4, .inr (0, [.ref a4, .int (iZ (u_9.2.2.2.2.1 : Int))])), (a4, .inl (cI, n, .inl u_9.2.2.2.2.2.1)), (h5, .inr (0, [.ref a5, .int (iZ (u_9.2.2.2.2.2.2.1 : Int))])), (a5, .inl (cI, n, .inl u_9.2.2.2.2.2.2.2))] sz) (va_A [(hp_, .inr (6, [.ref aq, .int qf])), (aq, .inl (cC, nq, .inl fq)), (rb, .inr (1, [.int (iZ s4), .ref h4, .ref h5])), (h4, .inr (0, [.ref a4, .int (iZ (k4 : Int))])), (a4, .inl (cI, n, .inl f4)), (h5, .inr (0, [.ref a5, .int (iZ (k5 : Int))])), (a5, .inl (cI, n, .inl f5))] sz)) 0 0 (va_A [(hp_, .inr (6, [.ref aq, .int qf])), (aq, .inl (cC, nq, .inl fq)), (rb, .inr (1, [.int (iZ s4), .ref h4, .ref h5])), (h4, .inr (0, [.ref a4, .int (iZ (k4 : Int))])), (a4, .inl (cI, n, .inl f4)), (h5, .inr (0, [.ref a5, .int (iZ (k5 : Int))])), (a5, .inl (cI, n, .inl f5))] sz) := by
  refine met_enter (by decide +kernel) (Nat.le_of_ble_eq_true rfl) ?_
  intro p e s m args below meth c ls A R Q H locs K hin hAe hA hR hQ hP hK hD hS hl
  obtain ⟨hx, hb, hml, hrt, hlk, hts, hown, hno⟩ := id K
  have hl : lv_has ls 2 [(0, .ref hp_), (1, .ref rb)] := hl
  have hp5 := r5.pos
  refine lv_aload_n hx hb d_Pr_write_0 rfl (lv_at hl 0 rfl) ?_
  refine lv_aload_n hx hb d_Pr_write_1 rfl (lv_at hl 0 rfl) ?_
  refine va_get (D := D) (ci := 6) (v := .ref aq) (C := R_Pr) (T := F_Pr) (N := 2) hx hb hts i_Pr hown hK hP 0 rfl rfl 0 (by decide) (hts _ (big_in mw_171 rfl)) (fun _ h9 => h9) rfl d_Pr_write_2 ?_
  refine va_alen hx hb hK hP 1 0 rfl rfl (v := iZ (nq : Int)) (nI_iZ _) d_Pr_write_5 ?_
  refine va_put (D := D) (ci := 6) (v := .int (iZ (nq : Int))) (ty := .int) (C := R_Pr) (T := F_Pr) (N := 2) hx hb hts i_Pr t_Pr t_Pr_ok n_Pr hown hK hP hD hS 0 rfl rfl 1 (by decide) (hts _ (big_in mw_172 rfl)) (fun _ h9 => h9) rfl (by decide +kernel) rfl rfl (Nat.le_of_ble_eq_true rfl) d_Pr_write_6 (fun H locs hP hD hS => ?_)
  have hP : va_P D cls0 [(hp_, .inr (6, [.ref aq, .int (iZ (nq : Int))])), (aq, .inl (cC, nq, .inl fq)), (rb, .inr (1, [.int (iZ s4), .ref h4, .ref h5])), (h4, .inr (0, [.ref a4, .int (iZ (k4 : Int))])), (a4, .inl (cI, n, .inl f4)), (h5, .inr (0, [.ref a5, .int (iZ (k5 : Int))])), (a5, .inl (cI, n, .inl f5))] H := hP
  have hD : va_D A [(hp_, .inr (6, [.ref aq, .int (iZ (nq : Int))])), (aq, .inl (cC, nq, .inl fq)), (rb, .inr (1, [.int (iZ s4), .ref h4, .ref h5])), (h4, .inr (0, [.ref a4, .int (iZ (k4 : Int))])), (a4, .inl (cI, n, .inl f4)), (h5, .inr (0, [.ref a5, .int (iZ (k5 : Int))])), (a5, .inl (cI, n, .inl f5))] := hD
  refine lv_aload_n hx hb d_Pr_write_9 rfl (lv_at hl 1 rfl) ?_
  refine va_get (D := D) (ci := 1) (v := .ref h5) (C := R_Ra) (T := F_Ra) (N := 3) hx hb hts i_Ra hown hK hP 2 rfl rfl 2 (by decide) (hts _ (big_in mw_201 rfl)) (fun _ h9 => h9) rfl d_Pr_write_10 ?_
  refine cv (n := 0) (wr := [(hp_, .inr (6, [.ref aq, .int (iZ (nq : Int))])), (aq, .inl (cC, nq, .inl fq)), (rb, .inr (1, [.int (iZ s4), .ref h4, .ref h5])), (h4, .inr (0, [.ref a4, .int (iZ (k4 : Int))])), (a4, .inl (cI, n, .inl f4))]) (w1 := (fun (u : Int) => [(h5, .inr (0, [.ref a5, .int (iZ (k5 : Int))])), (a5, .inl (cI, n, .inl f5))])) (As := []) (rest := []) K hP hD hK hS hA hl.1 (c_Wh_isOne l D h5 a5 k5 n f5 cI v5 H.size r5 (by omega) (by omega)) [5, 6] [0, 1, 2, 3, 4] [1] rfl rfl rfl (by decide) (by decide) (by decide) 0 rfl rfl (big_in mw_784 rfl) (big_in mw_6 rfl) (big_in mw_1091 rfl) (big_in mw_782 rfl) (big_in mw_783 rfl) rfl rfl (by decide +kernel) ⟨by rw [hR]; exact Nat.le_of_ble_eq_true rfl, by rw [hR]; exact Nat.le_of_ble_eq_true rfl⟩ rfl (Nat.le_of_ble_eq_true rfl) d_Pr_write_13 ⟨by rw [hR]; exact Nat.le_of_ble_eq_true rfl, by rw [hR]; exact Nat.le_of_ble_eq_true rfl⟩ rfl (fun v u H locs hp1 hP hD hS _ => ?_)
  obtain ⟨ro_, rfl⟩ : ∃ z, z = u := ⟨_, rfl⟩
  obtain ⟨rfl, go⟩ := hp1
  have hP : va_P D cls0 [(hp_, .inr (6, [.ref aq, .int (iZ (nq : Int))])), (aq, .inl (cC, nq, .inl fq)), (rb, .inr (1, [.int (iZ s4), .ref h4, .ref h5])), (h4, .inr (0, [.ref a4, .int (iZ (k4 : Int))])), (a4, .inl (cI, n, .inl f4)), (h5, .inr (0, [.ref a5, .int (iZ (k5 : Int))])), (a5, .inl (cI, n, .inl f5))] H := hP
  have hD : va_D A [(hp_, .inr (6, [.ref aq, .int (iZ (nq : Int))])), (aq, .inl (cC, nq, .inl fq)), (rb, .inr (1, [.int (iZ s4), .ref h4, .ref h5])), (h4, .inr (0, [.ref a4, .int (iZ (k4 : Int))])), (a4, .inl (cI, n, .inl f4)), (h5, .inr (0, [.ref a5, .int (iZ (k5 : Int))])), (a5, .inl (cI, n, .inl f5))] := hD
  show W p l e R s m args below meth c H locs _ _ Q (F0 m 16 ls [.int (iZ ro_)])
  have gor : 0 ≤ ro_ ∧ ro_ ≤ 1 := by rw [go]; split <;> omega
  refine zz_if_ne (tgt := 33) hx hb d_Pr_write_16 (by decide) (by omega) (fun c16 => ?_) (fun c16 => ?_)
  · refine lv_aload_n hx hb d_Pr_write_33 rfl (lv_at hl 0 rfl) ?_
    refine lv_aload_n hx hb d_Pr_write_34 rfl (lv_at hl 1 rfl) ?_
    refine va_get (D := D) (ci := 1) (v := .ref h4) (C := R_Ra) (T := F_Ra) (N := 3) hx hb hts i_Ra hown hK hP 2 rfl rfl 1 (by decide) (hts _ (big_in mw_195 rfl)) (fun _ h9 => h9) rfl d_Pr_write_35 ?_
    have o1 : v5 = 1 := by by_cases q : v5 = 1; exact q; rw [if_neg q] at go; omega
    refine cv (n := 1) (wr := [(rb, .inr (1, [.int (iZ s4), .ref h4, .ref h5])), (h5, .inr (0, [.ref a5, .int (iZ (k5 : Int))])), (a5, .inl (cI, n, .inl f5))]) (w1 := (fun (u : Nat × (Nat → Int32) × Nat × Nat × (Nat → Int32)) => [(hp_, .inr (6, [.ref aq, .int (iZ (u.1 : Int))])), (aq, .inl (cC, nq, .inl u.2.1)), (h4, .inr (0, [.ref a4, .int (iZ (u.2.2.2.1 : Int))])), (a4, .inl (cI, n, .inl u.2.2.2.2))])) (As := [.ref h4]) (rest := []) K hP hD hK hS hA hl.1 (c_Pr_putFigures l D hp_ aq nq fq nq cC h4 a4 k4 f4 n cI ([]) v4 H.size TX.nil hnq r4 (by omega) hn (by omega) (by omega) (by omega)) [0, 1, 3, 4] [2, 5, 6] [0, 1] rfl rfl rfl (by decide) (by decide) (by decide) 0 rfl rfl (big_in mw_1095 rfl) (big_in mw_8 rfl) (big_in mw_1092 rfl) (big_in mw_1094 rfl) (big_in sp_15 rfl) rfl rfl (by decide +kernel) ⟨by rw [hR]; exact Nat.le_of_ble_eq_true rfl, by rw [hR]; exact Nat.le_of_ble_eq_true rfl⟩ rfl (Nat.le_of_ble_eq_true rfl) d_Pr_write_38 ⟨by rw [hR]; exact Nat.le_of_ble_eq_true rfl, by rw [hR]; exact Nat.le_of_ble_eq_true rfl⟩ rfl (fun v u H locs hp2 hP hD hS _ => ?_)
    obtain ⟨ft_, gt_, kt, ut, gz4⟩ := u
    try dsimp only at hp2
    obtain ⟨rfl, pT, pD⟩ := hp2
    have hP : va_P D cls0 [(rb, .inr (1, [.int (iZ s4), .ref h4, .ref h5])), (h5, .inr (0, [.ref a5, .int (iZ (k5 : Int))])), (a5, .inl (cI, n, .inl f5)), (hp_, .inr (6, [.ref aq, .int (iZ (ft_ : Int))])), (aq, .inl (cC, nq, .inl gt_)), (h4, .inr (0, [.ref a4, .int (iZ (ut : Int))])), (a4, .inl (cI, n, .inl gz4))] H := hP
    have hD : va_D A [(rb, .inr (1, [.int (iZ s4), .ref h4, .ref h5])), (h5, .inr (0, [.ref a5, .int (iZ (k5 : Int))])), (a5, .inl (cI, n, .inl f5)), (hp_, .inr (6, [.ref aq, .int (iZ (ft_ : Int))])), (aq, .inl (cC, nq, .inl gt_)), (h4, .inr (0, [.ref a4, .int (iZ (ut : Int))])), (a4, .inl (cI, n, .inl gz4))] := hD
    show W p l e R s m args below meth c H locs _ _ Q (F0 m 41 ls [])
    have hTt := pT.1
    rw [List.length_append, dg_len, List.length_nil] at hTt
    have hkt : k4 = 0 ∨ kt ≤ 10 * k4 := by rcases Nat.eq_zero_or_pos k4 with q | q; exact Or.inl q; exact Or.inr (pD.le r4 q)
    have hp4 := r4.pos
    refine lv_aload_n hx hb d_Pr_write_41 rfl (lv_at hl 1 rfl) ?_
    refine va_get (D := D) (ci := 1) (v := .int (iZ s4)) (C := R_Ra) (T := F_Ra) (N := 3) hx hb hts i_Ra hown hK hP 0 rfl rfl 0 (by decide) (hts _ (big_in mw_188 rfl)) (fun _ h9 => h9) rfl d_Pr_write_42 ?_
    refine zz_if_ge (tgt := 54) hx hb d_Pr_write_45 (by decide) (by omega) (fun c45 => ?_) (fun c45 => ?_)
    · have hP9 : va_P D cls0 [(hp_, .inr (6, [.ref aq, .int (iZ (ft_ : Int))])), (aq, .inl (cC, nq, .inl gt_)), (rb, .inr (1, [.int (iZ s4), .ref h4, .ref h5])), (h4, .inr (0, [.ref a4, .int (iZ (ut : Int))])), (a4, .inl (cI, n, .inl gz4)), (h5, .inr (0, [.ref a5, .int (iZ (k5 : Int))])), (a5, .inl (cI, n, .inl f5))] H := hP.sub [3, 4, 0, 5, 6, 1, 2] rfl
      have hD9 : va_D A [(hp_, .inr (6, [.ref aq, .int (iZ (ft_ : Int))])), (aq, .inl (cC, nq, .inl gt_)), (rb, .inr (1, [.int (iZ s4), .ref h4, .ref h5])), (h4, .inr (0, [.ref a4, .int (iZ (ut : Int))])), (a4, .inl (cI, n, .inl gz4)), (h5, .inr (0, [.ref a5, .int (iZ (k5 : Int))])), (a5, .inl (cI, n, .inl f5))] := hD.sub [3, 4, 0, 5, 6, 1, 2] (by decide) rfl
      rw [hQ, ← hAe]
      refine r_v K (ft_, gt_, kt, 0, ut, gz4, k5, f5) hS d_Pr_write_54 ?_ (fun t ht hv => ?_)
      · try dsimp only
        refine ⟨rfl, ?_, pD, fun q => absurd o1 q⟩
        rw [if_neg (by omega), if_pos o1]
        exact pT
      · exact ⟨by rw [ht]; exact hP9, va_K.moved hv hK, by rw [← hAe]; exact hD9⟩
    · refine lv_aload_n hx hb d_Pr_write_48 rfl (lv_at hl 0 rfl) ?_
      refine lv_bipush (v := iZ (45)) hx hb d_Pr_write_49 (by decide +kernel) ?_
      refine cv (n := 1) (wr := [(rb, .inr (1, [.int (iZ s4), .ref h4, .ref h5])), (h5, .inr (0, [.ref a5, .int (iZ (k5 : Int))])), (a5, .inl (cI, n, .inl f5)), (h4, .inr (0, [.ref a4, .int (iZ (ut : Int))])), (a4, .inl (cI, n, .inl gz4))]) (w1 := (fun (u : Nat × (Nat → Int32)) => [(hp_, .inr (6, [.ref aq, .int (iZ (u.1 : Int))])), (aq, .inl (cC, nq, .inl u.2))])) (As := [.int (iZ 45)]) (rest := []) K hP hD hK hS hA hl.1 (c_Pr_put l D hp_ aq nq gt_ ft_ cC (dg kt v4 ++ []) 45 H.size pT (by omega) (by omega) (by omega)) [3, 4] [0, 1, 2, 5, 6] [0] rfl rfl rfl (by decide) (by decide) (by decide) 0 rfl rfl (big_in mw_1099 rfl) (big_in mw_8 rfl) (big_in mw_1096 rfl) (big_in mw_1098 rfl) (big_in sp_16 rfl) rfl rfl (by decide +kernel) ⟨by rw [hR]; exact Nat.le_of_ble_eq_true rfl, by rw [hR]; exact Nat.le_of_ble_eq_true rfl⟩ rfl (Nat.le_of_ble_eq_true rfl) d_Pr_write_51 ⟨by rw [hR]; exact Nat.le_of_ble_eq_true rfl, by rw [hR]; exact Nat.le_of_ble_eq_true rfl⟩ rfl (fun v u H locs hp3 hP hD hS _ => ?_)
      obtain ⟨fn_, gn_⟩ := u
      try dsimp only at hp3
      obtain ⟨rfl, pN⟩ := hp3
      have hP : va_P D cls0 [(rb, .inr (1, [.int (iZ s4), .ref h4, .ref h5])), (h5, .inr (0, [.ref a5, .int (iZ (k5 : Int))])), (a5, .inl (cI, n, .inl f5)), (h4, .inr (0, [.ref a4, .int (iZ (ut : Int))])), (a4, .inl (cI, n, .inl gz4)), (hp_, .inr (6, [.ref aq, .int (iZ (fn_ : Int))])), (aq, .inl (cC, nq, .inl gn_))] H := hP
      have hD : va_D A [(rb, .inr (1, [.int (iZ s4), .ref h4, .ref h5])), (h5, .inr (0, [.ref a5, .int (iZ (k5 : Int))])), (a5, .inl (cI, n, .inl f5)), (h4, .inr (0, [.ref a4, .int (iZ (ut : Int))])), (a4, .inl (cI, n, .inl gz4)), (hp_, .inr (6, [.ref aq, .int (iZ (fn_ : Int))])), (aq, .inl (cC, nq, .inl gn_))] := hD
      show W p l e R s m args below meth c H locs _ _ Q (F0 m 54 ls [])
      have hP9 : va_P D cls0 [(hp_, .inr (6, [.ref aq, .int (iZ (fn_ : Int))])), (aq, .inl (cC, nq, .inl gn_)), (rb, .inr (1, [.int (iZ s4), .ref h4, .ref h5])), (h4, .inr (0, [.ref a4, .int (iZ (ut : Int))])), (a4, .inl (cI, n, .inl gz4)), (h5, .inr (0, [.ref a5, .int (iZ (k5 : Int))])), (a5, .inl (cI, n, .inl f5))] H := hP.sub [5, 6, 0, 3, 4, 1, 2] rfl
      have hD9 : va_D A [(hp_, .inr (6, [.ref aq, .int (iZ (fn_ : Int))])), (aq, .inl (cC, nq, .inl gn_)), (rb, .inr (1, [.int (iZ s4), .ref h4, .ref h5])), (h4, .inr (0, [.ref a4, .int (iZ (ut : Int))])), (a4, .inl (cI, n, .inl gz4)), (h5, .inr (0, [.ref a5, .int (iZ (k5 : Int))])), (a5, .inl (cI, n, .inl f5))] := hD.sub [5, 6, 0, 3, 4, 1, 2] (by decide) rfl
      rw [hQ, ← hAe]
      refine r_v K (fn_, gn_, kt, 0, ut, gz4, k5, f5) hS d_Pr_write_54 ?_ (fun t ht hv => ?_)
      · try dsimp only
        refine ⟨rfl, ?_, pD, fun q => absurd o1 q⟩
        rw [if_pos (by omega), if_pos o1]
        exact pN
      · exact ⟨by rw [ht]; exact hP9, va_K.moved hv hK, by rw [← hAe]; exact hD9⟩
  · refine lv_aload_n hx hb d_Pr_write_19 rfl (lv_at hl 0 rfl) ?_
    refine lv_aload_n hx hb d_Pr_write_20 rfl (lv_at hl 1 rfl) ?_
    refine va_get (D := D) (ci := 1) (v := .ref h5) (C := R_Ra) (T := F_Ra) (N := 3) hx hb hts i_Ra hown hK hP 2 rfl rfl 2 (by decide) (hts _ (big_in mw_201 rfl)) (fun _ h9 => h9) rfl d_Pr_write_21 ?_
    refine cv (n := 1) (wr := [(rb, .inr (1, [.int (iZ s4), .ref h4, .ref h5])), (h4, .inr (0, [.ref a4, .int (iZ (k4 : Int))])), (a4, .inl (cI, n, .inl f4))]) (w1 := (fun (u : Nat × (Nat → Int32) × Nat × Nat × (Nat → Int32)) => [(hp_, .inr (6, [.ref aq, .int (iZ (u.1 : Int))])), (aq, .inl (cC, nq, .inl u.2.1)), (h5, .inr (0, [.ref a5, .int (iZ (u.2.2.2.1 : Int))])), (a5, .inl (cI, n, .inl u.2.2.2.2))])) (As := [.ref h5]) (rest := []) K hP hD hK hS hA hl.1 (c_Pr_putFigures l D hp_ aq nq fq nq cC h5 a5 k5 f5 n cI ([]) v5 H.size TX.nil hnq r5 (by omega) (by omega) (by omega) (by omega) (by omega)) [0, 1, 5, 6] [2, 3, 4] [0, 1] rfl rfl rfl (by decide) (by decide) (by decide) 0 rfl rfl (big_in mw_1095 rfl) (big_in mw_8 rfl) (big_in mw_1092 rfl) (big_in mw_1094 rfl) (big_in sp_15 rfl) rfl rfl (by decide +kernel) ⟨by rw [hR]; exact Nat.le_of_ble_eq_true rfl, by rw [hR]; exact Nat.le_of_ble_eq_true rfl⟩ rfl (Nat.le_of_ble_eq_true rfl) d_Pr_write_24 ⟨by rw [hR]; exact Nat.le_of_ble_eq_true rfl, by rw [hR]; exact Nat.le_of_ble_eq_true rfl⟩ rfl (fun v u H locs hp4 hP hD hS _ => ?_)
    obtain ⟨f5_, g5_, kb, u5_, gz5⟩ := u
    try dsimp only at hp4
    obtain ⟨rfl, pT5, pD5⟩ := hp4
    have hP : va_P D cls0 [(rb, .inr (1, [.int (iZ s4), .ref h4, .ref h5])), (h4, .inr (0, [.ref a4, .int (iZ (k4 : Int))])), (a4, .inl (cI, n, .inl f4)), (hp_, .inr (6, [.ref aq, .int (iZ (f5_ : Int))])), (aq, .inl (cC, nq, .inl g5_)), (h5, .inr (0, [.ref a5, .int (iZ (u5_ : Int))])), (a5, .inl (cI, n, .inl gz5))] H := hP
    have hD : va_D A [(rb, .inr (1, [.int (iZ s4), .ref h4, .ref h5])), (h4, .inr (0, [.ref a4, .int (iZ (k4 : Int))])), (a4, .inl (cI, n, .inl f4)), (hp_, .inr (6, [.ref aq, .int (iZ (f5_ : Int))])), (aq, .inl (cC, nq, .inl g5_)), (h5, .inr (0, [.ref a5, .int (iZ (u5_ : Int))])), (a5, .inl (cI, n, .inl gz5))] := hD
    show W p l e R s m args below meth c H locs _ _ Q (F0 m 27 ls [])
    have hT5 := pT5.1
    rw [List.append_nil, dg_len] at hT5
    have hkb := pD5.le r5 (by omega)
    refine lv_aload_n hx hb d_Pr_write_27 rfl (lv_at hl 0 rfl) ?_
    refine lv_bipush (v := iZ (47)) hx hb d_Pr_write_28 (by decide +kernel) ?_
    refine cv (n := 1) (wr := [(rb, .inr (1, [.int (iZ s4), .ref h4, .ref h5])), (h4, .inr (0, [.ref a4, .int (iZ (k4 : Int))])), (a4, .inl (cI, n, .inl f4)), (h5, .inr (0, [.ref a5, .int (iZ (u5_ : Int))])), (a5, .inl (cI, n, .inl gz5))]) (w1 := (fun (u : Nat × (Nat → Int32)) => [(hp_, .inr (6, [.ref aq, .int (iZ (u.1 : Int))])), (aq, .inl (cC, nq, .inl u.2))])) (As := [.int (iZ 47)]) (rest := []) K hP hD hK hS hA hl.1 (c_Pr_put l D hp_ aq nq g5_ f5_ cC (dg kb v5 ++ []) 47 H.size pT5 (by omega) (by omega) (by omega)) [3, 4] [0, 1, 2, 5, 6] [0] rfl rfl rfl (by decide) (by decide) (by decide) 0 rfl rfl (big_in mw_1099 rfl) (big_in mw_8 rfl) (big_in mw_1096 rfl) (big_in mw_1098 rfl) (big_in sp_16 rfl) rfl rfl (by decide +kernel) ⟨by rw [hR]; exact Nat.le_of_ble_eq_true rfl, by rw [hR]; exact Nat.le_of_ble_eq_true rfl⟩ rfl (Nat.le_of_ble_eq_true rfl) d_Pr_write_30 ⟨by rw [hR]; exact Nat.le_of_ble_eq_true rfl, by rw [hR]; exact Nat.le_of_ble_eq_true rfl⟩ rfl (fun v u H locs hp5 hP hD hS _ => ?_)
    obtain ⟨f6_, g6_⟩ := u
    try dsimp only at hp5
    obtain ⟨rfl, pS⟩ := hp5
    have hP : va_P D cls0 [(rb, .inr (1, [.int (iZ s4), .ref h4, .ref h5])), (h4, .inr (0, [.ref a4, .int (iZ (k4 : Int))])), (a4, .inl (cI, n, .inl f4)), (h5, .inr (0, [.ref a5, .int (iZ (u5_ : Int))])), (a5, .inl (cI, n, .inl gz5)), (hp_, .inr (6, [.ref aq, .int (iZ (f6_ : Int))])), (aq, .inl (cC, nq, .inl g6_))] H := hP
    have hD : va_D A [(rb, .inr (1, [.int (iZ s4), .ref h4, .ref h5])), (h4, .inr (0, [.ref a4, .int (iZ (k4 : Int))])), (a4, .inl (cI, n, .inl f4)), (h5, .inr (0, [.ref a5, .int (iZ (u5_ : Int))])), (a5, .inl (cI, n, .inl gz5)), (hp_, .inr (6, [.ref aq, .int (iZ (f6_ : Int))])), (aq, .inl (cC, nq, .inl g6_))] := hD
    show W p l e R s m args below meth c H locs _ _ Q (F0 m 33 ls [])
    rw [List.append_nil] at pS
    have hT6 := pS.1
    rw [List.length_cons, dg_len] at hT6
    refine lv_aload_n hx hb d_Pr_write_33 rfl (lv_at hl 0 rfl) ?_
    refine lv_aload_n hx hb d_Pr_write_34 rfl (lv_at hl 1 rfl) ?_
    refine va_get (D := D) (ci := 1) (v := .ref h4) (C := R_Ra) (T := F_Ra) (N := 3) hx hb hts i_Ra hown hK hP 0 rfl rfl 1 (by decide) (hts _ (big_in mw_195 rfl)) (fun _ h9 => h9) rfl d_Pr_write_35 ?_
    have o1 : v5 ≠ 1 := by intro q; rw [if_pos q] at go; omega
    refine cv (n := 1) (wr := [(rb, .inr (1, [.int (iZ s4), .ref h4, .ref h5])), (h5, .inr (0, [.ref a5, .int (iZ (u5_ : Int))])), (a5, .inl (cI, n, .inl gz5))]) (w1 := (fun (u : Nat × (Nat → Int32) × Nat × Nat × (Nat → Int32)) => [(hp_, .inr (6, [.ref aq, .int (iZ (u.1 : Int))])), (aq, .inl (cC, nq, .inl u.2.1)), (h4, .inr (0, [.ref a4, .int (iZ (u.2.2.2.1 : Int))])), (a4, .inl (cI, n, .inl u.2.2.2.2))])) (As := [.ref h4]) (rest := []) K hP hD hK hS hA hl.1 (c_Pr_putFigures l D hp_ aq nq g6_ f6_ cC h4 a4 k4 f4 n cI (47 :: dg kb v5) v4 H.size pS hnq r4 (by omega) hn (by omega) (by omega) (by omega)) [5, 6, 1, 2] [0, 3, 4] [0, 1] rfl rfl rfl (by decide) (by decide) (by decide) 0 rfl rfl (big_in mw_1095 rfl) (big_in mw_8 rfl) (big_in mw_1092 rfl) (big_in mw_1094 rfl) (big_in sp_15 rfl) rfl rfl (by decide +kernel) ⟨by rw [hR]; exact Nat.le_of_ble_eq_true rfl, by rw [hR]; exact Nat.le_of_ble_eq_true rfl⟩ rfl (Nat.le_of_ble_eq_true rfl) d_Pr_write_38 ⟨by rw [hR]; exact Nat.le_of_ble_eq_true rfl, by rw [hR]; exact Nat.le_of_ble_eq_true rfl⟩ rfl (fun v u H locs hp6 hP hD hS _ => ?_)
    obtain ⟨ft_, gt_, kt, ut, gz4⟩ := u
    try dsimp only at hp6
    obtain ⟨rfl, pT, pD⟩ := hp6
    have hP : va_P D cls0 [(rb, .inr (1, [.int (iZ s4), .ref h4, .ref h5])), (h5, .inr (0, [.ref a5, .int (iZ (u5_ : Int))])), (a5, .inl (cI, n, .inl gz5)), (hp_, .inr (6, [.ref aq, .int (iZ (ft_ : Int))])), (aq, .inl (cC, nq, .inl gt_)), (h4, .inr (0, [.ref a4, .int (iZ (ut : Int))])), (a4, .inl (cI, n, .inl gz4))] H := hP
    have hD : va_D A [(rb, .inr (1, [.int (iZ s4), .ref h4, .ref h5])), (h5, .inr (0, [.ref a5, .int (iZ (u5_ : Int))])), (a5, .inl (cI, n, .inl gz5)), (hp_, .inr (6, [.ref aq, .int (iZ (ft_ : Int))])), (aq, .inl (cC, nq, .inl gt_)), (h4, .inr (0, [.ref a4, .int (iZ (ut : Int))])), (a4, .inl (cI, n, .inl gz4))] := hD
    show W p l e R s m args below meth c H locs _ _ Q (F0 m 41 ls [])
    have hTt := pT.1
    rw [List.length_append, dg_len, List.length_cons, dg_len] at hTt
    have hkt : k4 = 0 ∨ kt ≤ 10 * k4 := by rcases Nat.eq_zero_or_pos k4 with q | q; exact Or.inl q; exact Or.inr (pD.le r4 q)
    have hp4 := r4.pos
    refine lv_aload_n hx hb d_Pr_write_41 rfl (lv_at hl 1 rfl) ?_
    refine va_get (D := D) (ci := 1) (v := .int (iZ s4)) (C := R_Ra) (T := F_Ra) (N := 3) hx hb hts i_Ra hown hK hP 0 rfl rfl 0 (by decide) (hts _ (big_in mw_188 rfl)) (fun _ h9 => h9) rfl d_Pr_write_42 ?_
    refine zz_if_ge (tgt := 54) hx hb d_Pr_write_45 (by decide) (by omega) (fun c45 => ?_) (fun c45 => ?_)
    · have hP9 : va_P D cls0 [(hp_, .inr (6, [.ref aq, .int (iZ (ft_ : Int))])), (aq, .inl (cC, nq, .inl gt_)), (rb, .inr (1, [.int (iZ s4), .ref h4, .ref h5])), (h4, .inr (0, [.ref a4, .int (iZ (ut : Int))])), (a4, .inl (cI, n, .inl gz4)), (h5, .inr (0, [.ref a5, .int (iZ (u5_ : Int))])), (a5, .inl (cI, n, .inl gz5))] H := hP.sub [3, 4, 0, 5, 6, 1, 2] rfl
      have hD9 : va_D A [(hp_, .inr (6, [.ref aq, .int (iZ (ft_ : Int))])), (aq, .inl (cC, nq, .inl gt_)), (rb, .inr (1, [.int (iZ s4), .ref h4, .ref h5])), (h4, .inr (0, [.ref a4, .int (iZ (ut : Int))])), (a4, .inl (cI, n, .inl gz4)), (h5, .inr (0, [.ref a5, .int (iZ (u5_ : Int))])), (a5, .inl (cI, n, .inl gz5))] := hD.sub [3, 4, 0, 5, 6, 1, 2] (by decide) rfl
      rw [hQ, ← hAe]
      refine r_v K (ft_, gt_, kt, kb, ut, gz4, u5_, gz5) hS d_Pr_write_54 ?_ (fun t ht hv => ?_)
      · try dsimp only
        refine ⟨rfl, ?_, pD, fun _ => pD5⟩
        rw [if_neg (by omega), if_neg o1]
        exact pT
      · exact ⟨by rw [ht]; exact hP9, va_K.moved hv hK, by rw [← hAe]; exact hD9⟩
    · refine lv_aload_n hx hb d_Pr_write_48 rfl (lv_at hl 0 rfl) ?_
      refine lv_bipush (v := iZ (45)) hx hb d_Pr_write_49 (by decide +kernel) ?_
      refine cv (n := 1) (wr := [(rb, .inr (1, [.int (iZ s4), .ref h4, .ref h5])), (h5, .inr (0, [.ref a5, .int (iZ (u5_ : Int))])), (a5, .inl (cI, n, .inl gz5)), (h4, .inr (0, [.ref a4, .int (iZ (ut : Int))])), (a4, .inl (cI, n, .inl gz4))]) (w1 := (fun (u : Nat × (Nat → Int32)) => [(hp_, .inr (6, [.ref aq, .int (iZ (u.1 : Int))])), (aq, .inl (cC, nq, .inl u.2))])) (As := [.int (iZ 45)]) (rest := []) K hP hD hK hS hA hl.1 (c_Pr_put l D hp_ aq nq gt_ ft_ cC (dg kt v4 ++ (47 :: dg kb v5)) 45 H.size pT (by omega) (by omega) (by omega)) [3, 4] [0, 1, 2, 5, 6] [0] rfl rfl rfl (by decide) (by decide) (by decide) 0 rfl rfl (big_in mw_1099 rfl) (big_in mw_8 rfl) (big_in mw_1096 rfl) (big_in mw_1098 rfl) (big_in sp_16 rfl) rfl rfl (by decide +kernel) ⟨by rw [hR]; exact Nat.le_of_ble_eq_true rfl, by rw [hR]; exact Nat.le_of_ble_eq_true rfl⟩ rfl (Nat.le_of_ble_eq_true rfl) d_Pr_write_51 ⟨by rw [hR]; exact Nat.le_of_ble_eq_true rfl, by rw [hR]; exact Nat.le_of_ble_eq_true rfl⟩ rfl (fun v u H locs hp7 hP hD hS _ => ?_)
      obtain ⟨fn_, gn_⟩ := u
      try dsimp only at hp7
      obtain ⟨rfl, pN⟩ := hp7
      have hP : va_P D cls0 [(rb, .inr (1, [.int (iZ s4), .ref h4, .ref h5])), (h5, .inr (0, [.ref a5, .int (iZ (u5_ : Int))])), (a5, .inl (cI, n, .inl gz5)), (h4, .inr (0, [.ref a4, .int (iZ (ut : Int))])), (a4, .inl (cI, n, .inl gz4)), (hp_, .inr (6, [.ref aq, .int (iZ (fn_ : Int))])), (aq, .inl (cC, nq, .inl gn_))] H := hP
      have hD : va_D A [(rb, .inr (1, [.int (iZ s4), .ref h4, .ref h5])), (h5, .inr (0, [.ref a5, .int (iZ (u5_ : Int))])), (a5, .inl (cI, n, .inl gz5)), (h4, .inr (0, [.ref a4, .int (iZ (ut : Int))])), (a4, .inl (cI, n, .inl gz4)), (hp_, .inr (6, [.ref aq, .int (iZ (fn_ : Int))])), (aq, .inl (cC, nq, .inl gn_))] := hD
      show W p l e R s m args below meth c H locs _ _ Q (F0 m 54 ls [])
      have hP9 : va_P D cls0 [(hp_, .inr (6, [.ref aq, .int (iZ (fn_ : Int))])), (aq, .inl (cC, nq, .inl gn_)), (rb, .inr (1, [.int (iZ s4), .ref h4, .ref h5])), (h4, .inr (0, [.ref a4, .int (iZ (ut : Int))])), (a4, .inl (cI, n, .inl gz4)), (h5, .inr (0, [.ref a5, .int (iZ (u5_ : Int))])), (a5, .inl (cI, n, .inl gz5))] H := hP.sub [5, 6, 0, 3, 4, 1, 2] rfl
      have hD9 : va_D A [(hp_, .inr (6, [.ref aq, .int (iZ (fn_ : Int))])), (aq, .inl (cC, nq, .inl gn_)), (rb, .inr (1, [.int (iZ s4), .ref h4, .ref h5])), (h4, .inr (0, [.ref a4, .int (iZ (ut : Int))])), (a4, .inl (cI, n, .inl gz4)), (h5, .inr (0, [.ref a5, .int (iZ (u5_ : Int))])), (a5, .inl (cI, n, .inl gz5))] := hD.sub [5, 6, 0, 3, 4, 1, 2] (by decide) rfl
      rw [hQ, ← hAe]
      refine r_v K (fn_, gn_, kt, kb, ut, gz4, u5_, gz5) hS d_Pr_write_54 ?_ (fun t ht hv => ?_)
      · try dsimp only
        refine ⟨rfl, ?_, pD, fun _ => pD5⟩
        rw [if_pos (by omega), if_neg o1]
        exact pN
      · exact ⟨by rw [ht]; exact hP9, va_K.moved hv hK, by rw [← hAe]; exact hD9⟩
