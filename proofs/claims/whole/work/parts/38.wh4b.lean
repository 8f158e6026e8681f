set_option maxHeartbeats 4000000 in
set_option maxRecDepth 100000 in
/-- takeMultiple(divisor, factor, place) -/
theorem c_Wh_takeMultiple (l : Launch) (D : va_G) (h : Nat) (a : Nat) (q : Int32) (n : Nat) (f : Nat → Int32) (h2 : Nat) (a2 : Nat) (k2 : Nat) (n2 : Nat) (f2 : Nat → Int32) (cI : ClassId) (w : Nat) (pl : Nat) (sz : Nat) (hw : w < 4294967296) (hk : pl + k2 + 1 ≤ n) (hk2 : k2 ≤ n2) (hn : n < 1000000) (hn2 : n2 < 1000000) : Met l y_Wh_takeMultiple (wsB y_Wh_takeMultiple b_Wh_takeMultiple 13 (some .boolean)) ({ frames := 1, cells := 0, slots := 0, locals := 21 }) (va_Pc [.ref h, .ref h2, .long (lZ (w : Int)), .int (iZ (pl : Int))] (wPre D [(cI, .int)] [(h, .inr (0, [.ref a, .int q])), (a, .inl (cI, n, .inl f)), (h2, .inr (0, [.ref a2, .int (iZ (k2 : Int))])), (a2, .inl (cI, n2, .inl f2))] sz)) (va_QV (fun (v9 : Option Value) (u9 : Int × (Nat → Int32)) => v9 = some (.int (iZ u9.1)) ∧ (u9.1 = 0 ∨ u9.1 = 1) ∧ (∀ j, j < pl ∨ pl + k2 < j → u9.2 j = f j) ∧ ((vV (sh u9.2 pl) (k2 + 1) : Int) = vV (sh f pl) (k2 + 1) - w * vV f2 k2 + u9.1 * pB (k2 + 1))) (fun u9 => wPost D [(cI, .int)] [(h, .inr (0, [.ref a, .int q])), (a, .inl (cI, n, .inl f)), (h2, .inr (0, [.ref a2, .int (iZ (k2 : Int))])), (a2, .inl (cI, n2, .inl f2))] [(h, .inr (0, [.ref a, .int q])), (a, .inl (cI, n, .inl u9.2)), (h2, .inr (0, [.ref a2, .int (iZ (k2 : Int))])), (a2, .inl (cI, n2, .inl f2))] sz) (va_A [(h, .inr (0, [.ref a, .int q])), (a, .inl (cI, n, .inl f)), (h2, .inr (0, [.ref a2, .int (iZ (k2 : Int))])), (a2, .inl (cI, n2, .inl f2))] sz)) 0 0 (va_A [(h, .inr (0, [.ref a, .int q])), (a, .inl (cI, n, .inl f)), (h2, .inr (0, [.ref a2, .int (iZ (k2 : Int))])), (a2, .inl (cI, n2, .inl f2))] sz) := by
  refine met_enter (by decide +kernel) (Nat.le_of_ble_eq_true rfl) ?_
  intro p e s m args below meth c ls A R Q H locs K hin hAe hA hR hQ hP hK hD hS hl
  obtain ⟨hx, hb, hml, hrt, hlk, hts, hown, hno⟩ := id K
  have hl : lv_has ls 13 [(0, .ref h), (1, .ref h2), (2, .long (lZ (w : Int))), (4, .int (iZ (pl : Int)))] := hl
  refine lv_iload hx hb d_Wh_takeMultiple_0 (lv_at hl 3 rfl) ?_
  refine lv_aload_n hx hb d_Wh_takeMultiple_2 rfl (lv_at hl 1 rfl) ?_
  refine va_get (D := D) (ci := 0) (v := .int (iZ (k2 : Int))) (C := R_Wh) (T := F_Wh) (N := 2) hx hb hts i_Wh hown hK hP 2 rfl rfl 1 (by decide) (hts _ (big_in mw_94 rfl)) (fun _ h9 => h9) rfl d_Wh_takeMultiple_3 ?_
  refine zz_iadd hx hb d_Wh_takeMultiple_6 ?_
  refine lv_istore (lv' := [(5, .int (iZ ((pl : Int) + (k2 : Int)))), (0, .ref h), (1, .ref h2), (2, .long (lZ (w : Int))), (4, .int (iZ (pl : Int)))]) hx hb d_Wh_takeMultiple_7 hl (by decide) rfl (fun ls hl => ?_)
  refine lv_aload_n hx hb d_Wh_takeMultiple_9 rfl (lv_at hl 1 rfl) ?_
  refine lv_iload hx hb d_Wh_takeMultiple_10 (lv_at hl 0 rfl) ?_
  refine lv_iconst (v := iZ (1)) hx hb d_Wh_takeMultiple_12 (by decide +kernel) ?_
  refine zz_iadd hx hb d_Wh_takeMultiple_13 ?_
  refine cv (n := 1) (wr := [(h2, .inr (0, [.ref a2, .int (iZ (k2 : Int))])), (a2, .inl (cI, n2, .inl f2))]) (w1 := (fun (u : Unit) => [(h, .inr (0, [.ref a, .int q])), (a, .inl (cI, n, .inl f))])) (As := [.int (iZ ((pl : Int) + (k2 : Int) + 1))]) (rest := []) K hP hD hK hS hA hl.1 (c_Wh_claim l D h a q n f cI ((pl : Int) + (k2 : Int) + 1) H.size (by omega) (by omega)) [0, 1] [2, 3] [0] rfl rfl rfl (by decide) (by decide) (by decide) 0 rfl rfl (big_in mw_406 rfl) (big_in mw_6 rfl) (big_in mw_403 rfl) (big_in mw_405 rfl) (big_in sp_2 rfl) rfl rfl (by decide +kernel) ⟨by rw [hR]; exact Nat.le_of_ble_eq_true rfl, by rw [hR]; exact Nat.le_of_ble_eq_true rfl⟩ rfl (Nat.le_of_ble_eq_true rfl) d_Wh_takeMultiple_14 ⟨by rw [hR]; exact Nat.le_of_ble_eq_true rfl, by rw [hR]; exact Nat.le_of_ble_eq_true rfl⟩ rfl (fun v u H locs hp1 hP hD hS _ => ?_)
  obtain rfl := hp1
  have hP : va_P D cls0 [(h2, .inr (0, [.ref a2, .int (iZ (k2 : Int))])), (a2, .inl (cI, n2, .inl f2)), (h, .inr (0, [.ref a, .int q])), (a, .inl (cI, n, .inl f))] H := hP
  have hD : va_D A [(h2, .inr (0, [.ref a2, .int (iZ (k2 : Int))])), (a2, .inl (cI, n2, .inl f2)), (h, .inr (0, [.ref a, .int q])), (a, .inl (cI, n, .inl f))] := hD
  show W p l e R s m args below meth c H locs _ _ Q (F0 m 17 ls [])
  refine lv_lconst (v := lZ (0)) hx hb d_Wh_takeMultiple_17 (by decide +kernel) ?_
  refine lv_lstore (lv' := [(6, .long (lZ 0)), (5, .int (iZ ((pl : Int) + (k2 : Int)))), (0, .ref h), (1, .ref h2), (2, .long (lZ (w : Int))), (4, .int (iZ (pl : Int)))]) hx hb d_Wh_takeMultiple_18 hl (by decide) rfl (fun ls hl => ?_)
  refine lv_iconst (v := iZ (0)) hx hb d_Wh_takeMultiple_20 (by decide +kernel) ?_
  refine lv_istore (lv' := [(8, .int (iZ 0)), (6, .long (lZ 0)), (5, .int (iZ ((pl : Int) + (k2 : Int)))), (0, .ref h), (1, .ref h2), (2, .long (lZ (w : Int))), (4, .int (iZ (pl : Int)))]) hx hb d_Wh_takeMultiple_21 hl (by decide) rfl (fun ls hl => ?_)
  have L23 : ∀ (N : Nat) (i : Nat) (cr : Nat) (g : Nat → Int32) (H : Heap) (locs : List Loc) (ls : Array Slot), k2 - i < N → (i ≤ k2) → (cr ≤ 4294967295) → (∀ j, j < pl ∨ pl + i ≤ j → g j = f j) → ((vV (sh g pl) i : Int) - cr * pB i = vV (sh f pl) i - w * vV f2 i) → va_P D cls0 [(h, .inr (0, [.ref a, .int q])), (a, .inl (cI, n, .inl g)), (h2, .inr (0, [.ref a2, .int (iZ (k2 : Int))])), (a2, .inl (cI, n2, .inl f2))] H → va_D A [(h, .inr (0, [.ref a, .int q])), (a, .inl (cI, n, .inl g)), (h2, .inr (0, [.ref a2, .int (iZ (k2 : Int))])), (a2, .inl (cI, n2, .inl f2))] → va_S A s.heap H locs → lv_has ls 13 [(0, .ref h), (1, .ref h2), (2, .long (lZ (w : Int))), (4, .int (iZ (pl : Int))), (5, .int (iZ ((pl : Int) + (k2 : Int)))), (6, .long (lZ (cr : Int))), (8, .int (iZ (i : Int)))] → W p l e R s m args below meth c H locs 0 0 Q (F0 m 23 ls []) := by
    intro N
    induction N with
    | zero => intro i cr g H locs ls hN; exact absurd hN (Nat.not_lt_zero _)
    | succ N ih =>
      intro i cr g H locs ls hN ii ic ig iv hP hD hS hl
      refine lv_iload hx hb d_Wh_takeMultiple_23 (lv_at hl 6 rfl) ?_
      refine lv_aload_n hx hb d_Wh_takeMultiple_25 rfl (lv_at hl 1 rfl) ?_
      refine va_get (D := D) (ci := 0) (v := .int (iZ (k2 : Int))) (C := R_Wh) (T := F_Wh) (N := 2) hx hb hts i_Wh hown hK hP 2 rfl rfl 1 (by decide) (hts _ (big_in mw_94 rfl)) (fun _ h9 => h9) rfl d_Wh_takeMultiple_26 ?_
      refine zz_icmp_ge (tgt := 115) hx hb d_Wh_takeMultiple_29 (by decide) (by omega) (by omega) (fun c29 => ?_) (fun c29 => ?_)
      · refine lv_aload_n hx hb d_Wh_takeMultiple_115 rfl (lv_at hl 0 rfl) ?_
        refine va_get (D := D) (ci := 0) (v := .ref a) (C := R_Wh) (T := F_Wh) (N := 2) hx hb hts i_Wh hown hK hP 0 rfl rfl 0 (by decide) (hts _ (big_in mw_90 rfl)) (fun _ h9 => h9) rfl d_Wh_takeMultiple_116 ?_
        refine lv_iload hx hb d_Wh_takeMultiple_119 (lv_at hl 4 rfl) ?_
        refine zz_iald hx hb hK hP 1 0 rfl rfl (pl + k2) (by omega) (by omega) (by omega) d_Wh_takeMultiple_121 ?_
        refine lv_i2l (v := (g (pl + k2)).toInt64) hx hb d_Wh_takeMultiple_122 rfl ?_
        refine lv_ldc2 (v := 4294967295) hx hb hown (hts _ (big_in mw_398 rfl)) d_Wh_takeMultiple_123 ?_
        refine zz_mask hx hb d_Wh_takeMultiple_126 ?_
        have bw126 := uwZ (g (pl + k2))
        refine lv_lload hx hb d_Wh_takeMultiple_127 (lv_at hl 5 rfl) ?_
        refine zz_lsub hx hb d_Wh_takeMultiple_129 ?_
        refine lv_lstore (lv' := [(8, .long (lZ ((uw (g (pl + k2)) : Int) - (cr : Int)))), (0, .ref h), (1, .ref h2), (2, .long (lZ (w : Int))), (4, .int (iZ (pl : Int))), (5, .int (iZ ((pl : Int) + (k2 : Int)))), (6, .long (lZ (cr : Int)))]) hx hb d_Wh_takeMultiple_130 hl (by decide) rfl (fun ls hl => ?_)
        refine lv_aload_n hx hb d_Wh_takeMultiple_132 rfl (lv_at hl 1 rfl) ?_
        refine va_get (D := D) (ci := 0) (v := .ref a) (C := R_Wh) (T := F_Wh) (N := 2) hx hb hts i_Wh hown hK hP 0 rfl rfl 0 (by decide) (hts _ (big_in mw_90 rfl)) (fun _ h9 => h9) rfl d_Wh_takeMultiple_133 ?_
        refine lv_iload hx hb d_Wh_takeMultiple_136 (lv_at hl 5 rfl) ?_
        refine lv_lload hx hb d_Wh_takeMultiple_138 (lv_at hl 0 rfl) ?_
        refine zz_l2i hx hb d_Wh_takeMultiple_140 ?_
        refine zz_iast hx hb hK hP hD hS 1 0 rfl rfl (pl + k2) (by omega) (by omega) (by omega) d_Wh_takeMultiple_141 (fun H locs hP hD hS => ?_)
        have hP : va_P D cls0 [(h, .inr (0, [.ref a, .int q])), (a, .inl (cI, n, .inl (upd g (pl + k2) (iZ ((uw (g (pl + k2)) : Int) - (cr : Int)))))), (h2, .inr (0, [.ref a2, .int (iZ (k2 : Int))])), (a2, .inl (cI, n2, .inl f2))] H := hP
        have hD : va_D A [(h, .inr (0, [.ref a, .int q])), (a, .inl (cI, n, .inl (upd g (pl + k2) (iZ ((uw (g (pl + k2)) : Int) - (cr : Int)))))), (h2, .inr (0, [.ref a2, .int (iZ (k2 : Int))])), (a2, .inl (cI, n2, .inl f2))] := hD
        refine lv_lload hx hb d_Wh_takeMultiple_142 (lv_at hl 0 rfl) ?_
        refine lv_lconst (v := lZ (0)) hx hb d_Wh_takeMultiple_144 (by decide +kernel) ?_
        refine zz_lcmp_ge (tgt := 153) hx hb d_Wh_takeMultiple_145 d_Wh_takeMultiple_146 (by decide) (by omega) (by omega) (fun c145 => ?_) (fun c145 => ?_)
        · refine lv_iconst (v := iZ (0)) hx hb d_Wh_takeMultiple_153 (by decide +kernel) ?_
          have hP9 : va_P D cls0 [(h, .inr (0, [.ref a, .int q])), (a, .inl (cI, n, .inl (upd g (pl + k2) (iZ ((uw (g (pl + k2)) : Int) - (cr : Int)))))), (h2, .inr (0, [.ref a2, .int (iZ (k2 : Int))])), (a2, .inl (cI, n2, .inl f2))] H := hP.sub [0, 1, 2, 3] rfl
          have hD9 : va_D A [(h, .inr (0, [.ref a, .int q])), (a, .inl (cI, n, .inl (upd g (pl + k2) (iZ ((uw (g (pl + k2)) : Int) - (cr : Int)))))), (h2, .inr (0, [.ref a2, .int (iZ (k2 : Int))])), (a2, .inl (cI, n2, .inl f2))] := hD.sub [0, 1, 2, 3] (by decide) rfl
          rw [hQ, ← hAe]
          refine r_z (v := (iZ 0)) K (0, upd g (pl + k2) (iZ ((uw (g (pl + k2)) : Int) - (cr : Int)))) hS rfl d_Wh_takeMultiple_154 ?_ (fun t ht hv => ?_)
          · try dsimp only
            have ei : i = k2 := by omega
            subst ei
            refine ⟨rfl, by omega, fun j hj => by rw [pk_un (by omega)]; exact ig j (by omega), ?_⟩
            have eg := ig (pl + i) (Or.inr (Nat.le_refl _))
            rw [eg, sh_upd, vV_updS, vV_s, uw_iZ]
            rw [eg] at c145 bw126
            have e3 : uw (sh f pl i) = uw (f (pl + i)) := rfl
            rw [e3]
            have e4 : ((((uw (f (pl + i)) : Int) - (cr : Int)) % 4294967296).toNat : Int) = (uw (f (pl + i)) : Int) - (cr : Int) + 0 * 4294967296 := by omega
            rw [Int.natCast_add, Int.natCast_mul, e4, Int.add_mul, Int.sub_mul, pB_s, Int.natCast_add, Int.natCast_mul]
            have e5 : (0 : Int) * 4294967296 * (pB i : Int) = 0 * ((pB i * 4294967296 : Nat) : Int) := by rw [Int.natCast_mul, Int.mul_comm (pB i : Int), Int.mul_assoc]; rfl
            rw [e5]
            omega
          · exact ⟨by rw [ht]; exact hP9, va_K.moved hv hK, by rw [← hAe]; exact hD9⟩
        · refine lv_iconst (v := iZ (1)) hx hb d_Wh_takeMultiple_149 (by decide +kernel) ?_
          refine lv_goto (tgt := 154) hx hb d_Wh_takeMultiple_150 (by decide) ?_
          have hP9 : va_P D cls0 [(h, .inr (0, [.ref a, .int q])), (a, .inl (cI, n, .inl (upd g (pl + k2) (iZ ((uw (g (pl + k2)) : Int) - (cr : Int)))))), (h2, .inr (0, [.ref a2, .int (iZ (k2 : Int))])), (a2, .inl (cI, n2, .inl f2))] H := hP.sub [0, 1, 2, 3] rfl
          have hD9 : va_D A [(h, .inr (0, [.ref a, .int q])), (a, .inl (cI, n, .inl (upd g (pl + k2) (iZ ((uw (g (pl + k2)) : Int) - (cr : Int)))))), (h2, .inr (0, [.ref a2, .int (iZ (k2 : Int))])), (a2, .inl (cI, n2, .inl f2))] := hD.sub [0, 1, 2, 3] (by decide) rfl
          rw [hQ, ← hAe]
          refine r_z (v := (iZ 1)) K (1, upd g (pl + k2) (iZ ((uw (g (pl + k2)) : Int) - (cr : Int)))) hS rfl d_Wh_takeMultiple_154 ?_ (fun t ht hv => ?_)
          · try dsimp only
            have ei : i = k2 := by omega
            subst ei
            refine ⟨rfl, by omega, fun j hj => by rw [pk_un (by omega)]; exact ig j (by omega), ?_⟩
            have eg := ig (pl + i) (Or.inr (Nat.le_refl _))
            rw [eg, sh_upd, vV_updS, vV_s, uw_iZ]
            rw [eg] at c145 bw126
            have e3 : uw (sh f pl i) = uw (f (pl + i)) := rfl
            rw [e3]
            have e4 : ((((uw (f (pl + i)) : Int) - (cr : Int)) % 4294967296).toNat : Int) = (uw (f (pl + i)) : Int) - (cr : Int) + 1 * 4294967296 := by omega
            rw [Int.natCast_add, Int.natCast_mul, e4, Int.add_mul, Int.sub_mul, pB_s, Int.natCast_add, Int.natCast_mul]
            have e5 : (1 : Int) * 4294967296 * (pB i : Int) = 1 * ((pB i * 4294967296 : Nat) : Int) := by rw [Int.natCast_mul, Int.mul_comm (pB i : Int), Int.mul_assoc]; rfl
            rw [e5]
            omega
          · exact ⟨by rw [ht]; exact hP9, va_K.moved hv hK, by rw [← hAe]; exact hD9⟩
      · refine lv_lload_n hx hb d_Wh_takeMultiple_32 rfl (lv_at hl 2 rfl) ?_
        refine lv_aload_n hx hb d_Wh_takeMultiple_33 rfl (lv_at hl 1 rfl) ?_
        refine va_get (D := D) (ci := 0) (v := .ref a2) (C := R_Wh) (T := F_Wh) (N := 2) hx hb hts i_Wh hown hK hP 2 rfl rfl 0 (by decide) (hts _ (big_in mw_90 rfl)) (fun _ h9 => h9) rfl d_Wh_takeMultiple_34 ?_
        refine lv_iload hx hb d_Wh_takeMultiple_37 (lv_at hl 6 rfl) ?_
        refine zz_iald hx hb hK hP 3 0 rfl rfl (i) (by omega) (by omega) (by omega) d_Wh_takeMultiple_39 ?_
        refine lv_i2l (v := (f2 i).toInt64) hx hb d_Wh_takeMultiple_40 rfl ?_
        refine lv_ldc2 (v := 4294967295) hx hb hown (hts _ (big_in mw_398 rfl)) d_Wh_takeMultiple_41 ?_
        refine zz_mask hx hb d_Wh_takeMultiple_44 ?_
        have bw44 := uwZ (f2 i)
        refine zz_lmul hx hb d_Wh_takeMultiple_45 ?_
        refine lv_lload hx hb d_Wh_takeMultiple_46 (lv_at hl 5 rfl) ?_
        refine zz_ladd hx hb d_Wh_takeMultiple_48 ?_
        obtain ⟨T, hT, bT⟩ : ∃ x : Nat, x = w * uw (f2 i) + cr ∧ x < 18446744073709551616 := ⟨_, rfl, by have := mulB hw (uw_lt (f2 i)); omega⟩
        rw [show ((w : Int) * (uw (f2 i) : Int) + (cr : Int) : Int) = (T : Int) by rw [hT]; simp] 
        have bT3 : T ≤ 18446744069414584320 := by have := mulB hw (uw_lt (f2 i)); omega
        have eg := ig (pl + i) (Or.inr (Nat.le_refl _))
        refine lv_lstore (lv' := [(9, .long (lZ (T : Int))), (0, .ref h), (1, .ref h2), (2, .long (lZ (w : Int))), (4, .int (iZ (pl : Int))), (5, .int (iZ ((pl : Int) + (k2 : Int)))), (6, .long (lZ (cr : Int))), (8, .int (iZ (i : Int)))]) hx hb d_Wh_takeMultiple_49 hl (by decide) rfl (fun ls hl => ?_)
        refine lv_aload_n hx hb d_Wh_takeMultiple_51 rfl (lv_at hl 1 rfl) ?_
        refine va_get (D := D) (ci := 0) (v := .ref a) (C := R_Wh) (T := F_Wh) (N := 2) hx hb hts i_Wh hown hK hP 0 rfl rfl 0 (by decide) (hts _ (big_in mw_90 rfl)) (fun _ h9 => h9) rfl d_Wh_takeMultiple_52 ?_
        refine lv_iload hx hb d_Wh_takeMultiple_55 (lv_at hl 4 rfl) ?_
        refine lv_iload hx hb d_Wh_takeMultiple_57 (lv_at hl 7 rfl) ?_
        refine zz_iadd hx hb d_Wh_takeMultiple_59 ?_
        refine zz_iald hx hb hK hP 1 0 rfl rfl (pl + i) (by omega) (by omega) (by omega) d_Wh_takeMultiple_60 ?_
        refine lv_i2l (v := (g (pl + i)).toInt64) hx hb d_Wh_takeMultiple_61 rfl ?_
        refine lv_ldc2 (v := 4294967295) hx hb hown (hts _ (big_in mw_398 rfl)) d_Wh_takeMultiple_62 ?_
        refine zz_mask hx hb d_Wh_takeMultiple_65 ?_
        have bw65 := uwZ (g (pl + i))
        refine lv_lload hx hb d_Wh_takeMultiple_66 (lv_at hl 0 rfl) ?_
        refine lv_ldc2 (v := 4294967295) hx hb hown (hts _ (big_in mw_398 rfl)) d_Wh_takeMultiple_68 ?_
        refine zz_lo hx hb d_Wh_takeMultiple_71 (by omega) (by omega) ?_
        refine zz_lsub hx hb d_Wh_takeMultiple_72 ?_
        refine lv_lstore (lv' := [(11, .long (lZ ((uw (g (pl + i)) : Int) - ((T : Int) % 4294967296)))), (9, .long (lZ (T : Int))), (0, .ref h), (1, .ref h2), (2, .long (lZ (w : Int))), (4, .int (iZ (pl : Int))), (5, .int (iZ ((pl : Int) + (k2 : Int)))), (6, .long (lZ (cr : Int))), (8, .int (iZ (i : Int)))]) hx hb d_Wh_takeMultiple_73 hl (by decide) rfl (fun ls hl => ?_)
        refine lv_aload_n hx hb d_Wh_takeMultiple_75 rfl (lv_at hl 2 rfl) ?_
        refine va_get (D := D) (ci := 0) (v := .ref a) (C := R_Wh) (T := F_Wh) (N := 2) hx hb hts i_Wh hown hK hP 0 rfl rfl 0 (by decide) (hts _ (big_in mw_90 rfl)) (fun _ h9 => h9) rfl d_Wh_takeMultiple_76 ?_
        refine lv_iload hx hb d_Wh_takeMultiple_79 (lv_at hl 5 rfl) ?_
        refine lv_iload hx hb d_Wh_takeMultiple_81 (lv_at hl 8 rfl) ?_
        refine zz_iadd hx hb d_Wh_takeMultiple_83 ?_
        refine lv_lload hx hb d_Wh_takeMultiple_84 (lv_at hl 0 rfl) ?_
        refine zz_l2i hx hb d_Wh_takeMultiple_86 ?_
        refine zz_iast hx hb hK hP hD hS 1 0 rfl rfl (pl + i) (by omega) (by omega) (by omega) d_Wh_takeMultiple_87 (fun H locs hP hD hS => ?_)
        have hP : va_P D cls0 [(h, .inr (0, [.ref a, .int q])), (a, .inl (cI, n, .inl (upd g (pl + i) (iZ ((uw (g (pl + i)) : Int) - ((T : Int) % 4294967296)))))), (h2, .inr (0, [.ref a2, .int (iZ (k2 : Int))])), (a2, .inl (cI, n2, .inl f2))] H := hP
        have hD : va_D A [(h, .inr (0, [.ref a, .int q])), (a, .inl (cI, n, .inl (upd g (pl + i) (iZ ((uw (g (pl + i)) : Int) - ((T : Int) % 4294967296)))))), (h2, .inr (0, [.ref a2, .int (iZ (k2 : Int))])), (a2, .inl (cI, n2, .inl f2))] := hD
        refine lv_lload hx hb d_Wh_takeMultiple_88 (lv_at hl 1 rfl) ?_
        refine lv_bipush (v := iZ (32)) hx hb d_Wh_takeMultiple_90 (by decide +kernel) ?_
        refine zz_lushr32 hx hb d_Wh_takeMultiple_92 (by omega) (by omega) ?_
        refine lv_lload hx hb d_Wh_takeMultiple_93 (lv_at hl 0 rfl) ?_
        refine lv_lconst (v := lZ (0)) hx hb d_Wh_takeMultiple_95 (by decide +kernel) ?_
        refine zz_lcmp_ge (tgt := 104) hx hb d_Wh_takeMultiple_96 d_Wh_takeMultiple_97 (by decide) (by omega) (by omega) (fun c96 => ?_) (fun c96 => ?_)
        · refine lv_iconst (v := iZ (0)) hx hb d_Wh_takeMultiple_104 (by decide +kernel) ?_
          refine zz_i2l hx hb d_Wh_takeMultiple_105 (by omega) ?_
          refine zz_ladd hx hb d_Wh_takeMultiple_106 ?_
          refine lv_lstore (lv' := [(6, .long (lZ ((T : Int) / 4294967296 + 0))), (11, .long (lZ ((uw (g (pl + i)) : Int) - ((T : Int) % 4294967296)))), (9, .long (lZ (T : Int))), (0, .ref h), (1, .ref h2), (2, .long (lZ (w : Int))), (4, .int (iZ (pl : Int))), (5, .int (iZ ((pl : Int) + (k2 : Int)))), (8, .int (iZ (i : Int)))]) hx hb d_Wh_takeMultiple_107 hl (by decide) rfl (fun ls hl => ?_)
          refine lv_iinc (v := iZ ((i : Int) + 1)) (lv' := [(8, .int (iZ ((i : Int) + 1))), (6, .long (lZ ((T : Int) / 4294967296 + 0))), (11, .long (lZ ((uw (g (pl + i)) : Int) - ((T : Int) % 4294967296)))), (9, .long (lZ (T : Int))), (0, .ref h), (1, .ref h2), (2, .long (lZ (w : Int))), (4, .int (iZ (pl : Int))), (5, .int (iZ ((pl : Int) + (k2 : Int))))]) hx hb d_Wh_takeMultiple_109 hl (k := 8) rfl (iZ_add _ _) (by decide) rfl (fun ls hl => ?_)
          refine lv_goto (tgt := 23) hx hb d_Wh_takeMultiple_112 (by decide) ?_
          rw [show ((T : Int) / 4294967296 + 0 : Int) = ((T / 4294967296 + 0 : Nat) : Int) by omega] at hl
          rw [show ((i : Int) + 1 : Int) = ((i + 1 : Nat) : Int) by omega] at hl
          exact ih (i + 1) (T / 4294967296 + 0) (upd g (pl + i) (iZ ((uw (g (pl + i)) : Int) - ((T : Int) % 4294967296)))) _ _ _ (by omega) (by omega) (by rw [eg] at *; omega) (fun j hj => by rw [pk_un (by omega)]; exact ig j (by omega)) (tm_step iv eg hT (by rw [eg] at *; omega)) (hP.sub (ws' := [(h, .inr (0, [.ref a, .int q])), (a, .inl (cI, n, .inl (upd g (pl + i) (iZ ((uw (g (pl + i)) : Int) - ((T : Int) % 4294967296)))))), (h2, .inr (0, [.ref a2, .int (iZ (k2 : Int))])), (a2, .inl (cI, n2, .inl f2))]) [0, 1, 2, 3] rfl) (hD.sub (ws' := [(h, .inr (0, [.ref a, .int q])), (a, .inl (cI, n, .inl (upd g (pl + i) (iZ ((uw (g (pl + i)) : Int) - ((T : Int) % 4294967296)))))), (h2, .inr (0, [.ref a2, .int (iZ (k2 : Int))])), (a2, .inl (cI, n2, .inl f2))]) [0, 1, 2, 3] (by decide) rfl) hS (lv_sub hl [4, 5, 6, 7, 8, 1, 0] rfl)
        · refine lv_iconst (v := iZ (1)) hx hb d_Wh_takeMultiple_100 (by decide +kernel) ?_
          refine lv_goto (tgt := 105) hx hb d_Wh_takeMultiple_101 (by decide) ?_
          refine zz_i2l hx hb d_Wh_takeMultiple_105 (by omega) ?_
          refine zz_ladd hx hb d_Wh_takeMultiple_106 ?_
          refine lv_lstore (lv' := [(6, .long (lZ ((T : Int) / 4294967296 + 1))), (11, .long (lZ ((uw (g (pl + i)) : Int) - ((T : Int) % 4294967296)))), (9, .long (lZ (T : Int))), (0, .ref h), (1, .ref h2), (2, .long (lZ (w : Int))), (4, .int (iZ (pl : Int))), (5, .int (iZ ((pl : Int) + (k2 : Int)))), (8, .int (iZ (i : Int)))]) hx hb d_Wh_takeMultiple_107 hl (by decide) rfl (fun ls hl => ?_)
          refine lv_iinc (v := iZ ((i : Int) + 1)) (lv' := [(8, .int (iZ ((i : Int) + 1))), (6, .long (lZ ((T : Int) / 4294967296 + 1))), (11, .long (lZ ((uw (g (pl + i)) : Int) - ((T : Int) % 4294967296)))), (9, .long (lZ (T : Int))), (0, .ref h), (1, .ref h2), (2, .long (lZ (w : Int))), (4, .int (iZ (pl : Int))), (5, .int (iZ ((pl : Int) + (k2 : Int))))]) hx hb d_Wh_takeMultiple_109 hl (k := 8) rfl (iZ_add _ _) (by decide) rfl (fun ls hl => ?_)
          refine lv_goto (tgt := 23) hx hb d_Wh_takeMultiple_112 (by decide) ?_
          rw [show ((T : Int) / 4294967296 + 1 : Int) = ((T / 4294967296 + 1 : Nat) : Int) by omega] at hl
          rw [show ((i : Int) + 1 : Int) = ((i + 1 : Nat) : Int) by omega] at hl
          exact ih (i + 1) (T / 4294967296 + 1) (upd g (pl + i) (iZ ((uw (g (pl + i)) : Int) - ((T : Int) % 4294967296)))) _ _ _ (by omega) (by omega) (by rw [eg] at *; omega) (fun j hj => by rw [pk_un (by omega)]; exact ig j (by omega)) (tm_step iv eg hT (by rw [eg] at *; omega)) (hP.sub (ws' := [(h, .inr (0, [.ref a, .int q])), (a, .inl (cI, n, .inl (upd g (pl + i) (iZ ((uw (g (pl + i)) : Int) - ((T : Int) % 4294967296)))))), (h2, .inr (0, [.ref a2, .int (iZ (k2 : Int))])), (a2, .inl (cI, n2, .inl f2))]) [0, 1, 2, 3] rfl) (hD.sub (ws' := [(h, .inr (0, [.ref a, .int q])), (a, .inl (cI, n, .inl (upd g (pl + i) (iZ ((uw (g (pl + i)) : Int) - ((T : Int) % 4294967296)))))), (h2, .inr (0, [.ref a2, .int (iZ (k2 : Int))])), (a2, .inl (cI, n2, .inl f2))]) [0, 1, 2, 3] (by decide) rfl) hS (lv_sub hl [4, 5, 6, 7, 8, 1, 0] rfl)
  exact L23 _ 0 0 f _ _ _ (Nat.lt_succ_self _) (Nat.zero_le _) (by decide) (fun _ _ => rfl) (by simp [vV_0]) (hP.sub (ws' := [(h, .inr (0, [.ref a, .int q])), (a, .inl (cI, n, .inl f)), (h2, .inr (0, [.ref a2, .int (iZ (k2 : Int))])), (a2, .inl (cI, n2, .inl f2))]) [2, 3, 0, 1] rfl) (hD.sub (ws' := [(h, .inr (0, [.ref a, .int q])), (a, .inl (cI, n, .inl f)), (h2, .inr (0, [.ref a2, .int (iZ (k2 : Int))])), (a2, .inl (cI, n2, .inl f2))]) [2, 3, 0, 1] (by decide) rfl) hS (lv_sub hl [3, 4, 5, 6, 2, 1, 0] rfl)
set_option maxHeartbeats 4000000 in
set_option maxRecDepth 100000 in
/-- giveBack(divisor, place) -/
theorem c_Wh_giveBack (l : Launch) (D : va_G) (h : Nat) (a : Nat) (q : Int32) (n : Nat) (f : Nat → Int32) (h2 : Nat) (a2 : Nat) (k2 : Nat) (n2 : Nat) (f2 : Nat → Int32) (cI : ClassId) (pl : Nat) (sz : Nat) (hk : pl + k2 + 1 ≤ n) (hk2 : k2 ≤ n2) (hn : n < 1000000) (hn2 : n2 < 1000000) : Met l y_Wh_giveBack (wsB y_Wh_giveBack b_Wh_giveBack 7 none) ({ frames := 1, cells := 0, slots := 0, locals := 21 }) (va_Pc [.ref h, .ref h2, .int (iZ (pl : Int))] (wPre D [(cI, .int)] [(h, .inr (0, [.ref a, .int q])), (a, .inl (cI, n, .inl f)), (h2, .inr (0, [.ref a2, .int (iZ (k2 : Int))])), (a2, .inl (cI, n2, .inl f2))] sz)) (va_QV (fun (v9 : Option Value) (u9 : (Nat → Int32)) => v9 = none ∧ (∀ j, j < pl ∨ pl + k2 < j → u9 j = f j) ∧ (vV (sh u9 pl) (k2 + 1) = (vV (sh f pl) (k2 + 1) + vV f2 k2) % pB (k2 + 1))) (fun u9 => wPost D [(cI, .int)] [(h, .inr (0, [.ref a, .int q])), (a, .inl (cI, n, .inl f)), (h2, .inr (0, [.ref a2, .int (iZ (k2 : Int))])), (a2, .inl (cI, n2, .inl f2))] [(h, .inr (0, [.ref a, .int q])), (a, .inl (cI, n, .inl u9)), (h2, .inr (0, [.ref a2, .int (iZ (k2 : Int))])), (a2, .inl (cI, n2, .inl f2))] sz) (va_A [(h, .inr (0, [.ref a, .int q])), (a, .inl (cI, n, .inl f)), (h2, .inr (0, [.ref a2, .int (iZ (k2 : Int))])), (a2, .inl (cI, n2, .inl f2))] sz)) 0 0 (va_A [(h, .inr (0, [.ref a, .int q])), (a, .inl (cI, n, .inl f)), (h2, .inr (0, [.ref a2, .int (iZ (k2 : Int))])), (a2, .inl (cI, n2, .inl f2))] sz) := by
  refine met_enter (by decide +kernel) (Nat.le_of_ble_eq_true rfl) ?_
  intro p e s m args below meth c ls A R Q H locs K hin hAe hA hR hQ hP hK hD hS hl
  obtain ⟨hx, hb, hml, hrt, hlk, hts, hown, hno⟩ := id K
  have hl : lv_has ls 7 [(0, .ref h), (1, .ref h2), (2, .int (iZ (pl : Int)))] := hl
  refine lv_iload_n hx hb d_Wh_giveBack_0 rfl (lv_at hl 2 rfl) ?_
  refine lv_aload_n hx hb d_Wh_giveBack_1 rfl (lv_at hl 1 rfl) ?_
  refine va_get (D := D) (ci := 0) (v := .int (iZ (k2 : Int))) (C := R_Wh) (T := F_Wh) (N := 2) hx hb hts i_Wh hown hK hP 2 rfl rfl 1 (by decide) (hts _ (big_in mw_94 rfl)) (fun _ h9 => h9) rfl d_Wh_giveBack_2 ?_
  refine zz_iadd hx hb d_Wh_giveBack_5 ?_
  refine lv_istore_n (lv' := [(3, .int (iZ ((pl : Int) + (k2 : Int)))), (0, .ref h), (1, .ref h2), (2, .int (iZ (pl : Int)))]) hx hb d_Wh_giveBack_6 rfl hl (by decide) rfl (fun ls hl => ?_)
  refine lv_aload_n hx hb d_Wh_giveBack_7 rfl (lv_at hl 1 rfl) ?_
  refine lv_iload_n hx hb d_Wh_giveBack_8 rfl (lv_at hl 0 rfl) ?_
  refine lv_iconst (v := iZ (1)) hx hb d_Wh_giveBack_9 (by decide +kernel) ?_
  refine zz_iadd hx hb d_Wh_giveBack_10 ?_
  refine cv (n := 1) (wr := [(h2, .inr (0, [.ref a2, .int (iZ (k2 : Int))])), (a2, .inl (cI, n2, .inl f2))]) (w1 := (fun (u : Unit) => [(h, .inr (0, [.ref a, .int q])), (a, .inl (cI, n, .inl f))])) (As := [.int (iZ ((pl : Int) + (k2 : Int) + 1))]) (rest := []) K hP hD hK hS hA hl.1 (c_Wh_claim l D h a q n f cI ((pl : Int) + (k2 : Int) + 1) H.size (by omega) (by omega)) [0, 1] [2, 3] [0] rfl rfl rfl (by decide) (by decide) (by decide) 0 rfl rfl (big_in mw_406 rfl) (big_in mw_6 rfl) (big_in mw_403 rfl) (big_in mw_405 rfl) (big_in sp_2 rfl) rfl rfl (by decide +kernel) ⟨by rw [hR]; exact Nat.le_of_ble_eq_true rfl, by rw [hR]; exact Nat.le_of_ble_eq_true rfl⟩ rfl (Nat.le_of_ble_eq_true rfl) d_Wh_giveBack_11 ⟨by rw [hR]; exact Nat.le_of_ble_eq_true rfl, by rw [hR]; exact Nat.le_of_ble_eq_true rfl⟩ rfl (fun v u H locs hp1 hP hD hS _ => ?_)
  obtain rfl := hp1
  have hP : va_P D cls0 [(h2, .inr (0, [.ref a2, .int (iZ (k2 : Int))])), (a2, .inl (cI, n2, .inl f2)), (h, .inr (0, [.ref a, .int q])), (a, .inl (cI, n, .inl f))] H := hP
  have hD : va_D A [(h2, .inr (0, [.ref a2, .int (iZ (k2 : Int))])), (a2, .inl (cI, n2, .inl f2)), (h, .inr (0, [.ref a, .int q])), (a, .inl (cI, n, .inl f))] := hD
  show W p l e R s m args below meth c H locs _ _ Q (F0 m 14 ls [])
  refine lv_lconst (v := lZ (0)) hx hb d_Wh_giveBack_14 (by decide +kernel) ?_
  refine lv_lstore (lv' := [(4, .long (lZ 0)), (3, .int (iZ ((pl : Int) + (k2 : Int)))), (0, .ref h), (1, .ref h2), (2, .int (iZ (pl : Int)))]) hx hb d_Wh_giveBack_15 hl (by decide) rfl (fun ls hl => ?_)
  refine lv_iconst (v := iZ (0)) hx hb d_Wh_giveBack_17 (by decide +kernel) ?_
  refine lv_istore (lv' := [(6, .int (iZ 0)), (4, .long (lZ 0)), (3, .int (iZ ((pl : Int) + (k2 : Int)))), (0, .ref h), (1, .ref h2), (2, .int (iZ (pl : Int)))]) hx hb d_Wh_giveBack_18 hl (by decide) rfl (fun ls hl => ?_)
  have L20 : ∀ (N : Nat) (i : Nat) (cr : Nat) (g : Nat → Int32) (H : Heap) (locs : List Loc) (ls : Array Slot), k2 - i < N → (i ≤ k2) → (cr ≤ 1) → (∀ j, j < pl ∨ pl + i ≤ j → g j = f j) → (vV (sh g pl) i + cr * pB i = vV (sh f pl) i + vV f2 i) → va_P D cls0 [(h, .inr (0, [.ref a, .int q])), (a, .inl (cI, n, .inl g)), (h2, .inr (0, [.ref a2, .int (iZ (k2 : Int))])), (a2, .inl (cI, n2, .inl f2))] H → va_D A [(h, .inr (0, [.ref a, .int q])), (a, .inl (cI, n, .inl g)), (h2, .inr (0, [.ref a2, .int (iZ (k2 : Int))])), (a2, .inl (cI, n2, .inl f2))] → va_S A s.heap H locs → lv_has ls 7 [(0, .ref h), (1, .ref h2), (2, .int (iZ (pl : Int))), (3, .int (iZ ((pl : Int) + (k2 : Int)))), (4, .long (lZ (cr : Int))), (6, .int (iZ (i : Int)))] → W p l e R s m args below meth c H locs 0 0 Q (F0 m 20 ls []) := by
    intro N
    induction N with
    | zero => intro i cr g H locs ls hN; exact absurd hN (Nat.not_lt_zero _)
    | succ N ih =>
      intro i cr g H locs ls hN ii ic ig iv hP hD hS hl
      refine lv_iload hx hb d_Wh_giveBack_20 (lv_at hl 5 rfl) ?_
      refine lv_aload_n hx hb d_Wh_giveBack_22 rfl (lv_at hl 1 rfl) ?_
      refine va_get (D := D) (ci := 0) (v := .int (iZ (k2 : Int))) (C := R_Wh) (T := F_Wh) (N := 2) hx hb hts i_Wh hown hK hP 2 rfl rfl 1 (by decide) (hts _ (big_in mw_94 rfl)) (fun _ h9 => h9) rfl d_Wh_giveBack_23 ?_
      refine zz_icmp_ge (tgt := 86) hx hb d_Wh_giveBack_26 (by decide) (by omega) (by omega) (fun c26 => ?_) (fun c26 => ?_)
      · refine lv_aload_n hx hb d_Wh_giveBack_86 rfl (lv_at hl 0 rfl) ?_
        refine va_get (D := D) (ci := 0) (v := .ref a) (C := R_Wh) (T := F_Wh) (N := 2) hx hb hts i_Wh hown hK hP 0 rfl rfl 0 (by decide) (hts _ (big_in mw_90 rfl)) (fun _ h9 => h9) rfl d_Wh_giveBack_87 ?_
        refine lv_iload_n hx hb d_Wh_giveBack_90 rfl (lv_at hl 3 rfl) ?_
        refine lv_dup2_11 hx hb d_Wh_giveBack_91 rfl rfl ?_
        refine zz_iald hx hb hK hP 1 0 rfl rfl (pl + k2) (by omega) (by omega) (by omega) d_Wh_giveBack_92 ?_
        refine lv_lload hx hb d_Wh_giveBack_93 (lv_at hl 4 rfl) ?_
        refine zz_l2i hx hb d_Wh_giveBack_95 ?_
        refine lv_iadd hx hb d_Wh_giveBack_96 ?_
        refine zz_iast hx hb hK hP hD hS 1 0 rfl rfl (pl + k2) (by omega) (by omega) (by omega) d_Wh_giveBack_97 (fun H locs hP hD hS => ?_)
        have hP : va_P D cls0 [(h, .inr (0, [.ref a, .int q])), (a, .inl (cI, n, .inl (upd g (pl + k2) ((g (pl + k2)) + iZ (cr : Int))))), (h2, .inr (0, [.ref a2, .int (iZ (k2 : Int))])), (a2, .inl (cI, n2, .inl f2))] H := hP
        have hD : va_D A [(h, .inr (0, [.ref a, .int q])), (a, .inl (cI, n, .inl (upd g (pl + k2) ((g (pl + k2)) + iZ (cr : Int))))), (h2, .inr (0, [.ref a2, .int (iZ (k2 : Int))])), (a2, .inl (cI, n2, .inl f2))] := hD
        have hP9 : va_P D cls0 [(h, .inr (0, [.ref a, .int q])), (a, .inl (cI, n, .inl (upd g (pl + k2) ((g (pl + k2)) + iZ (cr : Int))))), (h2, .inr (0, [.ref a2, .int (iZ (k2 : Int))])), (a2, .inl (cI, n2, .inl f2))] H := hP.sub [0, 1, 2, 3] rfl
        have hD9 : va_D A [(h, .inr (0, [.ref a, .int q])), (a, .inl (cI, n, .inl (upd g (pl + k2) ((g (pl + k2)) + iZ (cr : Int))))), (h2, .inr (0, [.ref a2, .int (iZ (k2 : Int))])), (a2, .inl (cI, n2, .inl f2))] := hD.sub [0, 1, 2, 3] (by decide) rfl
        rw [hQ, ← hAe]
        refine r_v K (upd g (pl + k2) ((g (pl + k2)) + iZ (cr : Int))) hS d_Wh_giveBack_98 ?_ (fun t ht hv => ?_)
        · have ei : i = k2 := by omega
          subst ei
          exact ⟨rfl, fun j hj => by rw [pk_un (by omega)]; exact ig j (by omega), gb_end iv ic (ig (pl + i) (Or.inr (Nat.le_refl _)))⟩
        · exact ⟨by rw [ht]; exact hP9, va_K.moved hv hK, by rw [← hAe]; exact hD9⟩
      · refine lv_lload hx hb d_Wh_giveBack_29 (lv_at hl 4 rfl) ?_
        refine lv_aload_n hx hb d_Wh_giveBack_31 rfl (lv_at hl 0 rfl) ?_
        refine va_get (D := D) (ci := 0) (v := .ref a) (C := R_Wh) (T := F_Wh) (N := 2) hx hb hts i_Wh hown hK hP 0 rfl rfl 0 (by decide) (hts _ (big_in mw_90 rfl)) (fun _ h9 => h9) rfl d_Wh_giveBack_32 ?_
        refine lv_iload_n hx hb d_Wh_giveBack_35 rfl (lv_at hl 2 rfl) ?_
        refine lv_iload hx hb d_Wh_giveBack_36 (lv_at hl 5 rfl) ?_
        refine zz_iadd hx hb d_Wh_giveBack_38 ?_
        refine zz_iald hx hb hK hP 1 0 rfl rfl (pl + i) (by omega) (by omega) (by omega) d_Wh_giveBack_39 ?_
        refine lv_i2l (v := (g (pl + i)).toInt64) hx hb d_Wh_giveBack_40 rfl ?_
        refine lv_ldc2 (v := 4294967295) hx hb hown (hts _ (big_in mw_398 rfl)) d_Wh_giveBack_41 ?_
        refine zz_mask hx hb d_Wh_giveBack_44 ?_
        have bw44 := uwZ (g (pl + i))
        refine lv_aload_n hx hb d_Wh_giveBack_45 rfl (lv_at hl 1 rfl) ?_
        refine va_get (D := D) (ci := 0) (v := .ref a2) (C := R_Wh) (T := F_Wh) (N := 2) hx hb hts i_Wh hown hK hP 2 rfl rfl 0 (by decide) (hts _ (big_in mw_90 rfl)) (fun _ h9 => h9) rfl d_Wh_giveBack_46 ?_
        refine lv_iload hx hb d_Wh_giveBack_49 (lv_at hl 5 rfl) ?_
        refine zz_iald hx hb hK hP 3 0 rfl rfl (i) (by omega) (by omega) (by omega) d_Wh_giveBack_51 ?_
        refine lv_i2l (v := (f2 i).toInt64) hx hb d_Wh_giveBack_52 rfl ?_
        refine lv_ldc2 (v := 4294967295) hx hb hown (hts _ (big_in mw_398 rfl)) d_Wh_giveBack_53 ?_
        refine zz_mask hx hb d_Wh_giveBack_56 ?_
        have bw56 := uwZ (f2 i)
        refine zz_ladd hx hb d_Wh_giveBack_57 ?_
        refine zz_ladd hx hb d_Wh_giveBack_58 ?_
        obtain ⟨T, hT, bT⟩ : ∃ x : Nat, x = cr + (uw (g (pl + i)) + uw (f2 i)) ∧ x < 8589934592 := ⟨_, rfl, by have := uw_lt (g (pl + i)); have := uw_lt (f2 i); omega⟩
        rw [show ((cr : Int) + ((uw (g (pl + i)) : Int) + (uw (f2 i) : Int)) : Int) = (T : Int) by rw [hT]; simp] 
        refine lv_lstore (lv' := [(4, .long (lZ (T : Int))), (0, .ref h), (1, .ref h2), (2, .int (iZ (pl : Int))), (3, .int (iZ ((pl : Int) + (k2 : Int)))), (6, .int (iZ (i : Int)))]) hx hb d_Wh_giveBack_59 hl (by decide) rfl (fun ls hl => ?_)
        refine lv_aload_n hx hb d_Wh_giveBack_61 rfl (lv_at hl 1 rfl) ?_
        refine va_get (D := D) (ci := 0) (v := .ref a) (C := R_Wh) (T := F_Wh) (N := 2) hx hb hts i_Wh hown hK hP 0 rfl rfl 0 (by decide) (hts _ (big_in mw_90 rfl)) (fun _ h9 => h9) rfl d_Wh_giveBack_62 ?_
        refine lv_iload_n hx hb d_Wh_giveBack_65 rfl (lv_at hl 3 rfl) ?_
        refine lv_iload hx hb d_Wh_giveBack_66 (lv_at hl 5 rfl) ?_
        refine zz_iadd hx hb d_Wh_giveBack_68 ?_
        refine lv_lload hx hb d_Wh_giveBack_69 (lv_at hl 0 rfl) ?_
        refine zz_l2i hx hb d_Wh_giveBack_71 ?_
        refine zz_iast hx hb hK hP hD hS 1 0 rfl rfl (pl + i) (by omega) (by omega) (by omega) d_Wh_giveBack_72 (fun H locs hP hD hS => ?_)
        have hP : va_P D cls0 [(h, .inr (0, [.ref a, .int q])), (a, .inl (cI, n, .inl (upd g (pl + i) (iZ (T : Int))))), (h2, .inr (0, [.ref a2, .int (iZ (k2 : Int))])), (a2, .inl (cI, n2, .inl f2))] H := hP
        have hD : va_D A [(h, .inr (0, [.ref a, .int q])), (a, .inl (cI, n, .inl (upd g (pl + i) (iZ (T : Int))))), (h2, .inr (0, [.ref a2, .int (iZ (k2 : Int))])), (a2, .inl (cI, n2, .inl f2))] := hD
        refine lv_lload hx hb d_Wh_giveBack_73 (lv_at hl 0 rfl) ?_
        refine lv_bipush (v := iZ (32)) hx hb d_Wh_giveBack_75 (by decide +kernel) ?_
        refine zz_lushr32 hx hb d_Wh_giveBack_77 (by omega) (by omega) ?_
        refine lv_lstore (lv' := [(4, .long (lZ ((T : Int) / 4294967296))), (0, .ref h), (1, .ref h2), (2, .int (iZ (pl : Int))), (3, .int (iZ ((pl : Int) + (k2 : Int)))), (6, .int (iZ (i : Int)))]) hx hb d_Wh_giveBack_78 hl (by decide) rfl (fun ls hl => ?_)
        refine lv_iinc (v := iZ ((i : Int) + 1)) (lv' := [(6, .int (iZ ((i : Int) + 1))), (4, .long (lZ ((T : Int) / 4294967296))), (0, .ref h), (1, .ref h2), (2, .int (iZ (pl : Int))), (3, .int (iZ ((pl : Int) + (k2 : Int))))]) hx hb d_Wh_giveBack_80 hl (k := 5) rfl (iZ_add _ _) (by decide) rfl (fun ls hl => ?_)
        refine lv_goto (tgt := 20) hx hb d_Wh_giveBack_83 (by decide) ?_
        rw [show ((T : Int) / 4294967296 : Int) = ((T / 4294967296 : Nat) : Int) by omega] at hl
        rw [show ((i : Int) + 1 : Int) = ((i + 1 : Nat) : Int) by omega] at hl
        exact ih (i + 1) (T / 4294967296) (upd g (pl + i) (iZ (T : Int))) _ _ _ (by omega) (by omega) (by omega) (fun j hj => by rw [pk_un (by omega)]; exact ig j (by omega)) (by have q := am_step (w := 1) (cr := cr) (T := T) (by rw [Nat.one_mul]; exact iv) (by rw [hT]; omega) (ig (pl + i) (Or.inr (Nat.le_refl _))); rw [Nat.one_mul] at q; exact q) (hP.sub (ws' := [(h, .inr (0, [.ref a, .int q])), (a, .inl (cI, n, .inl (upd g (pl + i) (iZ (T : Int))))), (h2, .inr (0, [.ref a2, .int (iZ (k2 : Int))])), (a2, .inl (cI, n2, .inl f2))]) [0, 1, 2, 3] rfl) (hD.sub (ws' := [(h, .inr (0, [.ref a, .int q])), (a, .inl (cI, n, .inl (upd g (pl + i) (iZ (T : Int))))), (h2, .inr (0, [.ref a2, .int (iZ (k2 : Int))])), (a2, .inl (cI, n2, .inl f2))]) [0, 1, 2, 3] (by decide) rfl) hS (lv_sub hl [2, 3, 4, 5, 1, 0] rfl)
  exact L20 _ 0 0 f _ _ _ (Nat.lt_succ_self _) (Nat.zero_le _) (by decide) (fun _ _ => rfl) (by simp [vV_0]) (hP.sub (ws' := [(h, .inr (0, [.ref a, .int q])), (a, .inl (cI, n, .inl f)), (h2, .inr (0, [.ref a2, .int (iZ (k2 : Int))])), (a2, .inl (cI, n2, .inl f2))]) [2, 3, 0, 1] rfl) (hD.sub (ws' := [(h, .inr (0, [.ref a, .int q])), (a, .inl (cI, n, .inl f)), (h2, .inr (0, [.ref a2, .int (iZ (k2 : Int))])), (a2, .inl (cI, n2, .inl f2))]) [2, 3, 0, 1] (by decide) rfl) hS (lv_sub hl [3, 4, 5, 2, 1, 0] rfl)
