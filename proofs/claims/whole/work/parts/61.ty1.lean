/-! TYPED: the text -/
def byt (w i : Nat) : Nat := w / 2 ^ (8 * i) % 256
def TkN (w n : Nat) : Prop := n ≤ 8 ∧ (∀ i, i < n → byt w i ≠ 0) ∧ (n = 8 ∨ byt w n = 0)
def tkBad (w : Nat) : Prop := ∃ i, i < 8 ∧ (∀ j, j ≤ i → byt w j ≠ 0) ∧ (byt w i < 33 ∨ 126 < byt w i)
theorem TkN.uniq {w n m : Nat} (h : TkN w n) (k : TkN w m) : n = m := by
  rcases Nat.lt_trichotomy n m with q | q | q
  · rcases h.2.2 with z | z
    · have := k.1; omega
    · exact absurd z (k.2.1 n q)
  · exact q
  · rcases k.2.2 with z | z
    · have := h.1; omega
    · exact absurd z (h.2.1 m q)
theorem tkBad.not {w n : Nat} (hn : TkN w n) (h : ∀ i, i < n → 33 ≤ byt w i ∧ byt w i ≤ 126) : ¬ tkBad w := fun ⟨i, hi, h1, h2⟩ => by
  have : i < n := by
    apply Nat.lt_of_not_le
    intro q
    rcases hn.2.2 with z | z
    · omega
    · exact h1 n q z
  have := h i this
  omega
/-- n characters more -/
def extC (f : Nat → Int32) (cn n w : Nat) : Nat → Int32 := fun j => if cn ≤ j ∧ j < cn + n then iZ (byt w (j - cn) : Int) else f j
theorem extC_0 (f : Nat → Int32) (cn w : Nat) : extC f cn 0 w = f := by funext j; unfold extC; rw [if_neg (by omega)]
theorem extC_s (f : Nat → Int32) (cn k w : Nat) : upd (extC f cn k w) (cn + k) (iZ (byt w k : Int)) = extC f cn (k + 1) w := by
  funext j; unfold extC upd
  by_cases h1 : j = cn + k
  · rw [if_pos h1, if_pos (by omega), show j - cn = k by omega]
  · rw [if_neg h1]
    show (if cn ≤ j ∧ j < cn + k then _ else _) = _
    by_cases h2 : cn ≤ j ∧ j < cn + k
    · rw [if_pos h2, if_pos (by omega)]
    · rw [if_neg h2, if_neg (by omega)]
theorem byt_lt (w i : Nat) : byt w i < 256 := Nat.mod_lt _ (by decide)
set_option maxHeartbeats 4000000 in
set_option maxRecDepth 100000 in
/-- byteOf(eight, i) -/
theorem c_Ty_byteOf (l : Launch) (D : va_G) (w : Nat) (i : Nat) (sz : Nat) (hw : w < 18446744073709551616) (hi : i < 8) : Met l y_Ty_byteOf (wsB y_Ty_byteOf b_Ty_byteOf 3 (some .int)) ({ frames := 0, cells := 0, slots := 0, locals := 0 }) (va_Pc [.long (lZ (w : Int)), .int (iZ (i : Int))] (wPre D [] [] sz)) (va_QV (fun (v_9 : Option Value) (u_9 : Nat) => v_9 = some (.int (iZ (u_9 : Int))) ∧ (u_9 = byt w i) ∧ (u_9 < 256)) (fun u_9 => wPost D [] [] [] sz) (va_A [] sz)) 0 0 (va_A [] sz) := by
  refine met_enter (by decide +kernel) (Nat.le_of_ble_eq_true rfl) ?_
  intro p e s m args below meth c ls A R Q H locs K hin hAe hA hR hQ hP hK hD hS hl
  obtain ⟨hx, hb, hml, hrt, hlk, hts, hown, hno⟩ := id K
  have hl : lv_has ls 3 [(0, .long (lZ (w : Int))), (2, .int (iZ (i : Int)))] := hl
  refine lv_lload_n hx hb d_Ty_byteOf_0 rfl (lv_at hl 0 rfl) ?_
  refine lv_bipush (v := iZ (8)) hx hb d_Ty_byteOf_1 (by decide +kernel) ?_
  refine lv_iload_n hx hb d_Ty_byteOf_3 rfl (lv_at hl 1 rfl) ?_
  refine zz_imul hx hb d_Ty_byteOf_4 ?_
  refine zz_lushr (n := 8 * i) hx hb d_Ty_byteOf_5 (by omega) (by omega) (by omega) (by omega) ?_
  refine zz_l2i hx hb d_Ty_byteOf_6 ?_
  refine lv_sipush (v := iZ (255)) hx hb d_Ty_byteOf_7 (by decide +kernel) ?_
  refine zz_iand255 hx hb d_Ty_byteOf_10 ?_
  obtain ⟨r, hr, br⟩ : ∃ x : Nat, x = byt w i ∧ x < 256 := ⟨_, rfl, byt_lt w i⟩
  rw [show (((w : Int) / 2 ^ (8 * i)) % 256 : Int) = (r : Int) by rw [hr]; simp [byt]] 
  have hP9 : va_P D cls0 [] H := hP.sub [] rfl
  have hD9 : va_D A [] := hD.sub [] (by decide) rfl
  rw [hQ, ← hAe]
  refine r_i (v := (iZ (r : Int))) K r hS d_Ty_byteOf_11 ?_ (fun t ht hv => ?_)
  · exact ⟨rfl, hr, br⟩
  · exact ⟨by rw [ht]; exact hP9, va_K.moved hv hK, by rw [← hAe]; exact hD9⟩
set_option maxHeartbeats 4000000 in
set_option maxRecDepth 100000 in
/-- take(eight) -/
theorem c_Ty_take (l : Launch) (D : va_G) (hy : Nat) (ay : Nat) (fy : Nat → Int32) (cn : Nat) (qj : Int32) (ql : Int32) (cC : ClassId) (w : Nat) (sz : Nat) (hw : w < 18446744073709551616) (hcn : cn ≤ 400) : Met l y_Ty_take (wsB y_Ty_take b_Ty_take 5 (some .boolean)) ({ frames := 1, cells := 0, slots := 0, locals := 22 }) (va_Pc [.ref hy, .long (lZ (w : Int))] (wPre D [(cC, .char)] [(hy, .inr (5, [.ref ay, .int (iZ (cn : Int)), .int qj, .int ql])), (ay, .inl (cC, 400, .inl fy))] sz)) (va_QV (fun (v_9 : Option Value) (u_9 : Int × Nat × (Nat → Int32)) => v_9 = some (.int (iZ u_9.1)) ∧ ((u_9.1 = 0 ∧ u_9.2.1 = cn ∧ u_9.2.2 = fy ∧ (tkBad w ∨ ∃ n, TkN w n ∧ 400 < cn + n)) ∨ (u_9.1 = 1 ∧ ∃ n, TkN w n ∧ ¬ tkBad w ∧ cn + n ≤ 400 ∧ u_9.2.1 = cn + n ∧ u_9.2.2 = extC fy cn n w))) (fun u_9 => wPost D [(cC, .char)] [(hy, .inr (5, [.ref ay, .int (iZ (cn : Int)), .int qj, .int ql])), (ay, .inl (cC, 400, .inl fy))] [(hy, .inr (5, [.ref ay, .int (iZ (u_9.2.1 : Int)), .int qj, .int ql])), (ay, .inl (cC, 400, .inl u_9.2.2))] sz) (va_A [(hy, .inr (5, [.ref ay, .int (iZ (cn : Int)), .int qj, .int ql])), (ay, .inl (cC, 400, .inl fy))] sz)) 0 0 (va_A [(hy, .inr (5, [.ref ay, .int (iZ (cn : Int)), .int qj, .int ql])), (ay, .inl (cC, 400, .inl fy))] sz) := by
  refine met_enter (by decide +kernel) (Nat.le_of_ble_eq_true rfl) ?_
  intro p e s m args below meth c ls A R Q H locs K hin hAe hA hR hQ hP hK hD hS hl
  obtain ⟨hx, hb, hml, hrt, hlk, hts, hown, hno⟩ := id K
  have hl : lv_has ls 5 [(0, .ref hy), (1, .long (lZ (w : Int)))] := hl
  have L71 : ∀ (N : Nat) (mo : Nat) (k : Nat) (H : Heap) (locs : List Loc) (ls : Array Slot), mo - k < N → (TkN w mo) → (¬ tkBad w) → (mo ≤ 8) → (cn + mo ≤ 400) → (k ≤ mo) → va_P D cls0 [(hy, .inr (5, [.ref ay, .int (iZ (cn : Int)), .int qj, .int ql])), (ay, .inl (cC, 400, .inl (extC fy cn k w)))] H → va_D A [(hy, .inr (5, [.ref ay, .int (iZ (cn : Int)), .int qj, .int ql])), (ay, .inl (cC, 400, .inl (extC fy cn k w)))] → va_S A s.heap H locs → lv_has ls 5 [(0, .ref hy), (1, .long (lZ (w : Int))), (3, .int (iZ (mo : Int))), (4, .int (iZ (k : Int)))] → W p l e R s m args below meth c H locs 0 0 Q (F0 m 71 ls []) := by
    intro N
    induction N with
    | zero => intro mo k H locs ls hN; exact absurd hN (Nat.not_lt_zero _)
    | succ N ih =>
      intro mo k H locs ls hN hN hbd hm8 hfit hk hP hD hS hl
      refine lv_iload hx hb d_Ty_take_71 (lv_at hl 3 rfl) ?_
      refine lv_iload_n hx hb d_Ty_take_73 rfl (lv_at hl 2 rfl) ?_
      refine zz_icmp_ge (tgt := 102) hx hb d_Ty_take_74 (by decide) (by omega) (by omega) (fun c74 => ?_) (fun c74 => ?_)
      · have ek : k = mo := by omega
        rw [ek] at hP hD
        refine lv_aload_n hx hb d_Ty_take_102 rfl (lv_at hl 0 rfl) ?_
        refine lv_dup hx hb d_Ty_take_103 rfl ?_
        refine va_get (D := D) (ci := 5) (v := .int (iZ (cn : Int))) (C := R_Ty) (T := F_Ty) (N := 4) hx hb hts i_Ty hown hK hP 0 rfl rfl 1 (by decide) (hts _ (big_in mw_150 rfl)) (fun _ h9 => h9) rfl d_Ty_take_104 ?_
        refine lv_iload_n hx hb d_Ty_take_107 rfl (lv_at hl 2 rfl) ?_
        refine zz_iadd hx hb d_Ty_take_108 ?_
        rw [show ((cn : Int) + (mo : Int) : Int) = ((cn + mo : Nat) : Int) by omega]
        refine va_put (D := D) (ci := 5) (v := .int (iZ ((cn + mo : Nat) : Int))) (ty := .int) (C := R_Ty) (T := F_Ty) (N := 4) hx hb hts i_Ty t_Ty t_Ty_ok n_Ty hown hK hP hD hS 0 rfl rfl 1 (by decide) (hts _ (big_in mw_150 rfl)) (fun _ h9 => h9) rfl (by decide +kernel) rfl rfl (Nat.le_of_ble_eq_true rfl) d_Ty_take_109 (fun H locs hP hD hS => ?_)
        have hP : va_P D cls0 [(hy, .inr (5, [.ref ay, .int (iZ ((cn + mo : Nat) : Int)), .int qj, .int ql])), (ay, .inl (cC, 400, .inl (extC fy cn mo w)))] H := hP
        have hD : va_D A [(hy, .inr (5, [.ref ay, .int (iZ ((cn + mo : Nat) : Int)), .int qj, .int ql])), (ay, .inl (cC, 400, .inl (extC fy cn mo w)))] := hD
        refine lv_iconst (v := iZ (1)) hx hb d_Ty_take_112 (by decide +kernel) ?_
        rw [show (((cn + mo : Nat) : Int) : Int) = (cn + mo : Int) by omega] at hP hD
        have hP9 : va_P D cls0 [(hy, .inr (5, [.ref ay, .int (iZ (cn + mo : Int)), .int qj, .int ql])), (ay, .inl (cC, 400, .inl (extC fy cn mo w)))] H := hP.sub [0, 1] rfl
        have hD9 : va_D A [(hy, .inr (5, [.ref ay, .int (iZ (cn + mo : Int)), .int qj, .int ql])), (ay, .inl (cC, 400, .inl (extC fy cn mo w)))] := hD.sub [0, 1] (by decide) rfl
        rw [hQ, ← hAe]
        refine r_z (v := (iZ 1)) K (1, cn + mo, extC fy cn mo w) hS rfl d_Ty_take_113 ?_ (fun t ht hv => ?_)
        · try dsimp only
          exact ⟨rfl, Or.inr ⟨rfl, mo, hN, hbd, hfit, rfl, rfl⟩⟩
        · exact ⟨by rw [ht]; exact hP9, va_K.moved hv hK, by rw [← hAe]; exact hD9⟩
      · refine lv_aload_n hx hb d_Ty_take_77 rfl (lv_at hl 0 rfl) ?_
        refine va_get (D := D) (ci := 5) (v := .ref ay) (C := R_Ty) (T := F_Ty) (N := 4) hx hb hts i_Ty hown hK hP 0 rfl rfl 0 (by decide) (hts _ (big_in mw_149 rfl)) (fun _ h9 => h9) rfl d_Ty_take_78 ?_
        refine lv_aload_n hx hb d_Ty_take_81 rfl (lv_at hl 0 rfl) ?_
        refine va_get (D := D) (ci := 5) (v := .int (iZ (cn : Int))) (C := R_Ty) (T := F_Ty) (N := 4) hx hb hts i_Ty hown hK hP 0 rfl rfl 1 (by decide) (hts _ (big_in mw_150 rfl)) (fun _ h9 => h9) rfl d_Ty_take_82 ?_
        refine lv_iload hx hb d_Ty_take_85 (lv_at hl 3 rfl) ?_
        refine zz_iadd hx hb d_Ty_take_87 ?_
        refine lv_lload_n hx hb d_Ty_take_88 rfl (lv_at hl 1 rfl) ?_
        refine lv_iload hx hb d_Ty_take_89 (lv_at hl 3 rfl) ?_
        refine cs (n := 2) (wr := [(hy, .inr (5, [.ref ay, .int (iZ (cn : Int)), .int qj, .int ql])), (ay, .inl (cC, 400, .inl (extC fy cn k w)))]) (w1 := (fun (u : Nat) => [])) (As := [.long (lZ (w : Int)), .int (iZ (k : Int))]) (rest := [.int (iZ ((cn : Int) + (k : Int))), .ref ay]) K hP hD hK hS hA hl.1 (c_Ty_byteOf l D w k H.size (by omega) (by omega)) [] [0, 1] [] rfl rfl rfl (by decide) (by decide) (by decide) (big_in mw_256 rfl) (big_in mw_7 rfl) (big_in mw_254 rfl) (big_in mw_255 rfl) rfl rfl (by decide +kernel) ⟨by rw [hR]; exact Nat.le_of_ble_eq_true rfl, by rw [hR]; exact Nat.le_of_ble_eq_true rfl⟩ rfl (Nat.le_of_ble_eq_true rfl) d_Ty_take_91 ⟨by rw [hR]; exact Nat.le_of_ble_eq_true rfl, by rw [hR]; exact Nat.le_of_ble_eq_true rfl⟩ rfl (fun v u H locs hp1 hP hD hS _ => ?_)
        obtain ⟨rd, rfl⟩ : ∃ z, z = u := ⟨_, rfl⟩
        obtain ⟨rfl, erd, brd⟩ := hp1
        have hP : va_P D cls0 [(hy, .inr (5, [.ref ay, .int (iZ (cn : Int)), .int qj, .int ql])), (ay, .inl (cC, 400, .inl (extC fy cn k w)))] H := hP
        have hD : va_D A [(hy, .inr (5, [.ref ay, .int (iZ (cn : Int)), .int qj, .int ql])), (ay, .inl (cC, 400, .inl (extC fy cn k w)))] := hD
        show W p l e R s m args below meth c H locs _ _ Q (F0 m 94 ls [.int (iZ (rd : Int)), .int (iZ ((cn : Int) + (k : Int))), .ref ay])
        refine zz_i2c hx hb d_Ty_take_94 (by omega) ?_
        refine zz_cast hx hb hK hP hD hS 1 0 rfl rfl (cn + k) (by omega) (by omega) (by omega) (by omega) d_Ty_take_95 (fun H locs hP hD hS => ?_)
        have hP : va_P D cls0 [(hy, .inr (5, [.ref ay, .int (iZ (cn : Int)), .int qj, .int ql])), (ay, .inl (cC, 400, .inl (upd (extC fy cn k w) (cn + k) (iZ (rd : Int)))))] H := hP
        have hD : va_D A [(hy, .inr (5, [.ref ay, .int (iZ (cn : Int)), .int qj, .int ql])), (ay, .inl (cC, 400, .inl (upd (extC fy cn k w) (cn + k) (iZ (rd : Int)))))] := hD
        rw [erd, extC_s] at hP hD
        refine lv_iinc (v := iZ ((k : Int) + 1)) (lv' := [(4, .int (iZ ((k : Int) + 1))), (0, .ref hy), (1, .long (lZ (w : Int))), (3, .int (iZ (mo : Int)))]) hx hb d_Ty_take_96 hl (k := 3) rfl (iZ_add _ _) (by decide) rfl (fun ls hl => ?_)
        refine lv_goto (tgt := 71) hx hb d_Ty_take_99 (by decide) ?_
        rw [show ((k : Int) + 1 : Int) = ((k + 1 : Nat) : Int) by omega] at hl
        exact ih mo (k + 1) _ _ _ (by omega) hN hbd hm8 hfit (by omega) (hP.sub (ws' := [(hy, .inr (5, [.ref ay, .int (iZ (cn : Int)), .int qj, .int ql])), (ay, .inl (cC, 400, .inl (extC fy cn (k + 1) w)))]) [0, 1] rfl) (hD.sub (ws' := [(hy, .inr (5, [.ref ay, .int (iZ (cn : Int)), .int qj, .int ql])), (ay, .inl (cC, 400, .inl (extC fy cn (k + 1) w)))]) [0, 1] (by decide) rfl) hS (lv_sub hl [1, 2, 3, 0] rfl)
  refine lv_iconst (v := iZ (0)) hx hb d_Ty_take_0 (by decide +kernel) ?_
  refine lv_istore_n (lv' := [(3, .int (iZ 0)), (0, .ref hy), (1, .long (lZ (w : Int)))]) hx hb d_Ty_take_1 rfl hl (by decide) rfl (fun ls hl => ?_)
  refine lv_iconst (v := iZ (0)) hx hb d_Ty_take_2 (by decide +kernel) ?_
  refine lv_istore (lv' := [(4, .int (iZ 0)), (3, .int (iZ 0)), (0, .ref hy), (1, .long (lZ (w : Int)))]) hx hb d_Ty_take_3 hl (by decide) rfl (fun ls hl => ?_)
  have L5 : ∀ (N : Nat) (i : Nat) (H : Heap) (locs : List Loc) (ls : Array Slot), 8 - i < N → (i ≤ 8) → (∀ j, j < i → byt w j ≠ 0 ∧ 33 ≤ byt w j ∧ byt w j ≤ 126) → va_P D cls0 [(hy, .inr (5, [.ref ay, .int (iZ (cn : Int)), .int qj, .int ql])), (ay, .inl (cC, 400, .inl fy))] H → va_D A [(hy, .inr (5, [.ref ay, .int (iZ (cn : Int)), .int qj, .int ql])), (ay, .inl (cC, 400, .inl fy))] → va_S A s.heap H locs → lv_has ls 5 [(0, .ref hy), (1, .long (lZ (w : Int))), (3, .int (iZ (i : Int))), (4, .int (iZ (i : Int)))] → W p l e R s m args below meth c H locs 0 0 Q (F0 m 5 ls []) := by
    intro N
    induction N with
    | zero => intro i H locs ls hN; exact absurd hN (Nat.not_lt_zero _)
    | succ N ih =>
      intro i H locs ls hN ii ig hP hD hS hl
      refine lv_iload hx hb d_Ty_take_5 (lv_at hl 3 rfl) ?_
      refine lv_bipush (v := iZ (8)) hx hb d_Ty_take_7 (by decide +kernel) ?_
      refine zz_icmp_ge (tgt := 54) hx hb d_Ty_take_9 (by decide) (by omega) (by omega) (fun c9 => ?_) (fun c9 => ?_)
      · refine lv_aload_n hx hb d_Ty_take_54 rfl (lv_at hl 0 rfl) ?_
        refine va_get (D := D) (ci := 5) (v := .int (iZ (cn : Int))) (C := R_Ty) (T := F_Ty) (N := 4) hx hb hts i_Ty hown hK hP 0 rfl rfl 1 (by decide) (hts _ (big_in mw_150 rfl)) (fun _ h9 => h9) rfl d_Ty_take_55 ?_
        refine lv_iload_n hx hb d_Ty_take_58 rfl (lv_at hl 2 rfl) ?_
        refine zz_iadd hx hb d_Ty_take_59 ?_
        refine lv_sipush (v := iZ (400)) hx hb d_Ty_take_60 (by decide +kernel) ?_
        refine zz_icmp_le (tgt := 68) hx hb d_Ty_take_63 (by decide) (by omega) (by omega) (fun c63 => ?_) (fun c63 => ?_)
        · have hN : TkN w i := ⟨ii, fun j hj => (ig j hj).1, by first | exact Or.inl (by omega) | exact Or.inr (by omega)⟩
          rw [← extC_0 fy cn w] at hP hD
          refine lv_iconst (v := iZ (0)) hx hb d_Ty_take_68 (by decide +kernel) ?_
          refine lv_istore (lv' := [(4, .int (iZ 0)), (0, .ref hy), (1, .long (lZ (w : Int))), (3, .int (iZ (i : Int)))]) hx hb d_Ty_take_69 hl (by decide) rfl (fun ls hl => ?_)
          exact L71 _ i 0 _ _ _ (Nat.lt_succ_self _) hN (tkBad.not hN (fun j hj => (ig j hj).2)) (by omega) (by omega) (by omega) (hP.sub (ws' := [(hy, .inr (5, [.ref ay, .int (iZ (cn : Int)), .int qj, .int ql])), (ay, .inl (cC, 400, .inl (extC fy cn 0 w)))]) [0, 1] rfl) (hD.sub (ws' := [(hy, .inr (5, [.ref ay, .int (iZ (cn : Int)), .int qj, .int ql])), (ay, .inl (cC, 400, .inl (extC fy cn 0 w)))]) [0, 1] (by decide) rfl) hS (lv_sub hl [1, 2, 3, 0] rfl)
        · refine lv_iconst (v := iZ (0)) hx hb d_Ty_take_66 (by decide +kernel) ?_
          have hP9 : va_P D cls0 [(hy, .inr (5, [.ref ay, .int (iZ (cn : Int)), .int qj, .int ql])), (ay, .inl (cC, 400, .inl fy))] H := hP.sub [0, 1] rfl
          have hD9 : va_D A [(hy, .inr (5, [.ref ay, .int (iZ (cn : Int)), .int qj, .int ql])), (ay, .inl (cC, 400, .inl fy))] := hD.sub [0, 1] (by decide) rfl
          rw [hQ, ← hAe]
          refine r_z (v := (iZ 0)) K (0, cn, fy) hS rfl d_Ty_take_67 ?_ (fun t ht hv => ?_)
          · try dsimp only
            exact ⟨rfl, Or.inl ⟨rfl, rfl, rfl, Or.inr ⟨i, ⟨ii, fun j hj => (ig j hj).1, by first | exact Or.inl (by omega) | exact Or.inr (by omega)⟩, by omega⟩⟩⟩
          · exact ⟨by rw [ht]; exact hP9, va_K.moved hv hK, by rw [← hAe]; exact hD9⟩
      · refine lv_lload_n hx hb d_Ty_take_12 rfl (lv_at hl 1 rfl) ?_
        refine lv_iload hx hb d_Ty_take_13 (lv_at hl 3 rfl) ?_
        refine cs (n := 2) (wr := [(hy, .inr (5, [.ref ay, .int (iZ (cn : Int)), .int qj, .int ql])), (ay, .inl (cC, 400, .inl fy))]) (w1 := (fun (u : Nat) => [])) (As := [.long (lZ (w : Int)), .int (iZ (i : Int))]) (rest := []) K hP hD hK hS hA hl.1 (c_Ty_byteOf l D w i H.size (by omega) (by omega)) [] [0, 1] [] rfl rfl rfl (by decide) (by decide) (by decide) (big_in mw_256 rfl) (big_in mw_7 rfl) (big_in mw_254 rfl) (big_in mw_255 rfl) rfl rfl (by decide +kernel) ⟨by rw [hR]; exact Nat.le_of_ble_eq_true rfl, by rw [hR]; exact Nat.le_of_ble_eq_true rfl⟩ rfl (Nat.le_of_ble_eq_true rfl) d_Ty_take_15 ⟨by rw [hR]; exact Nat.le_of_ble_eq_true rfl, by rw [hR]; exact Nat.le_of_ble_eq_true rfl⟩ rfl (fun v u H locs hp2 hP hD hS _ => ?_)
        obtain ⟨ra, rfl⟩ : ∃ z, z = u := ⟨_, rfl⟩
        obtain ⟨rfl, ea, ba⟩ := hp2
        have hP : va_P D cls0 [(hy, .inr (5, [.ref ay, .int (iZ (cn : Int)), .int qj, .int ql])), (ay, .inl (cC, 400, .inl fy))] H := hP
        have hD : va_D A [(hy, .inr (5, [.ref ay, .int (iZ (cn : Int)), .int qj, .int ql])), (ay, .inl (cC, 400, .inl fy))] := hD
        show W p l e R s m args below meth c H locs _ _ Q (F0 m 18 ls [.int (iZ (ra : Int))])
        refine zz_if_eq (tgt := 54) hx hb d_Ty_take_18 (by decide) (by omega) (fun c18 => ?_) (fun c18 => ?_)
        · refine lv_aload_n hx hb d_Ty_take_54 rfl (lv_at hl 0 rfl) ?_
          refine va_get (D := D) (ci := 5) (v := .int (iZ (cn : Int))) (C := R_Ty) (T := F_Ty) (N := 4) hx hb hts i_Ty hown hK hP 0 rfl rfl 1 (by decide) (hts _ (big_in mw_150 rfl)) (fun _ h9 => h9) rfl d_Ty_take_55 ?_
          refine lv_iload_n hx hb d_Ty_take_58 rfl (lv_at hl 2 rfl) ?_
          refine zz_iadd hx hb d_Ty_take_59 ?_
          refine lv_sipush (v := iZ (400)) hx hb d_Ty_take_60 (by decide +kernel) ?_
          refine zz_icmp_le (tgt := 68) hx hb d_Ty_take_63 (by decide) (by omega) (by omega) (fun c63 => ?_) (fun c63 => ?_)
          · have hN : TkN w i := ⟨ii, fun j hj => (ig j hj).1, by first | exact Or.inl (by omega) | exact Or.inr (by omega)⟩
            rw [← extC_0 fy cn w] at hP hD
            refine lv_iconst (v := iZ (0)) hx hb d_Ty_take_68 (by decide +kernel) ?_
            refine lv_istore (lv' := [(4, .int (iZ 0)), (0, .ref hy), (1, .long (lZ (w : Int))), (3, .int (iZ (i : Int)))]) hx hb d_Ty_take_69 hl (by decide) rfl (fun ls hl => ?_)
            exact L71 _ i 0 _ _ _ (Nat.lt_succ_self _) hN (tkBad.not hN (fun j hj => (ig j hj).2)) (by omega) (by omega) (by omega) (hP.sub (ws' := [(hy, .inr (5, [.ref ay, .int (iZ (cn : Int)), .int qj, .int ql])), (ay, .inl (cC, 400, .inl (extC fy cn 0 w)))]) [0, 1] rfl) (hD.sub (ws' := [(hy, .inr (5, [.ref ay, .int (iZ (cn : Int)), .int qj, .int ql])), (ay, .inl (cC, 400, .inl (extC fy cn 0 w)))]) [0, 1] (by decide) rfl) hS (lv_sub hl [1, 2, 3, 0] rfl)
          · refine lv_iconst (v := iZ (0)) hx hb d_Ty_take_66 (by decide +kernel) ?_
            have hP9 : va_P D cls0 [(hy, .inr (5, [.ref ay, .int (iZ (cn : Int)), .int qj, .int ql])), (ay, .inl (cC, 400, .inl fy))] H := hP.sub [0, 1] rfl
            have hD9 : va_D A [(hy, .inr (5, [.ref ay, .int (iZ (cn : Int)), .int qj, .int ql])), (ay, .inl (cC, 400, .inl fy))] := hD.sub [0, 1] (by decide) rfl
            rw [hQ, ← hAe]
            refine r_z (v := (iZ 0)) K (0, cn, fy) hS rfl d_Ty_take_67 ?_ (fun t ht hv => ?_)
            · try dsimp only
              exact ⟨rfl, Or.inl ⟨rfl, rfl, rfl, Or.inr ⟨i, ⟨ii, fun j hj => (ig j hj).1, by first | exact Or.inl (by omega) | exact Or.inr (by omega)⟩, by omega⟩⟩⟩
            · exact ⟨by rw [ht]; exact hP9, va_K.moved hv hK, by rw [← hAe]; exact hD9⟩
        · refine lv_lload_n hx hb d_Ty_take_21 rfl (lv_at hl 1 rfl) ?_
          refine lv_iload hx hb d_Ty_take_22 (lv_at hl 3 rfl) ?_
          refine cs (n := 2) (wr := [(hy, .inr (5, [.ref ay, .int (iZ (cn : Int)), .int qj, .int ql])), (ay, .inl (cC, 400, .inl fy))]) (w1 := (fun (u : Nat) => [])) (As := [.long (lZ (w : Int)), .int (iZ (i : Int))]) (rest := []) K hP hD hK hS hA hl.1 (c_Ty_byteOf l D w i H.size (by omega) (by omega)) [] [0, 1] [] rfl rfl rfl (by decide) (by decide) (by decide) (big_in mw_256 rfl) (big_in mw_7 rfl) (big_in mw_254 rfl) (big_in mw_255 rfl) rfl rfl (by decide +kernel) ⟨by rw [hR]; exact Nat.le_of_ble_eq_true rfl, by rw [hR]; exact Nat.le_of_ble_eq_true rfl⟩ rfl (Nat.le_of_ble_eq_true rfl) d_Ty_take_24 ⟨by rw [hR]; exact Nat.le_of_ble_eq_true rfl, by rw [hR]; exact Nat.le_of_ble_eq_true rfl⟩ rfl (fun v u H locs hp3 hP hD hS _ => ?_)
          obtain ⟨rb, rfl⟩ : ∃ z, z = u := ⟨_, rfl⟩
          obtain ⟨rfl, eb, bb⟩ := hp3
          have hP : va_P D cls0 [(hy, .inr (5, [.ref ay, .int (iZ (cn : Int)), .int qj, .int ql])), (ay, .inl (cC, 400, .inl fy))] H := hP
          have hD : va_D A [(hy, .inr (5, [.ref ay, .int (iZ (cn : Int)), .int qj, .int ql])), (ay, .inl (cC, 400, .inl fy))] := hD
          show W p l e R s m args below meth c H locs _ _ Q (F0 m 27 ls [.int (iZ (rb : Int))])
          refine lv_bipush (v := iZ (33)) hx hb d_Ty_take_27 (by decide +kernel) ?_
          refine zz_icmp_lt (tgt := 43) hx hb d_Ty_take_29 (by decide) (by omega) (by omega) (fun c29 => ?_) (fun c29 => ?_)
          · refine lv_iconst (v := iZ (0)) hx hb d_Ty_take_43 (by decide +kernel) ?_
            have hP9 : va_P D cls0 [(hy, .inr (5, [.ref ay, .int (iZ (cn : Int)), .int qj, .int ql])), (ay, .inl (cC, 400, .inl fy))] H := hP.sub [0, 1] rfl
            have hD9 : va_D A [(hy, .inr (5, [.ref ay, .int (iZ (cn : Int)), .int qj, .int ql])), (ay, .inl (cC, 400, .inl fy))] := hD.sub [0, 1] (by decide) rfl
            rw [hQ, ← hAe]
            refine r_z (v := (iZ 0)) K (0, cn, fy) hS rfl d_Ty_take_44 ?_ (fun t ht hv => ?_)
            · try dsimp only
              exact ⟨rfl, Or.inl ⟨rfl, rfl, rfl, Or.inl ⟨i, by omega, fun j hj => by rcases Nat.lt_or_ge j i with q | q; exact (ig j q).1; rw [show j = i by omega]; omega, by omega⟩⟩⟩
            · exact ⟨by rw [ht]; exact hP9, va_K.moved hv hK, by rw [← hAe]; exact hD9⟩
          · refine lv_lload_n hx hb d_Ty_take_32 rfl (lv_at hl 1 rfl) ?_
            refine lv_iload hx hb d_Ty_take_33 (lv_at hl 3 rfl) ?_
            refine cs (n := 2) (wr := [(hy, .inr (5, [.ref ay, .int (iZ (cn : Int)), .int qj, .int ql])), (ay, .inl (cC, 400, .inl fy))]) (w1 := (fun (u : Nat) => [])) (As := [.long (lZ (w : Int)), .int (iZ (i : Int))]) (rest := []) K hP hD hK hS hA hl.1 (c_Ty_byteOf l D w i H.size (by omega) (by omega)) [] [0, 1] [] rfl rfl rfl (by decide) (by decide) (by decide) (big_in mw_256 rfl) (big_in mw_7 rfl) (big_in mw_254 rfl) (big_in mw_255 rfl) rfl rfl (by decide +kernel) ⟨by rw [hR]; exact Nat.le_of_ble_eq_true rfl, by rw [hR]; exact Nat.le_of_ble_eq_true rfl⟩ rfl (Nat.le_of_ble_eq_true rfl) d_Ty_take_35 ⟨by rw [hR]; exact Nat.le_of_ble_eq_true rfl, by rw [hR]; exact Nat.le_of_ble_eq_true rfl⟩ rfl (fun v u H locs hp4 hP hD hS _ => ?_)
            obtain ⟨rc, rfl⟩ : ∃ z, z = u := ⟨_, rfl⟩
            obtain ⟨rfl, ec, bc⟩ := hp4
            have hP : va_P D cls0 [(hy, .inr (5, [.ref ay, .int (iZ (cn : Int)), .int qj, .int ql])), (ay, .inl (cC, 400, .inl fy))] H := hP
            have hD : va_D A [(hy, .inr (5, [.ref ay, .int (iZ (cn : Int)), .int qj, .int ql])), (ay, .inl (cC, 400, .inl fy))] := hD
            show W p l e R s m args below meth c H locs _ _ Q (F0 m 38 ls [.int (iZ (rc : Int))])
            refine lv_bipush (v := iZ (126)) hx hb d_Ty_take_38 (by decide +kernel) ?_
            refine zz_icmp_le (tgt := 45) hx hb d_Ty_take_40 (by decide) (by omega) (by omega) (fun c40 => ?_) (fun c40 => ?_)
            · refine lv_iinc (v := iZ ((i : Int) + 1)) (lv' := [(3, .int (iZ ((i : Int) + 1))), (0, .ref hy), (1, .long (lZ (w : Int))), (4, .int (iZ (i : Int)))]) hx hb d_Ty_take_45 hl (k := 2) rfl (iZ_add _ _) (by decide) rfl (fun ls hl => ?_)
              refine lv_iinc (v := iZ ((i : Int) + 1)) (lv' := [(4, .int (iZ ((i : Int) + 1))), (3, .int (iZ ((i : Int) + 1))), (0, .ref hy), (1, .long (lZ (w : Int)))]) hx hb d_Ty_take_48 hl (k := 3) rfl (iZ_add _ _) (by decide) rfl (fun ls hl => ?_)
              refine lv_goto (tgt := 5) hx hb d_Ty_take_51 (by decide) ?_
              rw [show ((i : Int) + 1 : Int) = ((i + 1 : Nat) : Int) by omega] at hl
              exact ih (i + 1) _ _ _ (by omega) (by omega) (fun j hj => by rcases Nat.lt_or_ge j i with q | q; exact ig j q; rw [show j = i by omega]; omega) (hP.sub (ws' := [(hy, .inr (5, [.ref ay, .int (iZ (cn : Int)), .int qj, .int ql])), (ay, .inl (cC, 400, .inl fy))]) [0, 1] rfl) (hD.sub (ws' := [(hy, .inr (5, [.ref ay, .int (iZ (cn : Int)), .int qj, .int ql])), (ay, .inl (cC, 400, .inl fy))]) [0, 1] (by decide) rfl) hS (lv_sub hl [2, 3, 1, 0] rfl)
            · refine lv_iconst (v := iZ (0)) hx hb d_Ty_take_43 (by decide +kernel) ?_
              have hP9 : va_P D cls0 [(hy, .inr (5, [.ref ay, .int (iZ (cn : Int)), .int qj, .int ql])), (ay, .inl (cC, 400, .inl fy))] H := hP.sub [0, 1] rfl
              have hD9 : va_D A [(hy, .inr (5, [.ref ay, .int (iZ (cn : Int)), .int qj, .int ql])), (ay, .inl (cC, 400, .inl fy))] := hD.sub [0, 1] (by decide) rfl
              rw [hQ, ← hAe]
              refine r_z (v := (iZ 0)) K (0, cn, fy) hS rfl d_Ty_take_44 ?_ (fun t ht hv => ?_)
              · try dsimp only
                exact ⟨rfl, Or.inl ⟨rfl, rfl, rfl, Or.inl ⟨i, by omega, fun j hj => by rcases Nat.lt_or_ge j i with q | q; exact (ig j q).1; rw [show j = i by omega]; omega, by omega⟩⟩⟩
              · exact ⟨by rw [ht]; exact hP9, va_K.moved hv hK, by rw [← hAe]; exact hD9⟩
  exact L5 _ 0 _ _ _ (Nat.lt_succ_self _) (by omega) (fun j h => absurd h (Nat.not_lt_zero _)) (hP.sub (ws' := [(hy, .inr (5, [.ref ay, .int (iZ (cn : Int)), .int qj, .int ql])), (ay, .inl (cC, 400, .inl fy))]) [0, 1] rfl) (hD.sub (ws' := [(hy, .inr (5, [.ref ay, .int (iZ (cn : Int)), .int qj, .int ql])), (ay, .inl (cC, 400, .inl fy))]) [0, 1] (by decide) rfl) hS (lv_sub hl [2, 3, 1, 0] rfl)
