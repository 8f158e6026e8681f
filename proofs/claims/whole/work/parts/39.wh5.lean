/-! WHOLE: the guess of a limb -/
theorem kd_of' {f f2 : Nat → Int32} {pl k2 : Nat} (hk : 2 ≤ k2) (hd : 2147483648 ≤ uw (f2 (k2 - 1))) (hU : vV (sh f pl) (k2 + 1) < 4294967296 * vV f2 k2) : kd_W (vV f2 k2) (vV (sh f pl) (k2 + 1)) (pB (k2 - 2)) (uw (f2 (k2 - 1))) (uw (f2 (k2 - 2))) (vV f2 (k2 - 2)) (uw (f (pl + k2))) (uw (f (pl + k2 - 1))) (uw (f (pl + k2 - 2))) (vV (sh f pl) (k2 - 2)) := by
  obtain ⟨m, rfl⟩ : ∃ m, k2 = m + 2 := ⟨k2 - 2, by omega⟩
  have e1 : m + 2 - 1 = m + 1 := by omega
  have e2 : m + 2 - 2 = m := by omega
  have e3 : pl + (m + 2) - 1 = pl + (m + 1) := by omega
  have e4 : pl + (m + 2) - 2 = pl + m := by omega
  rw [e1] at hd
  rw [e1, e2, e3, e4]
  exact kd_of hd hU
set_option maxHeartbeats 4000000 in
set_option maxRecDepth 100000 in
/-- guessLimb(divisor, place) -/
theorem c_Wh_guessLimb (l : Launch) (D : va_G) (h : Nat) (a : Nat) (q : Int32) (n : Nat) (f : Nat → Int32) (h2 : Nat) (a2 : Nat) (k2 : Nat) (n2 : Nat) (f2 : Nat → Int32) (cI : ClassId) (pl : Nat) (sz : Nat) (h2k : 2 ≤ k2) (hk : pl + k2 < n) (hk2 : k2 ≤ n2) (hn : n < 1000000) (hn2 : n2 < 1000000) (hd : 2147483648 ≤ uw (f2 (k2 - 1))) (hU : vV (sh f pl) (k2 + 1) < 4294967296 * vV f2 k2) : Met l y_Wh_guessLimb (wsB y_Wh_guessLimb b_Wh_guessLimb 19 (some .long)) ({ frames := 2, cells := 0, slots := 0, locals := 46 }) (va_Pc [.ref h, .ref h2, .int (iZ (pl : Int))] (wPre D [(cI, .int)] [(h, .inr (0, [.ref a, .int q])), (a, .inl (cI, n, .inl f)), (h2, .inr (0, [.ref a2, .int (iZ (k2 : Int))])), (a2, .inl (cI, n2, .inl f2))] sz)) (va_QV (fun (v9 : Option Value) (u9 : Nat) => v9 = some (.long (lZ (u9 : Int))) ∧ (vV (sh f pl) (k2 + 1) / vV f2 k2 ≤ u9) ∧ (u9 ≤ vV (sh f pl) (k2 + 1) / vV f2 k2 + 1) ∧ (u9 ≤ 4294967295)) (fun u9 => wPost D [(cI, .int)] [(h, .inr (0, [.ref a, .int q])), (a, .inl (cI, n, .inl f)), (h2, .inr (0, [.ref a2, .int (iZ (k2 : Int))])), (a2, .inl (cI, n2, .inl f2))] [(h, .inr (0, [.ref a, .int q])), (a, .inl (cI, n, .inl f)), (h2, .inr (0, [.ref a2, .int (iZ (k2 : Int))])), (a2, .inl (cI, n2, .inl f2))] sz) (va_A [(h, .inr (0, [.ref a, .int q])), (a, .inl (cI, n, .inl f)), (h2, .inr (0, [.ref a2, .int (iZ (k2 : Int))])), (a2, .inl (cI, n2, .inl f2))] sz)) 0 0 (va_A [(h, .inr (0, [.ref a, .int q])), (a, .inl (cI, n, .inl f)), (h2, .inr (0, [.ref a2, .int (iZ (k2 : Int))])), (a2, .inl (cI, n2, .inl f2))] sz) := by
  refine met_enter (by decide +kernel) (Nat.le_of_ble_eq_true rfl) ?_
  intro p e s m args below meth c ls A R Q H locs K hin hAe hA hR hQ hP hK hD hS hl
  obtain ⟨hx, hb, hml, hrt, hlk, hts, hown, hno⟩ := id K
  have hl : lv_has ls 19 [(0, .ref h), (1, .ref h2), (2, .int (iZ (pl : Int)))] := hl
  have kd := kd_of' h2k hd hU
  have kt := kd.top
  obtain ⟨uq, huq⟩ : ∃ x, x = vV (sh f pl) (k2 + 1) / vV f2 k2 := ⟨_, rfl⟩
  have kS : uq ≤ 4294967295 := by rw [huq]; exact kd.small
  have kL : uq * uw (f2 (k2 - 1)) ≤ uw (f (pl + k2)) * 4294967296 + uw (f (pl + k2 - 1)) := by rw [huq]; exact kd.low
  have kT : ∀ g : Nat, g * uw (f2 (k2 - 1)) ≤ uw (f (pl + k2)) * 4294967296 + uw (f (pl + k2 - 1)) → g ≤ 4294967295 → g ≤ uq + 2 := fun g a b => by rw [huq]; exact kd.two a b
  have kM : ∀ g : Nat, g * uw (f2 (k2 - 1)) ≤ uw (f (pl + k2)) * 4294967296 + uw (f (pl + k2 - 1)) → g ≤ 4294967295 → g * uw (f2 (k2 - 2)) ≤ (uw (f (pl + k2)) * 4294967296 + uw (f (pl + k2 - 1)) - g * uw (f2 (k2 - 1))) * 4294967296 + uw (f (pl + k2 - 2)) → g ≤ uq + 1 := fun g a b c => by rw [huq]; exact kd.more a b c
  have kX : ∀ g : Nat, g * uw (f2 (k2 - 1)) ≤ uw (f (pl + k2)) * 4294967296 + uw (f (pl + k2 - 1)) → (uw (f (pl + k2)) * 4294967296 + uw (f (pl + k2 - 1)) - g * uw (f2 (k2 - 1))) * 4294967296 + uw (f (pl + k2 - 2)) < g * uw (f2 (k2 - 2)) → uq < g := fun g a b => by rw [huq]; exact kd.less a b
  have bd1 := uw_lt (f2 (k2 - 1))
  have bd2 := uw_lt (f2 (k2 - 2))
  have bu0 := uw_lt (f (pl + k2))
  have bu1 := uw_lt (f (pl + k2 - 1))
  have bu2 := uw_lt (f (pl + k2 - 2))
  refine lv_iload_n hx hb d_Wh_guessLimb_0 rfl (lv_at hl 2 rfl) ?_
  refine lv_aload_n hx hb d_Wh_guessLimb_1 rfl (lv_at hl 1 rfl) ?_
  refine va_get (D := D) (ci := 0) (v := .int (iZ (k2 : Int))) (C := R_Wh) (T := F_Wh) (N := 2) hx hb hts i_Wh hown hK hP 2 rfl rfl 1 (by decide) (hts _ (big_in mw_94 rfl)) (fun _ h9 => h9) rfl d_Wh_guessLimb_2 ?_
  refine zz_iadd hx hb d_Wh_guessLimb_5 ?_
  refine lv_istore_n (lv' := [(3, .int (iZ ((pl : Int) + (k2 : Int)))), (0, .ref h), (1, .ref h2), (2, .int (iZ (pl : Int)))]) hx hb d_Wh_guessLimb_6 rfl hl (by decide) rfl (fun ls hl => ?_)
  refine lv_aload_n hx hb d_Wh_guessLimb_7 rfl (lv_at hl 2 rfl) ?_
  refine va_get (D := D) (ci := 0) (v := .int (iZ (k2 : Int))) (C := R_Wh) (T := F_Wh) (N := 2) hx hb hts i_Wh hown hK hP 2 rfl rfl 1 (by decide) (hts _ (big_in mw_94 rfl)) (fun _ h9 => h9) rfl d_Wh_guessLimb_8 ?_
  refine lv_iconst (v := iZ (2)) hx hb d_Wh_guessLimb_11 (by decide +kernel) ?_
  refine zz_icmp_lt (tgt := 24) hx hb d_Wh_guessLimb_12 (by decide) (by omega) (by omega) (fun c12 => False.elim (by omega)) (fun c12 => ?_)
  refine lv_iload_n hx hb d_Wh_guessLimb_15 rfl (lv_at hl 0 rfl) ?_
  refine lv_aload_n hx hb d_Wh_guessLimb_16 rfl (lv_at hl 1 rfl) ?_
  refine va_get (D := D) (ci := 0) (v := .ref a) (C := R_Wh) (T := F_Wh) (N := 2) hx hb hts i_Wh hown hK hP 0 rfl rfl 0 (by decide) (hts _ (big_in mw_90 rfl)) (fun _ h9 => h9) rfl d_Wh_guessLimb_17 ?_
  refine va_alen hx hb hK hP 1 0 rfl rfl (v := iZ (n : Int)) (nI_iZ _) d_Wh_guessLimb_20 ?_
  refine zz_icmp_lt (tgt := 26) hx hb d_Wh_guessLimb_21 (by decide) (by omega) (by omega) (fun c21 => ?_) (fun c21 => False.elim (by omega))
  refine lv_aload_n hx hb d_Wh_guessLimb_26 rfl (lv_at hl 2 rfl) ?_
  refine va_get (D := D) (ci := 0) (v := .ref a2) (C := R_Wh) (T := F_Wh) (N := 2) hx hb hts i_Wh hown hK hP 2 rfl rfl 0 (by decide) (hts _ (big_in mw_90 rfl)) (fun _ h9 => h9) rfl d_Wh_guessLimb_27 ?_
  refine lv_aload_n hx hb d_Wh_guessLimb_30 rfl (lv_at hl 2 rfl) ?_
  refine va_get (D := D) (ci := 0) (v := .int (iZ (k2 : Int))) (C := R_Wh) (T := F_Wh) (N := 2) hx hb hts i_Wh hown hK hP 2 rfl rfl 1 (by decide) (hts _ (big_in mw_94 rfl)) (fun _ h9 => h9) rfl d_Wh_guessLimb_31 ?_
  refine lv_iconst (v := iZ (1)) hx hb d_Wh_guessLimb_34 (by decide +kernel) ?_
  refine zz_isub hx hb d_Wh_guessLimb_35 ?_
  refine zz_iald hx hb hK hP 3 0 rfl rfl (k2 - 1) (by omega) (by omega) (by omega) d_Wh_guessLimb_36 ?_
  refine lv_i2l (v := (f2 (k2 - 1)).toInt64) hx hb d_Wh_guessLimb_37 rfl ?_
  refine lv_ldc2 (v := 4294967295) hx hb hown (hts _ (big_in mw_398 rfl)) d_Wh_guessLimb_38 ?_
  refine zz_mask hx hb d_Wh_guessLimb_41 ?_
  have bw41 := uwZ (f2 (k2 - 1))
  refine lv_lstore (lv' := [(4, .long (lZ (uw (f2 (k2 - 1)) : Int))), (3, .int (iZ ((pl : Int) + (k2 : Int)))), (0, .ref h), (1, .ref h2), (2, .int (iZ (pl : Int)))]) hx hb d_Wh_guessLimb_42 hl (by decide) rfl (fun ls hl => ?_)
  refine lv_aload_n hx hb d_Wh_guessLimb_44 rfl (lv_at hl 3 rfl) ?_
  refine va_get (D := D) (ci := 0) (v := .ref a2) (C := R_Wh) (T := F_Wh) (N := 2) hx hb hts i_Wh hown hK hP 2 rfl rfl 0 (by decide) (hts _ (big_in mw_90 rfl)) (fun _ h9 => h9) rfl d_Wh_guessLimb_45 ?_
  refine lv_aload_n hx hb d_Wh_guessLimb_48 rfl (lv_at hl 3 rfl) ?_
  refine va_get (D := D) (ci := 0) (v := .int (iZ (k2 : Int))) (C := R_Wh) (T := F_Wh) (N := 2) hx hb hts i_Wh hown hK hP 2 rfl rfl 1 (by decide) (hts _ (big_in mw_94 rfl)) (fun _ h9 => h9) rfl d_Wh_guessLimb_49 ?_
  refine lv_iconst (v := iZ (2)) hx hb d_Wh_guessLimb_52 (by decide +kernel) ?_
  refine zz_isub hx hb d_Wh_guessLimb_53 ?_
  refine zz_iald hx hb hK hP 3 0 rfl rfl (k2 - 2) (by omega) (by omega) (by omega) d_Wh_guessLimb_54 ?_
  refine lv_i2l (v := (f2 (k2 - 2)).toInt64) hx hb d_Wh_guessLimb_55 rfl ?_
  refine lv_ldc2 (v := 4294967295) hx hb hown (hts _ (big_in mw_398 rfl)) d_Wh_guessLimb_56 ?_
  refine zz_mask hx hb d_Wh_guessLimb_59 ?_
  have bw59 := uwZ (f2 (k2 - 2))
  refine lv_lstore (lv' := [(6, .long (lZ (uw (f2 (k2 - 2)) : Int))), (4, .long (lZ (uw (f2 (k2 - 1)) : Int))), (3, .int (iZ ((pl : Int) + (k2 : Int)))), (0, .ref h), (1, .ref h2), (2, .int (iZ (pl : Int)))]) hx hb d_Wh_guessLimb_60 hl (by decide) rfl (fun ls hl => ?_)
  refine lv_aload_n hx hb d_Wh_guessLimb_62 rfl (lv_at hl 3 rfl) ?_
  refine va_get (D := D) (ci := 0) (v := .ref a) (C := R_Wh) (T := F_Wh) (N := 2) hx hb hts i_Wh hown hK hP 0 rfl rfl 0 (by decide) (hts _ (big_in mw_90 rfl)) (fun _ h9 => h9) rfl d_Wh_guessLimb_63 ?_
  refine lv_iload_n hx hb d_Wh_guessLimb_66 rfl (lv_at hl 2 rfl) ?_
  refine zz_iald hx hb hK hP 1 0 rfl rfl (pl + k2) (by omega) (by omega) (by omega) d_Wh_guessLimb_67 ?_
  refine lv_i2l (v := (f (pl + k2)).toInt64) hx hb d_Wh_guessLimb_68 rfl ?_
  refine lv_ldc2 (v := 4294967295) hx hb hown (hts _ (big_in mw_398 rfl)) d_Wh_guessLimb_69 ?_
  refine zz_mask hx hb d_Wh_guessLimb_72 ?_
  have bw72 := uwZ (f (pl + k2))
  refine lv_lstore (lv' := [(8, .long (lZ (uw (f (pl + k2)) : Int))), (6, .long (lZ (uw (f2 (k2 - 2)) : Int))), (4, .long (lZ (uw (f2 (k2 - 1)) : Int))), (3, .int (iZ ((pl : Int) + (k2 : Int)))), (0, .ref h), (1, .ref h2), (2, .int (iZ (pl : Int)))]) hx hb d_Wh_guessLimb_73 hl (by decide) rfl (fun ls hl => ?_)
  refine lv_lload hx hb d_Wh_guessLimb_75 (lv_at hl 0 rfl) ?_
  refine lv_bipush (v := iZ (32)) hx hb d_Wh_guessLimb_77 (by decide +kernel) ?_
  refine zz_lshl32 hx hb d_Wh_guessLimb_79 ?_
  refine lv_aload_n hx hb d_Wh_guessLimb_80 rfl (lv_at hl 4 rfl) ?_
  refine va_get (D := D) (ci := 0) (v := .ref a) (C := R_Wh) (T := F_Wh) (N := 2) hx hb hts i_Wh hown hK hP 0 rfl rfl 0 (by decide) (hts _ (big_in mw_90 rfl)) (fun _ h9 => h9) rfl d_Wh_guessLimb_81 ?_
  refine lv_iload_n hx hb d_Wh_guessLimb_84 rfl (lv_at hl 3 rfl) ?_
  refine lv_iconst (v := iZ (1)) hx hb d_Wh_guessLimb_85 (by decide +kernel) ?_
  refine zz_isub hx hb d_Wh_guessLimb_86 ?_
  refine zz_iald hx hb hK hP 1 0 rfl rfl (pl + k2 - 1) (by omega) (by omega) (by omega) d_Wh_guessLimb_87 ?_
  refine lv_i2l (v := (f (pl + k2 - 1)).toInt64) hx hb d_Wh_guessLimb_88 rfl ?_
  refine lv_ldc2 (v := 4294967295) hx hb hown (hts _ (big_in mw_398 rfl)) d_Wh_guessLimb_89 ?_
  refine zz_mask hx hb d_Wh_guessLimb_92 ?_
  have bw92 := uwZ (f (pl + k2 - 1))
  refine zz_lor hx hb d_Wh_guessLimb_93 (by omega) (by omega) ?_
  obtain ⟨T1, hT1, bT1⟩ : ∃ x : Nat, x = uw (f (pl + k2)) * 4294967296 + uw (f (pl + k2 - 1)) ∧ x < 18446744073709551616 := ⟨_, rfl, by omega⟩
  rw [show ((uw (f (pl + k2)) : Int) * 4294967296 + (uw (f (pl + k2 - 1)) : Int) : Int) = (T1 : Int) by rw [hT1]; simp] 
  refine lv_lstore (lv' := [(10, .long (lZ (T1 : Int))), (8, .long (lZ (uw (f (pl + k2)) : Int))), (6, .long (lZ (uw (f2 (k2 - 2)) : Int))), (4, .long (lZ (uw (f2 (k2 - 1)) : Int))), (3, .int (iZ ((pl : Int) + (k2 : Int)))), (0, .ref h), (1, .ref h2), (2, .int (iZ (pl : Int)))]) hx hb d_Wh_guessLimb_94 hl (by decide) rfl (fun ls hl => ?_)
  refine lv_aload_n hx hb d_Wh_guessLimb_96 rfl (lv_at hl 5 rfl) ?_
  refine va_get (D := D) (ci := 0) (v := .ref a) (C := R_Wh) (T := F_Wh) (N := 2) hx hb hts i_Wh hown hK hP 0 rfl rfl 0 (by decide) (hts _ (big_in mw_90 rfl)) (fun _ h9 => h9) rfl d_Wh_guessLimb_97 ?_
  refine lv_iload_n hx hb d_Wh_guessLimb_100 rfl (lv_at hl 4 rfl) ?_
  refine lv_iconst (v := iZ (2)) hx hb d_Wh_guessLimb_101 (by decide +kernel) ?_
  refine zz_isub hx hb d_Wh_guessLimb_102 ?_
  refine zz_iald hx hb hK hP 1 0 rfl rfl (pl + k2 - 2) (by omega) (by omega) (by omega) d_Wh_guessLimb_103 ?_
  refine lv_i2l (v := (f (pl + k2 - 2)).toInt64) hx hb d_Wh_guessLimb_104 rfl ?_
  refine lv_ldc2 (v := 4294967295) hx hb hown (hts _ (big_in mw_398 rfl)) d_Wh_guessLimb_105 ?_
  refine zz_mask hx hb d_Wh_guessLimb_108 ?_
  have bw108 := uwZ (f (pl + k2 - 2))
  refine lv_lstore (lv' := [(12, .long (lZ (uw (f (pl + k2 - 2)) : Int))), (10, .long (lZ (T1 : Int))), (8, .long (lZ (uw (f (pl + k2)) : Int))), (6, .long (lZ (uw (f2 (k2 - 2)) : Int))), (4, .long (lZ (uw (f2 (k2 - 1)) : Int))), (3, .int (iZ ((pl : Int) + (k2 : Int)))), (0, .ref h), (1, .ref h2), (2, .int (iZ (pl : Int)))]) hx hb d_Wh_guessLimb_109 hl (by decide) rfl (fun ls hl => ?_)
  have L147 : ∀ (N : Nat) (i : Nat) (gs : Nat) (rst : Nat) (H : Heap) (locs : List Loc) (ls : Array Slot), 2 - i < N → (i ≤ 2) → (gs ≤ 4294967295) → (uq ≤ gs) → (gs * uw (f2 (k2 - 1)) ≤ uw (f (pl + k2)) * 4294967296 + uw (f (pl + k2 - 1))) → (rst = uw (f (pl + k2)) * 4294967296 + uw (f (pl + k2 - 1)) - gs * uw (f2 (k2 - 1))) → (gs + i ≤ uq + 2) → (rst < 17179869184) → va_P D cls0 [(h, .inr (0, [.ref a, .int q])), (a, .inl (cI, n, .inl f)), (h2, .inr (0, [.ref a2, .int (iZ (k2 : Int))])), (a2, .inl (cI, n2, .inl f2))] H → va_D A [(h, .inr (0, [.ref a, .int q])), (a, .inl (cI, n, .inl f)), (h2, .inr (0, [.ref a2, .int (iZ (k2 : Int))])), (a2, .inl (cI, n2, .inl f2))] → va_S A s.heap H locs → lv_has ls 19 [(4, .long (lZ (uw (f2 (k2 - 1)) : Int))), (6, .long (lZ (uw (f2 (k2 - 2)) : Int))), (12, .long (lZ (uw (f (pl + k2 - 2)) : Int))), (14, .long (lZ (gs : Int))), (16, .long (lZ (rst : Int))), (18, .int (iZ (i : Int)))] → W p l e R s m args below meth c H locs 0 0 Q (F0 m 147 ls []) := by
    intro N
    induction N with
    | zero => intro i gs rst H locs ls hN; exact absurd hN (Nat.not_lt_zero _)
    | succ N ih =>
      intro i gs rst H locs ls hN ii ig iq hg ir i2 ib hP hD hS hl
      refine lv_iload hx hb d_Wh_guessLimb_147 (lv_at hl 5 rfl) ?_
      refine lv_iconst (v := iZ (2)) hx hb d_Wh_guessLimb_149 (by decide +kernel) ?_
      refine zz_icmp_ge (tgt := 200) hx hb d_Wh_guessLimb_150 (by decide) (by omega) (by omega) (fun c150 => ?_) (fun c150 => ?_)
      · refine lv_lload hx hb d_Wh_guessLimb_200 (lv_at hl 3 rfl) ?_
        have hP9 : va_P D cls0 [(h, .inr (0, [.ref a, .int q])), (a, .inl (cI, n, .inl f)), (h2, .inr (0, [.ref a2, .int (iZ (k2 : Int))])), (a2, .inl (cI, n2, .inl f2))] H := hP.sub [0, 1, 2, 3] rfl
        have hD9 : va_D A [(h, .inr (0, [.ref a, .int q])), (a, .inl (cI, n, .inl f)), (h2, .inr (0, [.ref a2, .int (iZ (k2 : Int))])), (a2, .inl (cI, n2, .inl f2))] := hD.sub [0, 1, 2, 3] (by decide) rfl
        rw [hQ, ← hAe]
        refine r_l (v := (lZ (gs : Int))) K gs hS d_Wh_guessLimb_202 ?_ (fun t ht hv => ?_)
        · rw [← huq]
          refine ⟨rfl, iq, ?_, ig⟩
          first
            | omega
            | exact kM _ hg ig (kd_big ig bd2 (by omega))
            | exact kM _ hg ig (by rw [← ir]; omega)
        · exact ⟨by rw [ht]; exact hP9, va_K.moved hv hK, by rw [← hAe]; exact hD9⟩
      · refine lv_lload hx hb d_Wh_guessLimb_153 (lv_at hl 4 rfl) ?_
        refine lv_ldc2 (v := lZ (4294967295)) hx hb hown (hts _ (big_in mw_398 rfl)) d_Wh_guessLimb_155 ?_
        refine zz_lcmp_gt (tgt := 200) hx hb d_Wh_guessLimb_158 d_Wh_guessLimb_159 (by decide) (by omega) (by omega) (fun c158 => ?_) (fun c158 => ?_)
        · refine lv_lload hx hb d_Wh_guessLimb_200 (lv_at hl 3 rfl) ?_
          have hP9 : va_P D cls0 [(h, .inr (0, [.ref a, .int q])), (a, .inl (cI, n, .inl f)), (h2, .inr (0, [.ref a2, .int (iZ (k2 : Int))])), (a2, .inl (cI, n2, .inl f2))] H := hP.sub [0, 1, 2, 3] rfl
          have hD9 : va_D A [(h, .inr (0, [.ref a, .int q])), (a, .inl (cI, n, .inl f)), (h2, .inr (0, [.ref a2, .int (iZ (k2 : Int))])), (a2, .inl (cI, n2, .inl f2))] := hD.sub [0, 1, 2, 3] (by decide) rfl
          rw [hQ, ← hAe]
          refine r_l (v := (lZ (gs : Int))) K gs hS d_Wh_guessLimb_202 ?_ (fun t ht hv => ?_)
          · rw [← huq]
            refine ⟨rfl, iq, ?_, ig⟩
            first
              | omega
              | exact kM _ hg ig (kd_big ig bd2 (by omega))
              | exact kM _ hg ig (by rw [← ir]; omega)
          · exact ⟨by rw [ht]; exact hP9, va_K.moved hv hK, by rw [← hAe]; exact hD9⟩
        · refine lv_lload hx hb d_Wh_guessLimb_162 (lv_at hl 3 rfl) ?_
          refine lv_lload hx hb d_Wh_guessLimb_164 (lv_at hl 1 rfl) ?_
          refine zz_lmul hx hb d_Wh_guessLimb_166 ?_
          obtain ⟨M1, hM1, bM1⟩ : ∃ x : Nat, x = gs * uw (f2 (k2 - 2)) ∧ x < 18446744073709551616 := ⟨_, rfl, by have := mulB (show gs < 4294967296 by omega) bd2; omega⟩
          rw [show ((gs : Int) * (uw (f2 (k2 - 2)) : Int) : Int) = (M1 : Int) by rw [hM1]; simp] 
          refine lv_lload hx hb d_Wh_guessLimb_167 (lv_at hl 4 rfl) ?_
          refine lv_bipush (v := iZ (32)) hx hb d_Wh_guessLimb_169 (by decide +kernel) ?_
          refine zz_lshl32 hx hb d_Wh_guessLimb_171 ?_
          refine lv_lload hx hb d_Wh_guessLimb_172 (lv_at hl 2 rfl) ?_
          refine zz_lor hx hb d_Wh_guessLimb_174 (by omega) (by omega) ?_
          refine cs (n := 2) (wr := [(h, .inr (0, [.ref a, .int q])), (a, .inl (cI, n, .inl f)), (h2, .inr (0, [.ref a2, .int (iZ (k2 : Int))])), (a2, .inl (cI, n2, .inl f2))]) (w1 := (fun (u : Int) => [])) (As := [.long (lZ (M1 : Int)), .long (lZ ((rst : Int) * 4294967296 + (uw (f (pl + k2 - 2)) : Int)))]) (rest := []) K hP hD hK hS hA hl.1 (c_jLong_compareUnsigned l D (M1 : Int) ((rst : Int) * 4294967296 + (uw (f (pl + k2 - 2)) : Int)) H.size (by omega) (by omega)) [] [0, 1, 2, 3] [] rfl rfl rfl (by decide) (by decide) (by decide) (big_in mw_760 rfl) (big_in mw_29 rfl) (big_in mw_758 rfl) (big_in mw_759 rfl) rfl rfl (by decide +kernel) ⟨by rw [hR]; exact Nat.le_of_ble_eq_true rfl, by rw [hR]; exact Nat.le_of_ble_eq_true rfl⟩ rfl (Nat.le_of_ble_eq_true rfl) d_Wh_guessLimb_175 ⟨by rw [hR]; exact Nat.le_of_ble_eq_true rfl, by rw [hR]; exact Nat.le_of_ble_eq_true rfl⟩ rfl (fun v u H locs hp1 hP hD hS _ => ?_)
          obtain ⟨rc, rfl⟩ : ∃ z, z = u := ⟨_, rfl⟩
          obtain ⟨rfl, gq⟩ := hp1
          have hP : va_P D cls0 [(h, .inr (0, [.ref a, .int q])), (a, .inl (cI, n, .inl f)), (h2, .inr (0, [.ref a2, .int (iZ (k2 : Int))])), (a2, .inl (cI, n2, .inl f2))] H := hP
          have hD : va_D A [(h, .inr (0, [.ref a, .int q])), (a, .inl (cI, n, .inl f)), (h2, .inr (0, [.ref a2, .int (iZ (k2 : Int))])), (a2, .inl (cI, n2, .inl f2))] := hD
          show W p l e R s m args below meth c H locs _ _ Q (F0 m 178 ls [.int (iZ rc)])
          obtain ⟨s1, s2⟩ : (0 < rc ↔ (rst : Int) * 4294967296 + (uw (f (pl + k2 - 2)) : Int) < (M1 : Int)) ∧ (-1 ≤ rc ∧ rc ≤ 1) := by rw [gq]; exact ⟨cmpZ_gt, cmpZ_r _ _⟩
          clear gq
          refine zz_if_le (tgt := 200) hx hb d_Wh_guessLimb_178 (by decide) (by omega) (fun c178 => ?_) (fun c178 => ?_)
          · refine lv_lload hx hb d_Wh_guessLimb_200 (lv_at hl 3 rfl) ?_
            have hP9 : va_P D cls0 [(h, .inr (0, [.ref a, .int q])), (a, .inl (cI, n, .inl f)), (h2, .inr (0, [.ref a2, .int (iZ (k2 : Int))])), (a2, .inl (cI, n2, .inl f2))] H := hP.sub [0, 1, 2, 3] rfl
            have hD9 : va_D A [(h, .inr (0, [.ref a, .int q])), (a, .inl (cI, n, .inl f)), (h2, .inr (0, [.ref a2, .int (iZ (k2 : Int))])), (a2, .inl (cI, n2, .inl f2))] := hD.sub [0, 1, 2, 3] (by decide) rfl
            rw [hQ, ← hAe]
            refine r_l (v := (lZ (gs : Int))) K gs hS d_Wh_guessLimb_202 ?_ (fun t ht hv => ?_)
            · rw [← huq]
              refine ⟨rfl, iq, ?_, ig⟩
              first
                | omega
                | exact kM _ hg ig (kd_big ig bd2 (by omega))
                | exact kM _ hg ig (by rw [← ir]; omega)
            · exact ⟨by rw [ht]; exact hP9, va_K.moved hv hK, by rw [← hAe]; exact hD9⟩
          · have t1 := s1.mp c178
            have ls := kX _ hg (by rw [← ir]; omega)
            have e9 : (gs - 1) * uw (f2 (k2 - 1)) + uw (f2 (k2 - 1)) = gs * uw (f2 (k2 - 1)) := by rw [Nat.sub_mul, Nat.one_mul]; have : 1 * uw (f2 (k2 - 1)) ≤ gs * uw (f2 (k2 - 1)) := Nat.mul_le_mul_right _ (by omega); omega
            refine lv_lload hx hb d_Wh_guessLimb_181 (lv_at hl 3 rfl) ?_
            refine lv_lconst (v := lZ (1)) hx hb d_Wh_guessLimb_183 (by decide +kernel) ?_
            refine zz_lsub hx hb d_Wh_guessLimb_184 ?_
            refine lv_lstore (lv' := [(14, .long (lZ ((gs : Int) - 1))), (4, .long (lZ (uw (f2 (k2 - 1)) : Int))), (6, .long (lZ (uw (f2 (k2 - 2)) : Int))), (12, .long (lZ (uw (f (pl + k2 - 2)) : Int))), (16, .long (lZ (rst : Int))), (18, .int (iZ (i : Int)))]) hx hb d_Wh_guessLimb_185 hl (by decide) rfl (fun ls hl => ?_)
            refine lv_lload hx hb d_Wh_guessLimb_187 (lv_at hl 4 rfl) ?_
            refine lv_lload hx hb d_Wh_guessLimb_189 (lv_at hl 1 rfl) ?_
            refine zz_ladd hx hb d_Wh_guessLimb_191 ?_
            refine lv_lstore (lv' := [(16, .long (lZ ((rst : Int) + (uw (f2 (k2 - 1)) : Int)))), (14, .long (lZ ((gs : Int) - 1))), (4, .long (lZ (uw (f2 (k2 - 1)) : Int))), (6, .long (lZ (uw (f2 (k2 - 2)) : Int))), (12, .long (lZ (uw (f (pl + k2 - 2)) : Int))), (18, .int (iZ (i : Int)))]) hx hb d_Wh_guessLimb_192 hl (by decide) rfl (fun ls hl => ?_)
            refine lv_iinc (v := iZ ((i : Int) + 1)) (lv' := [(18, .int (iZ ((i : Int) + 1))), (16, .long (lZ ((rst : Int) + (uw (f2 (k2 - 1)) : Int)))), (14, .long (lZ ((gs : Int) - 1))), (4, .long (lZ (uw (f2 (k2 - 1)) : Int))), (6, .long (lZ (uw (f2 (k2 - 2)) : Int))), (12, .long (lZ (uw (f (pl + k2 - 2)) : Int)))]) hx hb d_Wh_guessLimb_194 hl (k := 5) rfl (iZ_add _ _) (by decide) rfl (fun ls hl => ?_)
            refine lv_goto (tgt := 147) hx hb d_Wh_guessLimb_197 (by decide) ?_
            rw [show ((gs : Int) - 1 : Int) = ((gs - 1 : Nat) : Int) by omega] at hl
            rw [show ((rst : Int) + (uw (f2 (k2 - 1)) : Int) : Int) = ((rst + uw (f2 (k2 - 1)) : Nat) : Int) by omega] at hl
            rw [show ((i : Int) + 1 : Int) = ((i + 1 : Nat) : Int) by omega] at hl
            exact ih (i + 1) (gs - 1) (rst + uw (f2 (k2 - 1))) _ _ _ (by omega) (by omega) (by omega) (by omega) (by omega) (by omega) (by omega) (by omega) (hP.sub (ws' := [(h, .inr (0, [.ref a, .int q])), (a, .inl (cI, n, .inl f)), (h2, .inr (0, [.ref a2, .int (iZ (k2 : Int))])), (a2, .inl (cI, n2, .inl f2))]) [0, 1, 2, 3] rfl) (hD.sub (ws' := [(h, .inr (0, [.ref a, .int q])), (a, .inl (cI, n, .inl f)), (h2, .inr (0, [.ref a2, .int (iZ (k2 : Int))])), (a2, .inl (cI, n2, .inl f2))]) [0, 1, 2, 3] (by decide) rfl) hS (lv_sub hl [3, 4, 5, 2, 1, 0] rfl)
  refine lv_lload hx hb d_Wh_guessLimb_111 (lv_at hl 2 rfl) ?_
  refine lv_lload hx hb d_Wh_guessLimb_113 (lv_at hl 4 rfl) ?_
  refine zz_lcmp_lt (tgt := 125) hx hb d_Wh_guessLimb_115 d_Wh_guessLimb_116 (by decide) (by omega) (by omega) (fun c115 => ?_) (fun c115 => ?_)
  · refine lv_lload hx hb d_Wh_guessLimb_125 (lv_at hl 1 rfl) ?_
    refine lv_lload hx hb d_Wh_guessLimb_127 (lv_at hl 4 rfl) ?_
    rw [show ((uw (f2 (k2 - 1)) : Int) : Int) = ((uw (f2 (k2 - 1)) : Nat) : Int) by omega]
    refine cs (n := 2) (wr := [(h, .inr (0, [.ref a, .int q])), (a, .inl (cI, n, .inl f)), (h2, .inr (0, [.ref a2, .int (iZ (k2 : Int))])), (a2, .inl (cI, n2, .inl f2))]) (w1 := (fun (u : Nat) => [])) (As := [.long (lZ (T1 : Int)), .long (lZ ((uw (f2 (k2 - 1)) : Nat) : Int))]) (rest := []) K hP hD hK hS hA hl.1 (c_Wh_quotientOf l D T1 (uw (f2 (k2 - 1))) H.size (by omega) (by omega) (by omega)) [] [0, 1, 2, 3] [] rfl rfl rfl (by decide) (by decide) (by decide) (big_in mw_748 rfl) (big_in mw_6 rfl) (big_in mw_746 rfl) (big_in mw_747 rfl) rfl rfl (by decide +kernel) ⟨by rw [hR]; exact Nat.le_of_ble_eq_true rfl, by rw [hR]; exact Nat.le_of_ble_eq_true rfl⟩ rfl (Nat.le_of_ble_eq_true rfl) d_Wh_guessLimb_129 ⟨by rw [hR]; exact Nat.le_of_ble_eq_true rfl, by rw [hR]; exact Nat.le_of_ble_eq_true rfl⟩ rfl (fun v u H locs hp2 hP hD hS _ => ?_)
    obtain ⟨qq, rfl⟩ : ∃ z, z = u := ⟨_, rfl⟩
    obtain ⟨rfl, gq0⟩ := hp2
    have hP : va_P D cls0 [(h, .inr (0, [.ref a, .int q])), (a, .inl (cI, n, .inl f)), (h2, .inr (0, [.ref a2, .int (iZ (k2 : Int))])), (a2, .inl (cI, n2, .inl f2))] H := hP
    have hD : va_D A [(h, .inr (0, [.ref a, .int q])), (a, .inl (cI, n, .inl f)), (h2, .inr (0, [.ref a2, .int (iZ (k2 : Int))])), (a2, .inl (cI, n2, .inl f2))] := hD
    show W p l e R s m args below meth c H locs _ _ Q (F0 m 132 ls [.long (lZ (qq : Int))])
    subst gq0
    refine lv_lstore (lv' := [(14, .long (lZ ((T1 / uw (f2 (k2 - 1)) : Nat) : Int))), (12, .long (lZ (uw (f (pl + k2 - 2)) : Int))), (10, .long (lZ (T1 : Int))), (8, .long (lZ (uw (f (pl + k2)) : Int))), (6, .long (lZ (uw (f2 (k2 - 2)) : Int))), (4, .long (lZ (uw (f2 (k2 - 1)) : Int))), (3, .int (iZ ((pl : Int) + (k2 : Int)))), (0, .ref h), (1, .ref h2), (2, .int (iZ (pl : Int)))]) hx hb d_Wh_guessLimb_132 hl (by decide) rfl (fun ls hl => ?_)
    refine lv_lload hx hb d_Wh_guessLimb_134 (lv_at hl 2 rfl) ?_
    refine lv_lload hx hb d_Wh_guessLimb_136 (lv_at hl 0 rfl) ?_
    refine lv_lload hx hb d_Wh_guessLimb_138 (lv_at hl 5 rfl) ?_
    refine zz_lmul hx hb d_Wh_guessLimb_140 ?_
    refine zz_lsub hx hb d_Wh_guessLimb_141 ?_
    have bq : T1 / uw (f2 (k2 - 1)) ≤ 4294967295 := Nat.le_of_lt_succ (Nat.div_lt_of_lt_mul (by rw [hT1]; omega))
    have hm9 := Nat.mod_lt T1 (show 0 < uw (f2 (k2 - 1)) by omega)
    have hm8 := Nat.div_add_mod T1 (uw (f2 (k2 - 1)))
    rw [Nat.mul_comm] at hm8
    have hp9 : (((T1 / uw (f2 (k2 - 1))) * uw (f2 (k2 - 1)) : Nat) : Int) = ((T1 / uw (f2 (k2 - 1)) : Nat) : Int) * (uw (f2 (k2 - 1)) : Int) := by simp
    refine lv_lstore (lv' := [(16, .long (lZ ((T1 : Int) - (((T1 / uw (f2 (k2 - 1)) : Nat) : Int) * (uw (f2 (k2 - 1)) : Int))))), (14, .long (lZ ((T1 / uw (f2 (k2 - 1)) : Nat) : Int))), (12, .long (lZ (uw (f (pl + k2 - 2)) : Int))), (10, .long (lZ (T1 : Int))), (8, .long (lZ (uw (f (pl + k2)) : Int))), (6, .long (lZ (uw (f2 (k2 - 2)) : Int))), (4, .long (lZ (uw (f2 (k2 - 1)) : Int))), (3, .int (iZ ((pl : Int) + (k2 : Int)))), (0, .ref h), (1, .ref h2), (2, .int (iZ (pl : Int)))]) hx hb d_Wh_guessLimb_142 hl (by decide) rfl (fun ls hl => ?_)
    refine lv_iconst (v := iZ (0)) hx hb d_Wh_guessLimb_144 (by decide +kernel) ?_
    refine lv_istore (lv' := [(18, .int (iZ 0)), (16, .long (lZ ((T1 : Int) - (((T1 / uw (f2 (k2 - 1)) : Nat) : Int) * (uw (f2 (k2 - 1)) : Int))))), (14, .long (lZ ((T1 / uw (f2 (k2 - 1)) : Nat) : Int))), (12, .long (lZ (uw (f (pl + k2 - 2)) : Int))), (10, .long (lZ (T1 : Int))), (8, .long (lZ (uw (f (pl + k2)) : Int))), (6, .long (lZ (uw (f2 (k2 - 2)) : Int))), (4, .long (lZ (uw (f2 (k2 - 1)) : Int))), (3, .int (iZ ((pl : Int) + (k2 : Int)))), (0, .ref h), (1, .ref h2), (2, .int (iZ (pl : Int)))]) hx hb d_Wh_guessLimb_145 hl (by decide) rfl (fun ls hl => ?_)
    rw [show (((T1 / uw (f2 (k2 - 1)) : Nat) : Int) : Int) = (((T1 / uw (f2 (k2 - 1))) : Nat) : Int) by omega] at hl
    rw [show ((T1 : Int) - (((T1 / uw (f2 (k2 - 1)) : Nat) : Int) * (uw (f2 (k2 - 1)) : Int)) : Int) = ((uw (f (pl + k2)) * 4294967296 + uw (f (pl + k2 - 1)) - (T1 / uw (f2 (k2 - 1))) * uw (f2 (k2 - 1)) : Nat) : Int) by omega] at hl
    exact L147 _ 0 (T1 / uw (f2 (k2 - 1))) (uw (f (pl + k2)) * 4294967296 + uw (f (pl + k2 - 1)) - (T1 / uw (f2 (k2 - 1))) * uw (f2 (k2 - 1))) _ _ _ (Nat.lt_succ_self _) (by decide) bq (by rw [hT1]; exact (Nat.le_div_iff_mul_le (by omega)).mpr kL) (by rw [← hT1]; exact Nat.div_mul_le_self _ _) rfl (kT _ (by rw [← hT1]; exact Nat.div_mul_le_self _ _) bq) (by rw [← hT1]; omega) (hP.sub (ws' := [(h, .inr (0, [.ref a, .int q])), (a, .inl (cI, n, .inl f)), (h2, .inr (0, [.ref a2, .int (iZ (k2 : Int))])), (a2, .inl (cI, n2, .inl f2))]) [0, 1, 2, 3] rfl) (hD.sub (ws' := [(h, .inr (0, [.ref a, .int q])), (a, .inl (cI, n, .inl f)), (h2, .inr (0, [.ref a2, .int (iZ (k2 : Int))])), (a2, .inl (cI, n2, .inl f2))]) [0, 1, 2, 3] (by decide) rfl) hS (lv_sub hl [7, 6, 3, 2, 1, 0] rfl)
  · refine lv_ldc2 (v := lZ (4294967295)) hx hb hown (hts _ (big_in mw_398 rfl)) d_Wh_guessLimb_119 ?_
    refine lv_goto (tgt := 132) hx hb d_Wh_guessLimb_122 (by decide) ?_
    refine lv_lstore (lv' := [(14, .long (lZ 4294967295)), (12, .long (lZ (uw (f (pl + k2 - 2)) : Int))), (10, .long (lZ (T1 : Int))), (8, .long (lZ (uw (f (pl + k2)) : Int))), (6, .long (lZ (uw (f2 (k2 - 2)) : Int))), (4, .long (lZ (uw (f2 (k2 - 1)) : Int))), (3, .int (iZ ((pl : Int) + (k2 : Int)))), (0, .ref h), (1, .ref h2), (2, .int (iZ (pl : Int)))]) hx hb d_Wh_guessLimb_132 hl (by decide) rfl (fun ls hl => ?_)
    refine lv_lload hx hb d_Wh_guessLimb_134 (lv_at hl 2 rfl) ?_
    refine lv_lload hx hb d_Wh_guessLimb_136 (lv_at hl 0 rfl) ?_
    refine lv_lload hx hb d_Wh_guessLimb_138 (lv_at hl 5 rfl) ?_
    refine zz_lmul hx hb d_Wh_guessLimb_140 ?_
    refine zz_lsub hx hb d_Wh_guessLimb_141 ?_
    have hp9 : ((4294967295 * uw (f2 (k2 - 1)) : Nat) : Int) = 4294967295 * (uw (f2 (k2 - 1)) : Int) := by simp
    refine lv_lstore (lv' := [(16, .long (lZ ((T1 : Int) - (4294967295 * (uw (f2 (k2 - 1)) : Int))))), (14, .long (lZ 4294967295)), (12, .long (lZ (uw (f (pl + k2 - 2)) : Int))), (10, .long (lZ (T1 : Int))), (8, .long (lZ (uw (f (pl + k2)) : Int))), (6, .long (lZ (uw (f2 (k2 - 2)) : Int))), (4, .long (lZ (uw (f2 (k2 - 1)) : Int))), (3, .int (iZ ((pl : Int) + (k2 : Int)))), (0, .ref h), (1, .ref h2), (2, .int (iZ (pl : Int)))]) hx hb d_Wh_guessLimb_142 hl (by decide) rfl (fun ls hl => ?_)
    refine lv_iconst (v := iZ (0)) hx hb d_Wh_guessLimb_144 (by decide +kernel) ?_
    refine lv_istore (lv' := [(18, .int (iZ 0)), (16, .long (lZ ((T1 : Int) - (4294967295 * (uw (f2 (k2 - 1)) : Int))))), (14, .long (lZ 4294967295)), (12, .long (lZ (uw (f (pl + k2 - 2)) : Int))), (10, .long (lZ (T1 : Int))), (8, .long (lZ (uw (f (pl + k2)) : Int))), (6, .long (lZ (uw (f2 (k2 - 2)) : Int))), (4, .long (lZ (uw (f2 (k2 - 1)) : Int))), (3, .int (iZ ((pl : Int) + (k2 : Int)))), (0, .ref h), (1, .ref h2), (2, .int (iZ (pl : Int)))]) hx hb d_Wh_guessLimb_145 hl (by decide) rfl (fun ls hl => ?_)
    rw [show ((T1 : Int) - (4294967295 * (uw (f2 (k2 - 1)) : Int)) : Int) = ((uw (f (pl + k2)) * 4294967296 + uw (f (pl + k2 - 1)) - 4294967295 * uw (f2 (k2 - 1)) : Nat) : Int) by omega] at hl
    exact L147 _ 0 4294967295 (uw (f (pl + k2)) * 4294967296 + uw (f (pl + k2 - 1)) - 4294967295 * uw (f2 (k2 - 1))) _ _ _ (Nat.lt_succ_self _) (by decide) (Nat.le_refl _) kS (by omega) rfl (kT _ (by omega) (Nat.le_refl _)) (by omega) (hP.sub (ws' := [(h, .inr (0, [.ref a, .int q])), (a, .inl (cI, n, .inl f)), (h2, .inr (0, [.ref a2, .int (iZ (k2 : Int))])), (a2, .inl (cI, n2, .inl f2))]) [0, 1, 2, 3] rfl) (hD.sub (ws' := [(h, .inr (0, [.ref a, .int q])), (a, .inl (cI, n, .inl f)), (h2, .inr (0, [.ref a2, .int (iZ (k2 : Int))])), (a2, .inl (cI, n2, .inl f2))]) [0, 1, 2, 3] (by decide) rfl) hS (lv_sub hl [7, 6, 3, 2, 1, 0] rfl)
