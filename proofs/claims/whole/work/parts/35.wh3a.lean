/-! WHOLE: products, a limb's multiples and quotients -/
def sh (f : Nat → Int32) (k : Nat) : Nat → Int32 := fun i => f (k + i)
theorem sh_upd (f : Nat → Int32) (k i : Nat) (x : Int32) : sh (upd f (k + i) x) k = upd (sh f k) i x := by
  funext j; unfold sh upd
  by_cases h : j = i
  · rw [if_pos h, if_pos (by omega)]
  · rw [if_neg h, if_neg (by omega)]
theorem vV_sh (f : Nat → Int32) (a b : Nat) : vV f (a + b) = vV f a + pB a * vV (sh f a) b := vV_cat f a b
theorem mulB {x y : Nat} (hx : x < 4294967296) (hy : y < 4294967296) : x * y ≤ 18446744065119617025 := Nat.mul_le_mul (show x ≤ 4294967295 by omega) (show y ≤ 4294967295 by omega)
theorem am_step {g f f2 : Nat → Int32} {fr i cr w T : Nat} (hI : vV (sh g fr) i + cr * pB i = vV (sh f fr) i + w * vV f2 i) (hT : T = cr + (w * uw (f2 i) + uw (g (fr + i)))) (hg : g (fr + i) = f (fr + i)) :
    vV (sh (upd g (fr + i) (iZ (T : Int))) fr) (i + 1) + T / 4294967296 * pB (i + 1) = vV (sh f fr) (i + 1) + w * vV f2 (i + 1) := by
  have q := ca_eq T (pB i)
  have e1 : uw (iZ (T : Int)) = T % 4294967296 := by rw [uw_iZ]; omega
  have e2 : T * pB i = cr * pB i + (w * (uw (f2 i) * pB i) + uw (f (fr + i)) * pB i) := by rw [hT, hg, Nat.add_mul, Nat.add_mul, Nat.mul_assoc]
  rw [sh_upd, vV_updS, vV_s, vV_s, pB_s, e1, Nat.mul_add]
  have e3 : uw (sh f fr i) * pB i = uw (f (fr + i)) * pB i := rfl
  rw [e3]
  omega
theorem am_end {g f f2 : Nat → Int32} {fr k2 cr w : Nat} (hI : vV (sh g fr) k2 + cr * pB k2 = vV (sh f fr) k2 + w * vV f2 k2) (hc : cr < 4294967296) :
    vV (sh (upd g (fr + k2) (iZ (cr : Int))) fr) (k2 + 1) = vV (sh f fr) k2 + w * vV f2 k2 := by
  rw [sh_upd, vV_updS, uw_of_nat hc, hI]
theorem pr_step {g g2 fa fb : Nat → Int32} {i kb : Nat} (hI : vV g (i + kb) = vV fa i * vV fb kb) (hlo : ∀ j, j < i → g2 j = g j) (hw : vV (sh g2 i) (kb + 1) = vV (sh g i) kb + uw (fa i) * vV fb kb) : vV g2 (i + 1 + kb) = vV fa (i + 1) * vV fb kb := by
  have e : i + 1 + kb = i + (kb + 1) := by omega
  rw [e, vV_sh, hw, vV_congr hlo, vV_s, Nat.mul_add, ← Nat.add_assoc, ← vV_sh, hI, Nat.add_mul]
  congr 1
  rw [← Nat.mul_assoc, Nat.mul_comm (pB i)]
theorem sc_step {g f : Nat → Int32} {i cr w ad T : Nat} (hI : vV g i + cr * pB i = vV f i * w + ad) (hT : T = cr + w * uw (g i)) (hg : g i = f i) :
    vV (upd g i (iZ (T : Int))) (i + 1) + T / 4294967296 * pB (i + 1) = vV f (i + 1) * w + ad := by
  have q := ca_eq T (pB i)
  have e1 : uw (iZ (T : Int)) = T % 4294967296 := by rw [uw_iZ]; omega
  have e2 : T * pB i = cr * pB i + uw (f i) * pB i * w := by rw [hT, hg, Nat.add_mul, Nat.mul_comm w, Nat.mul_assoc, Nat.mul_assoc, Nat.mul_comm w]
  rw [vV_updS, vV_s, pB_s, e1, Nat.add_mul]
  omega
theorem qo_fact (x y : Nat) (hy : 0 < y) : x / 2 / y * 2 * y ≤ x ∧ x < x / 2 / y * 2 * y + 2 * y ∧ (x < x / 2 / y * 2 * y + y → x / y = x / 2 / y * 2) ∧ (x / 2 / y * 2 * y + y ≤ x → x / y = x / 2 / y * 2 + 1) := by
  have h1 := Nat.div_add_mod (x / 2) y
  have h2 := Nat.mod_lt (x / 2) hy
  generalize x / 2 / y = a at *
  have e : a * 2 * y = 2 * (y * a) := by rw [Nat.mul_comm a 2, Nat.mul_assoc, Nat.mul_comm a y]
  have e2 : (a * 2 + 1) * y = a * 2 * y + y := by rw [Nat.add_mul, Nat.one_mul]
  refine ⟨by omega, by omega, fun h => ?_, fun h => ?_⟩
  · exact Nat.div_eq_of_lt_le (by omega) (by rw [e2]; omega)
  · refine Nat.div_eq_of_lt_le (by rw [e2]; omega) ?_
    have e3 : (a * 2 + 1 + 1) * y = a * 2 * y + 2 * y := by rw [Nat.add_mul, Nat.add_mul]; omega
    rw [e3]; omega
theorem dl_step {g f : Nat → Int32} {j k d rs T : Nat} {v : Nat} (hj : 0 < j) (hjk : j ≤ k) (hd : 0 < d) (hI : v = vV f j + pB j * (d * vV (sh g j) (k - j) + rs)) (hrs : rs < d) (hd2 : d < 4294967296) (hT : T = rs * 4294967296 + uw (f (j - 1))) :
    v = vV f (j - 1) + pB (j - 1) * (d * vV (sh (upd g (j - 1) (iZ ((T / d : Nat) : Int))) (j - 1)) (k - (j - 1)) + T % d) := by
  obtain ⟨i, rfl⟩ : ∃ i, j = i + 1 := ⟨j - 1, by omega⟩
  have e0 : i + 1 - 1 = i := by omega
  rw [e0] at hT
  rw [e0]
  have hu := uw_lt (f i)
  have hT' : T < 4294967296 * d := by rw [hT]; omega
  have hq : T / d < 4294967296 := Nat.div_lt_of_lt_mul (by rw [Nat.mul_comm]; exact hT')
  have e1 : k - i = (k - (i + 1)) + 1 := by omega
  have e2 : sh (upd g i (iZ ((T / d : Nat) : Int))) i 0 = iZ ((T / d : Nat) : Int) := by unfold sh; exact pk_us
  have e3 : vV (fun x => sh (upd g i (iZ ((T / d : Nat) : Int))) i (x + 1)) (k - (i + 1)) = vV (sh g (i + 1)) (k - (i + 1)) := vV_congr (fun x _ => by
    unfold sh
    rw [pk_un (by omega)]
    congr 1; omega)
  have h1 := Nat.div_add_mod T d
  rw [e1, vV_low, e2, uw_of_nat hq, e3, hI, vV_s, pB_s]
  generalize vV (sh g (i + 1)) (k - (i + 1)) = Z
  generalize pB i = Pi
  have a1 : Pi * 4294967296 * (d * Z + rs) = Pi * (4294967296 * (d * Z) + 4294967296 * rs) := by rw [Nat.mul_assoc, Nat.mul_add]
  have a2 : d * (T / d + 4294967296 * Z) + T % d = T + 4294967296 * (d * Z) := by rw [Nat.mul_add, Nat.mul_left_comm]; omega
  rw [a1, a2, hT, Nat.add_assoc, Nat.mul_comm (uw (f i)) Pi, ← Nat.mul_add]
  congr 2
  omega
set_option maxHeartbeats 4000000 in
set_option maxRecDepth 100000 in
/-- addMultiple(other, factor, from) -/
theorem c_Wh_addMultiple (l : Launch) (D : va_G) (h : Nat) (a : Nat) (q : Int32) (n : Nat) (f : Nat → Int32) (h2 : Nat) (a2 : Nat) (k2 : Nat) (n2 : Nat) (f2 : Nat → Int32) (cI : ClassId) (w : Nat) (fr : Nat) (sz : Nat) (hw : w < 4294967296) (hk : fr + k2 + 1 ≤ n) (hk2 : k2 ≤ n2) (hn : n < 1000000) (hn2 : n2 < 1000000) : Met l y_Wh_addMultiple (wsB y_Wh_addMultiple b_Wh_addMultiple 8 none) ({ frames := 1, cells := 0, slots := 0, locals := 21 }) (va_Pc [.ref h, .ref h2, .long (lZ (w : Int)), .int (iZ (fr : Int))] (wPre D [(cI, .int)] [(h, .inr (0, [.ref a, .int q])), (a, .inl (cI, n, .inl f)), (h2, .inr (0, [.ref a2, .int (iZ (k2 : Int))])), (a2, .inl (cI, n2, .inl f2))] sz)) (va_QV (fun (v9 : Option Value) (u9 : (Nat → Int32)) => v9 = none ∧ (∀ j, j < fr → u9 j = f j) ∧ (∀ j, fr + k2 < j → u9 j = f j) ∧ (vV (sh u9 fr) (k2 + 1) = vV (sh f fr) k2 + w * vV f2 k2)) (fun u9 => wPost D [(cI, .int)] [(h, .inr (0, [.ref a, .int q])), (a, .inl (cI, n, .inl f)), (h2, .inr (0, [.ref a2, .int (iZ (k2 : Int))])), (a2, .inl (cI, n2, .inl f2))] [(h, .inr (0, [.ref a, .int q])), (a, .inl (cI, n, .inl u9)), (h2, .inr (0, [.ref a2, .int (iZ (k2 : Int))])), (a2, .inl (cI, n2, .inl f2))] sz) (va_A [(h, .inr (0, [.ref a, .int q])), (a, .inl (cI, n, .inl f)), (h2, .inr (0, [.ref a2, .int (iZ (k2 : Int))])), (a2, .inl (cI, n2, .inl f2))] sz)) 0 0 (va_A [(h, .inr (0, [.ref a, .int q])), (a, .inl (cI, n, .inl f)), (h2, .inr (0, [.ref a2, .int (iZ (k2 : Int))])), (a2, .inl (cI, n2, .inl f2))] sz) := by
  refine met_enter (by decide +kernel) (Nat.le_of_ble_eq_true rfl) ?_
  intro p e s m args below meth c ls A R Q H locs K hin hAe hA hR hQ hP hK hD hS hl
  obtain ⟨hx, hb, hml, hrt, hlk, hts, hown, hno⟩ := id K
  have hl : lv_has ls 8 [(0, .ref h), (1, .ref h2), (2, .long (lZ (w : Int))), (4, .int (iZ (fr : Int)))] := hl
  refine lv_aload_n hx hb d_Wh_addMultiple_0 rfl (lv_at hl 0 rfl) ?_
  refine lv_iload hx hb d_Wh_addMultiple_1 (lv_at hl 3 rfl) ?_
  refine lv_aload_n hx hb d_Wh_addMultiple_3 rfl (lv_at hl 1 rfl) ?_
  refine va_get (D := D) (ci := 0) (v := .int (iZ (k2 : Int))) (C := R_Wh) (T := F_Wh) (N := 2) hx hb hts i_Wh hown hK hP 2 rfl rfl 1 (by decide) (hts _ (big_in mw_94 rfl)) (fun _ h9 => h9) rfl d_Wh_addMultiple_4 ?_
  refine zz_iadd hx hb d_Wh_addMultiple_7 ?_
  refine lv_iconst (v := iZ (1)) hx hb d_Wh_addMultiple_8 (by decide +kernel) ?_
  refine zz_iadd hx hb d_Wh_addMultiple_9 ?_
  refine cv (n := 1) (wr := [(h2, .inr (0, [.ref a2, .int (iZ (k2 : Int))])), (a2, .inl (cI, n2, .inl f2))]) (w1 := (fun (u : Unit) => [(h, .inr (0, [.ref a, .int q])), (a, .inl (cI, n, .inl f))])) (As := [.int (iZ ((fr : Int) + (k2 : Int) + 1))]) (rest := []) K hP hD hK hS hA hl.1 (c_Wh_claim l D h a q n f cI ((fr : Int) + (k2 : Int) + 1) H.size (by omega) (by omega)) [0, 1] [2, 3] [0] rfl rfl rfl (by decide) (by decide) (by decide) 0 rfl rfl (big_in mw_406 rfl) (big_in mw_6 rfl) (big_in mw_403 rfl) (big_in mw_405 rfl) (big_in sp_2 rfl) rfl rfl (by decide +kernel) ⟨by rw [hR]; exact Nat.le_of_ble_eq_true rfl, by rw [hR]; exact Nat.le_of_ble_eq_true rfl⟩ rfl (Nat.le_of_ble_eq_true rfl) d_Wh_addMultiple_10 ⟨by rw [hR]; exact Nat.le_of_ble_eq_true rfl, by rw [hR]; exact Nat.le_of_ble_eq_true rfl⟩ rfl (fun v u H locs hp1 hP hD hS _ => ?_)
  obtain rfl := hp1
  have hP : va_P D cls0 [(h2, .inr (0, [.ref a2, .int (iZ (k2 : Int))])), (a2, .inl (cI, n2, .inl f2)), (h, .inr (0, [.ref a, .int q])), (a, .inl (cI, n, .inl f))] H := hP
  have hD : va_D A [(h2, .inr (0, [.ref a2, .int (iZ (k2 : Int))])), (a2, .inl (cI, n2, .inl f2)), (h, .inr (0, [.ref a, .int q])), (a, .inl (cI, n, .inl f))] := hD
  show W p l e R s m args below meth c H locs _ _ Q (F0 m 13 ls [])
  refine lv_lconst (v := lZ (0)) hx hb d_Wh_addMultiple_13 (by decide +kernel) ?_
  refine lv_lstore (lv' := [(5, .long (lZ 0)), (0, .ref h), (1, .ref h2), (2, .long (lZ (w : Int))), (4, .int (iZ (fr : Int)))]) hx hb d_Wh_addMultiple_14 hl (by decide) rfl (fun ls hl => ?_)
  refine lv_iconst (v := iZ (0)) hx hb d_Wh_addMultiple_16 (by decide +kernel) ?_
  refine lv_istore (lv' := [(7, .int (iZ 0)), (5, .long (lZ 0)), (0, .ref h), (1, .ref h2), (2, .long (lZ (w : Int))), (4, .int (iZ (fr : Int)))]) hx hb d_Wh_addMultiple_17 hl (by decide) rfl (fun ls hl => ?_)
  have L19 : ∀ (N : Nat) (i : Nat) (cr : Nat) (g : Nat → Int32) (H : Heap) (locs : List Loc) (ls : Array Slot), k2 - i < N → (i ≤ k2) → (cr < 4294967296) → (∀ j, j < fr ∨ fr + i ≤ j → g j = f j) → (vV (sh g fr) i + cr * pB i = vV (sh f fr) i + w * vV f2 i) → va_P D cls0 [(h, .inr (0, [.ref a, .int q])), (a, .inl (cI, n, .inl g)), (h2, .inr (0, [.ref a2, .int (iZ (k2 : Int))])), (a2, .inl (cI, n2, .inl f2))] H → va_D A [(h, .inr (0, [.ref a, .int q])), (a, .inl (cI, n, .inl g)), (h2, .inr (0, [.ref a2, .int (iZ (k2 : Int))])), (a2, .inl (cI, n2, .inl f2))] → va_S A s.heap H locs → lv_has ls 8 [(0, .ref h), (1, .ref h2), (2, .long (lZ (w : Int))), (4, .int (iZ (fr : Int))), (5, .long (lZ (cr : Int))), (7, .int (iZ (i : Int)))] → W p l e R s m args below meth c H locs 0 0 Q (F0 m 19 ls []) := by
    intro N
    induction N with
    | zero => intro i cr g H locs ls hN; exact absurd hN (Nat.not_lt_zero _)
    | succ N ih =>
      intro i cr g H locs ls hN ii ic ig iv hP hD hS hl
      refine lv_iload hx hb d_Wh_addMultiple_19 (lv_at hl 5 rfl) ?_
      refine lv_aload_n hx hb d_Wh_addMultiple_21 rfl (lv_at hl 1 rfl) ?_
      refine va_get (D := D) (ci := 0) (v := .int (iZ (k2 : Int))) (C := R_Wh) (T := F_Wh) (N := 2) hx hb hts i_Wh hown hK hP 2 rfl rfl 1 (by decide) (hts _ (big_in mw_94 rfl)) (fun _ h9 => h9) rfl d_Wh_addMultiple_22 ?_
      refine zz_icmp_ge (tgt := 89) hx hb d_Wh_addMultiple_25 (by decide) (by omega) (by omega) (fun c25 => ?_) (fun c25 => ?_)
      · refine lv_aload_n hx hb d_Wh_addMultiple_89 rfl (lv_at hl 0 rfl) ?_
        refine va_get (D := D) (ci := 0) (v := .ref a) (C := R_Wh) (T := F_Wh) (N := 2) hx hb hts i_Wh hown hK hP 0 rfl rfl 0 (by decide) (hts _ (big_in mw_90 rfl)) (fun _ h9 => h9) rfl d_Wh_addMultiple_90 ?_
        refine lv_iload hx hb d_Wh_addMultiple_93 (lv_at hl 3 rfl) ?_
        refine lv_aload_n hx hb d_Wh_addMultiple_95 rfl (lv_at hl 1 rfl) ?_
        refine va_get (D := D) (ci := 0) (v := .int (iZ (k2 : Int))) (C := R_Wh) (T := F_Wh) (N := 2) hx hb hts i_Wh hown hK hP 2 rfl rfl 1 (by decide) (hts _ (big_in mw_94 rfl)) (fun _ h9 => h9) rfl d_Wh_addMultiple_96 ?_
        refine zz_iadd hx hb d_Wh_addMultiple_99 ?_
        refine lv_lload hx hb d_Wh_addMultiple_100 (lv_at hl 4 rfl) ?_
        refine zz_l2i hx hb d_Wh_addMultiple_102 ?_
        refine zz_iast hx hb hK hP hD hS 1 0 rfl rfl (fr + k2) (by omega) (by omega) (by omega) d_Wh_addMultiple_103 (fun H locs hP hD hS => ?_)
        have hP : va_P D cls0 [(h, .inr (0, [.ref a, .int q])), (a, .inl (cI, n, .inl (upd g (fr + k2) (iZ (cr : Int))))), (h2, .inr (0, [.ref a2, .int (iZ (k2 : Int))])), (a2, .inl (cI, n2, .inl f2))] H := hP
        have hD : va_D A [(h, .inr (0, [.ref a, .int q])), (a, .inl (cI, n, .inl (upd g (fr + k2) (iZ (cr : Int))))), (h2, .inr (0, [.ref a2, .int (iZ (k2 : Int))])), (a2, .inl (cI, n2, .inl f2))] := hD
        have hP9 : va_P D cls0 [(h, .inr (0, [.ref a, .int q])), (a, .inl (cI, n, .inl (upd g (fr + k2) (iZ (cr : Int))))), (h2, .inr (0, [.ref a2, .int (iZ (k2 : Int))])), (a2, .inl (cI, n2, .inl f2))] H := hP.sub [0, 1, 2, 3] rfl
        have hD9 : va_D A [(h, .inr (0, [.ref a, .int q])), (a, .inl (cI, n, .inl (upd g (fr + k2) (iZ (cr : Int))))), (h2, .inr (0, [.ref a2, .int (iZ (k2 : Int))])), (a2, .inl (cI, n2, .inl f2))] := hD.sub [0, 1, 2, 3] (by decide) rfl
        rw [hQ, ← hAe]
        refine r_v K (upd g (fr + k2) (iZ (cr : Int))) hS d_Wh_addMultiple_104 ?_ (fun t ht hv => ?_)
        · have ei : i = k2 := by omega
          subst ei
          exact ⟨rfl, fun j hj => by rw [pk_un (by omega)]; exact ig j (by omega), fun j hj => by rw [pk_un (by omega)]; exact ig j (by omega), am_end iv ic⟩
        · exact ⟨by rw [ht]; exact hP9, va_K.moved hv hK, by rw [← hAe]; exact hD9⟩
      · refine lv_lload hx hb d_Wh_addMultiple_28 (lv_at hl 4 rfl) ?_
        refine lv_lload_n hx hb d_Wh_addMultiple_30 rfl (lv_at hl 2 rfl) ?_
        refine lv_aload_n hx hb d_Wh_addMultiple_31 rfl (lv_at hl 1 rfl) ?_
        refine va_get (D := D) (ci := 0) (v := .ref a2) (C := R_Wh) (T := F_Wh) (N := 2) hx hb hts i_Wh hown hK hP 2 rfl rfl 0 (by decide) (hts _ (big_in mw_90 rfl)) (fun _ h9 => h9) rfl d_Wh_addMultiple_32 ?_
        refine lv_iload hx hb d_Wh_addMultiple_35 (lv_at hl 5 rfl) ?_
        refine zz_iald hx hb hK hP 3 0 rfl rfl (i) (by omega) (by omega) (by omega) d_Wh_addMultiple_37 ?_
        refine lv_i2l (v := (f2 i).toInt64) hx hb d_Wh_addMultiple_38 rfl ?_
        refine lv_ldc2 (v := 4294967295) hx hb hown (hts _ (big_in mw_398 rfl)) d_Wh_addMultiple_39 ?_
        refine zz_mask hx hb d_Wh_addMultiple_42 ?_
        have bw42 := uwZ (f2 i)
        refine zz_lmul hx hb d_Wh_addMultiple_43 ?_
        refine lv_aload_n hx hb d_Wh_addMultiple_44 rfl (lv_at hl 0 rfl) ?_
        refine va_get (D := D) (ci := 0) (v := .ref a) (C := R_Wh) (T := F_Wh) (N := 2) hx hb hts i_Wh hown hK hP 0 rfl rfl 0 (by decide) (hts _ (big_in mw_90 rfl)) (fun _ h9 => h9) rfl d_Wh_addMultiple_45 ?_
        refine lv_iload hx hb d_Wh_addMultiple_48 (lv_at hl 3 rfl) ?_
        refine lv_iload hx hb d_Wh_addMultiple_50 (lv_at hl 5 rfl) ?_
        refine zz_iadd hx hb d_Wh_addMultiple_52 ?_
        refine zz_iald hx hb hK hP 1 0 rfl rfl (fr + i) (by omega) (by omega) (by omega) d_Wh_addMultiple_53 ?_
        refine lv_i2l (v := (g (fr + i)).toInt64) hx hb d_Wh_addMultiple_54 rfl ?_
        refine lv_ldc2 (v := 4294967295) hx hb hown (hts _ (big_in mw_398 rfl)) d_Wh_addMultiple_55 ?_
        refine zz_mask hx hb d_Wh_addMultiple_58 ?_
        have bw58 := uwZ (g (fr + i))
        refine zz_ladd hx hb d_Wh_addMultiple_59 ?_
        refine zz_ladd hx hb d_Wh_addMultiple_60 ?_
        obtain ⟨T, hT, bT⟩ : ∃ x : Nat, x = cr + (w * uw (f2 i) + uw (g (fr + i))) ∧ x < 18446744073709551616 := ⟨_, rfl, by have := mulB hw (uw_lt (f2 i)); have := uw_lt (g (fr + i)); omega⟩
        rw [show ((cr : Int) + ((w : Int) * (uw (f2 i) : Int) + (uw (g (fr + i)) : Int)) : Int) = (T : Int) by rw [hT]; simp] 
        refine lv_lstore (lv' := [(5, .long (lZ (T : Int))), (0, .ref h), (1, .ref h2), (2, .long (lZ (w : Int))), (4, .int (iZ (fr : Int))), (7, .int (iZ (i : Int)))]) hx hb d_Wh_addMultiple_61 hl (by decide) rfl (fun ls hl => ?_)
        refine lv_aload_n hx hb d_Wh_addMultiple_63 rfl (lv_at hl 1 rfl) ?_
        refine va_get (D := D) (ci := 0) (v := .ref a) (C := R_Wh) (T := F_Wh) (N := 2) hx hb hts i_Wh hown hK hP 0 rfl rfl 0 (by decide) (hts _ (big_in mw_90 rfl)) (fun _ h9 => h9) rfl d_Wh_addMultiple_64 ?_
        refine lv_iload hx hb d_Wh_addMultiple_67 (lv_at hl 4 rfl) ?_
        refine lv_iload hx hb d_Wh_addMultiple_69 (lv_at hl 5 rfl) ?_
        refine zz_iadd hx hb d_Wh_addMultiple_71 ?_
        refine lv_lload hx hb d_Wh_addMultiple_72 (lv_at hl 0 rfl) ?_
        refine zz_l2i hx hb d_Wh_addMultiple_74 ?_
        refine zz_iast hx hb hK hP hD hS 1 0 rfl rfl (fr + i) (by omega) (by omega) (by omega) d_Wh_addMultiple_75 (fun H locs hP hD hS => ?_)
        have hP : va_P D cls0 [(h, .inr (0, [.ref a, .int q])), (a, .inl (cI, n, .inl (upd g (fr + i) (iZ (T : Int))))), (h2, .inr (0, [.ref a2, .int (iZ (k2 : Int))])), (a2, .inl (cI, n2, .inl f2))] H := hP
        have hD : va_D A [(h, .inr (0, [.ref a, .int q])), (a, .inl (cI, n, .inl (upd g (fr + i) (iZ (T : Int))))), (h2, .inr (0, [.ref a2, .int (iZ (k2 : Int))])), (a2, .inl (cI, n2, .inl f2))] := hD
        refine lv_lload hx hb d_Wh_addMultiple_76 (lv_at hl 0 rfl) ?_
        refine lv_bipush (v := iZ (32)) hx hb d_Wh_addMultiple_78 (by decide +kernel) ?_
        refine zz_lushr32 hx hb d_Wh_addMultiple_80 (by omega) (by omega) ?_
        refine lv_lstore (lv' := [(5, .long (lZ ((T : Int) / 4294967296))), (0, .ref h), (1, .ref h2), (2, .long (lZ (w : Int))), (4, .int (iZ (fr : Int))), (7, .int (iZ (i : Int)))]) hx hb d_Wh_addMultiple_81 hl (by decide) rfl (fun ls hl => ?_)
        refine lv_iinc (v := iZ ((i : Int) + 1)) (lv' := [(7, .int (iZ ((i : Int) + 1))), (5, .long (lZ ((T : Int) / 4294967296))), (0, .ref h), (1, .ref h2), (2, .long (lZ (w : Int))), (4, .int (iZ (fr : Int)))]) hx hb d_Wh_addMultiple_83 hl (k := 5) rfl (iZ_add _ _) (by decide) rfl (fun ls hl => ?_)
        refine lv_goto (tgt := 19) hx hb d_Wh_addMultiple_86 (by decide) ?_
        rw [show ((T : Int) / 4294967296 : Int) = ((T / 4294967296 : Nat) : Int) by omega] at hl
        rw [show ((i : Int) + 1 : Int) = ((i + 1 : Nat) : Int) by omega] at hl
        exact ih (i + 1) (T / 4294967296) (upd g (fr + i) (iZ (T : Int))) _ _ _ (by omega) (by omega) (by omega) (fun j hj => by rw [pk_un (by omega)]; exact ig j (by omega)) (am_step iv hT (ig (fr + i) (Or.inr (Nat.le_refl _)))) (hP.sub (ws' := [(h, .inr (0, [.ref a, .int q])), (a, .inl (cI, n, .inl (upd g (fr + i) (iZ (T : Int))))), (h2, .inr (0, [.ref a2, .int (iZ (k2 : Int))])), (a2, .inl (cI, n2, .inl f2))]) [0, 1, 2, 3] rfl) (hD.sub (ws' := [(h, .inr (0, [.ref a, .int q])), (a, .inl (cI, n, .inl (upd g (fr + i) (iZ (T : Int))))), (h2, .inr (0, [.ref a2, .int (iZ (k2 : Int))])), (a2, .inl (cI, n2, .inl f2))]) [0, 1, 2, 3] (by decide) rfl) hS (lv_sub hl [2, 3, 4, 5, 1, 0] rfl)
  exact L19 _ 0 0 f _ _ _ (Nat.lt_succ_self _) (Nat.zero_le _) (by decide) (fun _ _ => rfl) (by simp [vV_0]) (hP.sub (ws' := [(h, .inr (0, [.ref a, .int q])), (a, .inl (cI, n, .inl f)), (h2, .inr (0, [.ref a2, .int (iZ (k2 : Int))])), (a2, .inl (cI, n2, .inl f2))]) [2, 3, 0, 1] rfl) (hD.sub (ws' := [(h, .inr (0, [.ref a, .int q])), (a, .inl (cI, n, .inl f)), (h2, .inr (0, [.ref a2, .int (iZ (k2 : Int))])), (a2, .inl (cI, n2, .inl f2))]) [2, 3, 0, 1] (by decide) rfl) hS (lv_sub hl [2, 3, 4, 5, 1, 0] rfl)
set_option maxHeartbeats 4000000 in
set_option maxRecDepth 100000 in
/-- productOf(a, b) -/
theorem c_Wh_productOf (l : Launch) (D : va_G) (h : Nat) (a : Nat) (q : Int32) (n : Nat) (f : Nat → Int32) (h1 : Nat) (a1 : Nat) (k1 : Nat) (n1 : Nat) (f1 : Nat → Int32) (h2 : Nat) (a2 : Nat) (k2 : Nat) (n2 : Nat) (f2 : Nat → Int32) (cI : ClassId) (v1 : Nat) (v2 : Nat) (sz : Nat) (r1 : Rp f1 k1 v1) (hk1 : k1 ≤ n1) (hn1 : n1 < 1000000) (r2 : Rp f2 k2 v2) (hk2 : k2 ≤ n2) (hn : n < 1000000) (hn2 : n2 < 1000000) (hk : k1 + k2 ≤ n) : Met l y_Wh_productOf (wsB y_Wh_productOf b_Wh_productOf 5 none) ({ frames := 2, cells := 0, slots := 0, locals := 48 }) (va_Pc [.ref h, .ref h1, .ref h2] (wPre D [(cI, .int)] [(h, .inr (0, [.ref a, .int q])), (a, .inl (cI, n, .inl f)), (h1, .inr (0, [.ref a1, .int (iZ (k1 : Int))])), (a1, .inl (cI, n1, .inl f1)), (h2, .inr (0, [.ref a2, .int (iZ (k2 : Int))])), (a2, .inl (cI, n2, .inl f2))] sz)) (va_QV (fun (v9 : Option Value) (u9 : Nat × (Nat → Int32)) => v9 = none ∧ (Rp u9.2 u9.1 (v1 * v2)) ∧ (u9.1 ≤ k1 + k2)) (fun u9 => wPost D [(cI, .int)] [(h, .inr (0, [.ref a, .int q])), (a, .inl (cI, n, .inl f)), (h1, .inr (0, [.ref a1, .int (iZ (k1 : Int))])), (a1, .inl (cI, n1, .inl f1)), (h2, .inr (0, [.ref a2, .int (iZ (k2 : Int))])), (a2, .inl (cI, n2, .inl f2))] [(h, .inr (0, [.ref a, .int (iZ (u9.1 : Int))])), (a, .inl (cI, n, .inl u9.2)), (h1, .inr (0, [.ref a1, .int (iZ (k1 : Int))])), (a1, .inl (cI, n1, .inl f1)), (h2, .inr (0, [.ref a2, .int (iZ (k2 : Int))])), (a2, .inl (cI, n2, .inl f2))] sz) (va_A [(h, .inr (0, [.ref a, .int q])), (a, .inl (cI, n, .inl f)), (h1, .inr (0, [.ref a1, .int (iZ (k1 : Int))])), (a1, .inl (cI, n1, .inl f1)), (h2, .inr (0, [.ref a2, .int (iZ (k2 : Int))])), (a2, .inl (cI, n2, .inl f2))] sz)) 0 0 (va_A [(h, .inr (0, [.ref a, .int q])), (a, .inl (cI, n, .inl f)), (h1, .inr (0, [.ref a1, .int (iZ (k1 : Int))])), (a1, .inl (cI, n1, .inl f1)), (h2, .inr (0, [.ref a2, .int (iZ (k2 : Int))])), (a2, .inl (cI, n2, .inl f2))] sz) := by
  refine met_enter (by decide +kernel) (Nat.le_of_ble_eq_true rfl) ?_
  intro p e s m args below meth c ls A R Q H locs K hin hAe hA hR hQ hP hK hD hS hl
  obtain ⟨hx, hb, hml, hrt, hlk, hts, hown, hno⟩ := id K
  have hl : lv_has ls 5 [(0, .ref h), (1, .ref h1), (2, .ref h2)] := hl
  refine lv_aload_n hx hb d_Wh_productOf_0 rfl (lv_at hl 1 rfl) ?_
  refine va_get (D := D) (ci := 0) (v := .int (iZ (k1 : Int))) (C := R_Wh) (T := F_Wh) (N := 2) hx hb hts i_Wh hown hK hP 2 rfl rfl 1 (by decide) (hts _ (big_in mw_94 rfl)) (fun _ h9 => h9) rfl d_Wh_productOf_1 ?_
  refine lv_aload_n hx hb d_Wh_productOf_4 rfl (lv_at hl 2 rfl) ?_
  refine va_get (D := D) (ci := 0) (v := .int (iZ (k2 : Int))) (C := R_Wh) (T := F_Wh) (N := 2) hx hb hts i_Wh hown hK hP 4 rfl rfl 1 (by decide) (hts _ (big_in mw_94 rfl)) (fun _ h9 => h9) rfl d_Wh_productOf_5 ?_
  refine zz_iadd hx hb d_Wh_productOf_8 ?_
  refine lv_istore_n (lv' := [(3, .int (iZ ((k1 : Int) + (k2 : Int)))), (0, .ref h), (1, .ref h1), (2, .ref h2)]) hx hb d_Wh_productOf_9 rfl hl (by decide) rfl (fun ls hl => ?_)
  refine lv_aload_n hx hb d_Wh_productOf_10 rfl (lv_at hl 1 rfl) ?_
  refine lv_iload_n hx hb d_Wh_productOf_11 rfl (lv_at hl 0 rfl) ?_
  refine cv (n := 1) (wr := [(h1, .inr (0, [.ref a1, .int (iZ (k1 : Int))])), (a1, .inl (cI, n1, .inl f1)), (h2, .inr (0, [.ref a2, .int (iZ (k2 : Int))])), (a2, .inl (cI, n2, .inl f2))]) (w1 := (fun (u : Unit) => [(h, .inr (0, [.ref a, .int q])), (a, .inl (cI, n, .inl f))])) (As := [.int (iZ ((k1 : Int) + (k2 : Int)))]) (rest := []) K hP hD hK hS hA hl.1 (c_Wh_claim l D h a q n f cI ((k1 : Int) + (k2 : Int)) H.size (by omega) (by omega)) [0, 1] [2, 3, 4, 5] [0] rfl rfl rfl (by decide) (by decide) (by decide) 0 rfl rfl (big_in mw_406 rfl) (big_in mw_6 rfl) (big_in mw_403 rfl) (big_in mw_405 rfl) (big_in sp_2 rfl) rfl rfl (by decide +kernel) ⟨by rw [hR]; exact Nat.le_of_ble_eq_true rfl, by rw [hR]; exact Nat.le_of_ble_eq_true rfl⟩ rfl (Nat.le_of_ble_eq_true rfl) d_Wh_productOf_12 ⟨by rw [hR]; exact Nat.le_of_ble_eq_true rfl, by rw [hR]; exact Nat.le_of_ble_eq_true rfl⟩ rfl (fun v u H locs hp1 hP hD hS _ => ?_)
  obtain rfl := hp1
  have hP : va_P D cls0 [(h1, .inr (0, [.ref a1, .int (iZ (k1 : Int))])), (a1, .inl (cI, n1, .inl f1)), (h2, .inr (0, [.ref a2, .int (iZ (k2 : Int))])), (a2, .inl (cI, n2, .inl f2)), (h, .inr (0, [.ref a, .int q])), (a, .inl (cI, n, .inl f))] H := hP
  have hD : va_D A [(h1, .inr (0, [.ref a1, .int (iZ (k1 : Int))])), (a1, .inl (cI, n1, .inl f1)), (h2, .inr (0, [.ref a2, .int (iZ (k2 : Int))])), (a2, .inl (cI, n2, .inl f2)), (h, .inr (0, [.ref a, .int q])), (a, .inl (cI, n, .inl f))] := hD
  show W p l e R s m args below meth c H locs _ _ Q (F0 m 15 ls [])
  refine lv_aload_n hx hb d_Wh_productOf_15 rfl (lv_at hl 1 rfl) ?_
  refine va_get (D := D) (ci := 0) (v := .ref a) (C := R_Wh) (T := F_Wh) (N := 2) hx hb hts i_Wh hown hK hP 4 rfl rfl 0 (by decide) (hts _ (big_in mw_90 rfl)) (fun _ h9 => h9) rfl d_Wh_productOf_16 ?_
  refine lv_iconst (v := iZ (0)) hx hb d_Wh_productOf_19 (by decide +kernel) ?_
  refine lv_iload_n hx hb d_Wh_productOf_20 rfl (lv_at hl 0 rfl) ?_
  refine lv_iconst (v := iZ (0)) hx hb d_Wh_productOf_21 (by decide +kernel) ?_
  rw [show ((k1 : Int) + (k2 : Int) : Int) = ((k1 + k2 : Nat) : Int) by omega]
  refine cs (n := 4) (wr := [(h1, .inr (0, [.ref a1, .int (iZ (k1 : Int))])), (a1, .inl (cI, n1, .inl f1)), (h2, .inr (0, [.ref a2, .int (iZ (k2 : Int))])), (a2, .inl (cI, n2, .inl f2)), (h, .inr (0, [.ref a, .int q]))]) (w1 := (fun (u : Unit) => [(a, .inl (cI, n, .inl (fillF f 0 (k1 + k2) (iZ 0))))])) (As := [.ref a, .int (iZ 0), .int (iZ ((k1 + k2 : Nat) : Int)), .int (iZ 0)]) (rest := []) K hP hD hK hS hA hl.1 (c_jArr_fill l D a n f cI 0 (k1 + k2) (iZ 0) H.size (by omega) (by omega) (by omega)) [5] [0, 1, 2, 3, 4] [0] rfl rfl rfl (by decide) (by decide) (by decide) (big_in mw_460 rfl) (big_in mw_19 rfl) (big_in mw_458 rfl) (big_in mw_459 rfl) rfl rfl (by decide +kernel) ⟨by rw [hR]; exact Nat.le_of_ble_eq_true rfl, by rw [hR]; exact Nat.le_of_ble_eq_true rfl⟩ rfl (Nat.le_of_ble_eq_true rfl) d_Wh_productOf_22 ⟨by rw [hR]; exact Nat.le_of_ble_eq_true rfl, by rw [hR]; exact Nat.le_of_ble_eq_true rfl⟩ rfl (fun v u H locs hp2 hP hD hS _ => ?_)
  obtain rfl := hp2
  have hP : va_P D cls0 [(h1, .inr (0, [.ref a1, .int (iZ (k1 : Int))])), (a1, .inl (cI, n1, .inl f1)), (h2, .inr (0, [.ref a2, .int (iZ (k2 : Int))])), (a2, .inl (cI, n2, .inl f2)), (h, .inr (0, [.ref a, .int q])), (a, .inl (cI, n, .inl (fillF f 0 (k1 + k2) (iZ 0))))] H := hP
  have hD : va_D A [(h1, .inr (0, [.ref a1, .int (iZ (k1 : Int))])), (a1, .inl (cI, n1, .inl f1)), (h2, .inr (0, [.ref a2, .int (iZ (k2 : Int))])), (a2, .inl (cI, n2, .inl f2)), (h, .inr (0, [.ref a, .int q])), (a, .inl (cI, n, .inl (fillF f 0 (k1 + k2) (iZ 0))))] := hD
  show W p l e R s m args below meth c H locs _ _ Q (F0 m 25 ls [])
  refine lv_iconst (v := iZ (0)) hx hb d_Wh_productOf_25 (by decide +kernel) ?_
  refine lv_istore (lv' := [(4, .int (iZ 0)), (3, .int (iZ ((k1 : Int) + (k2 : Int)))), (0, .ref h), (1, .ref h1), (2, .ref h2)]) hx hb d_Wh_productOf_26 hl (by decide) rfl (fun ls hl => ?_)
  have L28 : ∀ (N : Nat) (i : Nat) (g : Nat → Int32) (H : Heap) (locs : List Loc) (ls : Array Slot), k1 - i < N → (i ≤ k1) → (∀ j, i + k2 ≤ j → j < k1 + k2 → g j = 0) → (vV g (i + k2) = vV f1 i * vV f2 k2) → va_P D cls0 [(h, .inr (0, [.ref a, .int q])), (a, .inl (cI, n, .inl g)), (h1, .inr (0, [.ref a1, .int (iZ (k1 : Int))])), (a1, .inl (cI, n1, .inl f1)), (h2, .inr (0, [.ref a2, .int (iZ (k2 : Int))])), (a2, .inl (cI, n2, .inl f2))] H → va_D A [(h, .inr (0, [.ref a, .int q])), (a, .inl (cI, n, .inl g)), (h1, .inr (0, [.ref a1, .int (iZ (k1 : Int))])), (a1, .inl (cI, n1, .inl f1)), (h2, .inr (0, [.ref a2, .int (iZ (k2 : Int))])), (a2, .inl (cI, n2, .inl f2))] → va_S A s.heap H locs → lv_has ls 5 [(0, .ref h), (1, .ref h1), (2, .ref h2), (3, .int (iZ ((k1 : Int) + (k2 : Int)))), (4, .int (iZ (i : Int)))] → W p l e R s m args below meth c H locs 0 0 Q (F0 m 28 ls []) := by
    intro N
    induction N with
    | zero => intro i g H locs ls hN; exact absurd hN (Nat.not_lt_zero _)
    | succ N ih =>
      intro i g H locs ls hN ii iz iv hP hD hS hl
      refine lv_iload hx hb d_Wh_productOf_28 (lv_at hl 4 rfl) ?_
      refine lv_aload_n hx hb d_Wh_productOf_30 rfl (lv_at hl 1 rfl) ?_
      refine va_get (D := D) (ci := 0) (v := .int (iZ (k1 : Int))) (C := R_Wh) (T := F_Wh) (N := 2) hx hb hts i_Wh hown hK hP 2 rfl rfl 1 (by decide) (hts _ (big_in mw_94 rfl)) (fun _ h9 => h9) rfl d_Wh_productOf_31 ?_
      refine zz_icmp_ge (tgt := 62) hx hb d_Wh_productOf_34 (by decide) (by omega) (by omega) (fun c34 => ?_) (fun c34 => ?_)
      · refine lv_aload_n hx hb d_Wh_productOf_62 rfl (lv_at hl 0 rfl) ?_
        refine lv_iload_n hx hb d_Wh_productOf_63 rfl (lv_at hl 3 rfl) ?_
        refine va_put (D := D) (ci := 0) (v := .int (iZ ((k1 : Int) + (k2 : Int)))) (ty := .int) (C := R_Wh) (T := F_Wh) (N := 2) hx hb hts i_Wh t_Wh t_Wh_ok n_Wh hown hK hP hD hS 0 rfl rfl 1 (by decide) (hts _ (big_in mw_94 rfl)) (fun _ h9 => h9) rfl (by decide +kernel) rfl rfl (Nat.le_of_ble_eq_true rfl) d_Wh_productOf_64 (fun H locs hP hD hS => ?_)
        have hP : va_P D cls0 [(h, .inr (0, [.ref a, .int (iZ ((k1 : Int) + (k2 : Int)))])), (a, .inl (cI, n, .inl g)), (h1, .inr (0, [.ref a1, .int (iZ (k1 : Int))])), (a1, .inl (cI, n1, .inl f1)), (h2, .inr (0, [.ref a2, .int (iZ (k2 : Int))])), (a2, .inl (cI, n2, .inl f2))] H := hP
        have hD : va_D A [(h, .inr (0, [.ref a, .int (iZ ((k1 : Int) + (k2 : Int)))])), (a, .inl (cI, n, .inl g)), (h1, .inr (0, [.ref a1, .int (iZ (k1 : Int))])), (a1, .inl (cI, n1, .inl f1)), (h2, .inr (0, [.ref a2, .int (iZ (k2 : Int))])), (a2, .inl (cI, n2, .inl f2))] := hD
        refine lv_aload_n hx hb d_Wh_productOf_67 rfl (lv_at hl 0 rfl) ?_
        rw [show ((k1 : Int) + (k2 : Int) : Int) = ((k1 + k2 : Nat) : Int) by omega] at hP hD
        refine cv (n := 0) (wr := [(h1, .inr (0, [.ref a1, .int (iZ (k1 : Int))])), (a1, .inl (cI, n1, .inl f1)), (h2, .inr (0, [.ref a2, .int (iZ (k2 : Int))])), (a2, .inl (cI, n2, .inl f2))]) (w1 := (fun (u : Nat) => [(h, .inr (0, [.ref a, .int (iZ (u : Int))])), (a, .inl (cI, n, .inl g))])) (As := []) (rest := []) K hP hD hK hS hA hl.1 (c_Wh_trim l D h a (k1 + k2) n g cI H.size (by omega) (by omega)) [0, 1] [2, 3, 4, 5] [0] rfl rfl rfl (by decide) (by decide) (by decide) 0 rfl rfl (big_in mw_385 rfl) (big_in mw_6 rfl) (big_in mw_382 rfl) (big_in mw_384 rfl) (big_in sp_1 rfl) rfl rfl (by decide +kernel) ⟨by rw [hR]; exact Nat.le_of_ble_eq_true rfl, by rw [hR]; exact Nat.le_of_ble_eq_true rfl⟩ rfl (Nat.le_of_ble_eq_true rfl) d_Wh_productOf_68 ⟨by rw [hR]; exact Nat.le_of_ble_eq_true rfl, by rw [hR]; exact Nat.le_of_ble_eq_true rfl⟩ rfl (fun v u H locs hp3 hP hD hS _ => ?_)
        obtain ⟨u, rfl⟩ : ∃ z, z = u := ⟨_, rfl⟩
        obtain ⟨rfl, g1, g2, g3⟩ := hp3
        have hP : va_P D cls0 [(h1, .inr (0, [.ref a1, .int (iZ (k1 : Int))])), (a1, .inl (cI, n1, .inl f1)), (h2, .inr (0, [.ref a2, .int (iZ (k2 : Int))])), (a2, .inl (cI, n2, .inl f2)), (h, .inr (0, [.ref a, .int (iZ (u : Int))])), (a, .inl (cI, n, .inl g))] H := hP
        have hD : va_D A [(h1, .inr (0, [.ref a1, .int (iZ (k1 : Int))])), (a1, .inl (cI, n1, .inl f1)), (h2, .inr (0, [.ref a2, .int (iZ (k2 : Int))])), (a2, .inl (cI, n2, .inl f2)), (h, .inr (0, [.ref a, .int (iZ (u : Int))])), (a, .inl (cI, n, .inl g))] := hD
        show W p l e R s m args below meth c H locs _ _ Q (F0 m 71 ls [])
        have hP9 : va_P D cls0 [(h, .inr (0, [.ref a, .int (iZ (u : Int))])), (a, .inl (cI, n, .inl g)), (h1, .inr (0, [.ref a1, .int (iZ (k1 : Int))])), (a1, .inl (cI, n1, .inl f1)), (h2, .inr (0, [.ref a2, .int (iZ (k2 : Int))])), (a2, .inl (cI, n2, .inl f2))] H := hP.sub [4, 5, 0, 1, 2, 3] rfl
        have hD9 : va_D A [(h, .inr (0, [.ref a, .int (iZ (u : Int))])), (a, .inl (cI, n, .inl g)), (h1, .inr (0, [.ref a1, .int (iZ (k1 : Int))])), (a1, .inl (cI, n1, .inl f1)), (h2, .inr (0, [.ref a2, .int (iZ (k2 : Int))])), (a2, .inl (cI, n2, .inl f2))] := hD.sub [4, 5, 0, 1, 2, 3] (by decide) rfl
        rw [hQ, ← hAe]
        refine r_v K (u, g) hS d_Wh_productOf_71 ?_ (fun t ht hv => ?_)
        · try dsimp only
          have ei : i = k1 := by omega
          subst ei
          exact ⟨rfl, Rp.trimmed (by rw [iv, r1.1, r2.1]) g1 g2 g3, g1⟩
        · exact ⟨by rw [ht]; exact hP9, va_K.moved hv hK, by rw [← hAe]; exact hD9⟩
      · refine lv_aload_n hx hb d_Wh_productOf_37 rfl (lv_at hl 0 rfl) ?_
        refine lv_aload_n hx hb d_Wh_productOf_38 rfl (lv_at hl 2 rfl) ?_
        refine lv_aload_n hx hb d_Wh_productOf_39 rfl (lv_at hl 1 rfl) ?_
        refine va_get (D := D) (ci := 0) (v := .ref a1) (C := R_Wh) (T := F_Wh) (N := 2) hx hb hts i_Wh hown hK hP 2 rfl rfl 0 (by decide) (hts _ (big_in mw_90 rfl)) (fun _ h9 => h9) rfl d_Wh_productOf_40 ?_
        refine lv_iload hx hb d_Wh_productOf_43 (lv_at hl 4 rfl) ?_
        refine zz_iald hx hb hK hP 3 0 rfl rfl (i) (by omega) (by omega) (by omega) d_Wh_productOf_45 ?_
        refine lv_i2l (v := (f1 i).toInt64) hx hb d_Wh_productOf_46 rfl ?_
        refine lv_ldc2 (v := 4294967295) hx hb hown (hts _ (big_in mw_398 rfl)) d_Wh_productOf_47 ?_
        refine zz_mask hx hb d_Wh_productOf_50 ?_
        have bw50 := uwZ (f1 i)
        refine lv_iload hx hb d_Wh_productOf_51 (lv_at hl 4 rfl) ?_
        rw [show ((uw (f1 i) : Int) : Int) = ((uw (f1 i) : Nat) : Int) by omega]
        refine cv (n := 3) (wr := [(h1, .inr (0, [.ref a1, .int (iZ (k1 : Int))])), (a1, .inl (cI, n1, .inl f1))]) (w1 := (fun (u : (Nat → Int32)) => [(h, .inr (0, [.ref a, .int q])), (a, .inl (cI, n, .inl u)), (h2, .inr (0, [.ref a2, .int (iZ (k2 : Int))])), (a2, .inl (cI, n2, .inl f2))])) (As := [.ref h2, .long (lZ ((uw (f1 i) : Nat) : Int)), .int (iZ (i : Int))]) (rest := []) K hP hD hK hS hA hl.1 (c_Wh_addMultiple l D h a q n g h2 a2 k2 n2 f2 cI (uw (f1 i)) i H.size (uw_lt _) (by omega) (by omega) (by omega) (by omega)) [0, 1, 4, 5] [2, 3] [0] rfl rfl rfl (by decide) (by decide) (by decide) 0 rfl rfl (big_in mw_858 rfl) (big_in mw_6 rfl) (big_in mw_855 rfl) (big_in mw_857 rfl) (big_in sp_12 rfl) rfl rfl (by decide +kernel) ⟨by rw [hR]; exact Nat.le_of_ble_eq_true rfl, by rw [hR]; exact Nat.le_of_ble_eq_true rfl⟩ rfl (Nat.le_of_ble_eq_true rfl) d_Wh_productOf_53 ⟨by rw [hR]; exact Nat.le_of_ble_eq_true rfl, by rw [hR]; exact Nat.le_of_ble_eq_true rfl⟩ rfl (fun v u H locs hp4 hP hD hS _ => ?_)
        obtain ⟨g2, rfl⟩ : ∃ z, z = u := ⟨_, rfl⟩
        obtain ⟨rfl, p1, p2, p3⟩ := hp4
        have hP : va_P D cls0 [(h1, .inr (0, [.ref a1, .int (iZ (k1 : Int))])), (a1, .inl (cI, n1, .inl f1)), (h, .inr (0, [.ref a, .int q])), (a, .inl (cI, n, .inl g2)), (h2, .inr (0, [.ref a2, .int (iZ (k2 : Int))])), (a2, .inl (cI, n2, .inl f2))] H := hP
        have hD : va_D A [(h1, .inr (0, [.ref a1, .int (iZ (k1 : Int))])), (a1, .inl (cI, n1, .inl f1)), (h, .inr (0, [.ref a, .int q])), (a, .inl (cI, n, .inl g2)), (h2, .inr (0, [.ref a2, .int (iZ (k2 : Int))])), (a2, .inl (cI, n2, .inl f2))] := hD
        show W p l e R s m args below meth c H locs _ _ Q (F0 m 56 ls [])
        refine lv_iinc (v := iZ ((i : Int) + 1)) (lv' := [(4, .int (iZ ((i : Int) + 1))), (0, .ref h), (1, .ref h1), (2, .ref h2), (3, .int (iZ ((k1 : Int) + (k2 : Int))))]) hx hb d_Wh_productOf_56 hl (k := 4) rfl (iZ_add _ _) (by decide) rfl (fun ls hl => ?_)
        refine lv_goto (tgt := 28) hx hb d_Wh_productOf_59 (by decide) ?_
        rw [show ((i : Int) + 1 : Int) = ((i + 1 : Nat) : Int) by omega] at hl
        exact ih (i + 1) g2 _ _ _ (by omega) (by omega) (fun j h1 h2 => by rw [p2 j (by omega)]; exact iz j (by omega) h2) (pr_step iv p1 p3) (hP.sub (ws' := [(h, .inr (0, [.ref a, .int q])), (a, .inl (cI, n, .inl g2)), (h1, .inr (0, [.ref a1, .int (iZ (k1 : Int))])), (a1, .inl (cI, n1, .inl f1)), (h2, .inr (0, [.ref a2, .int (iZ (k2 : Int))])), (a2, .inl (cI, n2, .inl f2))]) [2, 3, 0, 1, 4, 5] rfl) (hD.sub (ws' := [(h, .inr (0, [.ref a, .int q])), (a, .inl (cI, n, .inl g2)), (h1, .inr (0, [.ref a1, .int (iZ (k1 : Int))])), (a1, .inl (cI, n1, .inl f1)), (h2, .inr (0, [.ref a2, .int (iZ (k2 : Int))])), (a2, .inl (cI, n2, .inl f2))]) [2, 3, 0, 1, 4, 5] (by decide) rfl) hS (lv_sub hl [1, 2, 3, 4, 0] rfl)
  exact L28 _ 0 (fillF f 0 (k1 + k2) (iZ 0)) _ _ _ (Nat.lt_succ_self _) (Nat.zero_le _) (fun j h1 h2 => by rw [fillF_in (by omega) (by omega)]; rfl) (by rw [vV_0, Nat.zero_mul]; exact (vV_zeros (n := 0) (by omega) (fun j h1 h2 => by rw [fillF_in (by omega) (by omega)]; rfl))) (hP.sub (ws' := [(h, .inr (0, [.ref a, .int q])), (a, .inl (cI, n, .inl (fillF f 0 (k1 + k2) (iZ 0)))), (h1, .inr (0, [.ref a1, .int (iZ (k1 : Int))])), (a1, .inl (cI, n1, .inl f1)), (h2, .inr (0, [.ref a2, .int (iZ (k2 : Int))])), (a2, .inl (cI, n2, .inl f2))]) [4, 5, 0, 1, 2, 3] rfl) (hD.sub (ws' := [(h, .inr (0, [.ref a, .int q])), (a, .inl (cI, n, .inl (fillF f 0 (k1 + k2) (iZ 0)))), (h1, .inr (0, [.ref a1, .int (iZ (k1 : Int))])), (a1, .inl (cI, n1, .inl f1)), (h2, .inr (0, [.ref a2, .int (iZ (k2 : Int))])), (a2, .inl (cI, n2, .inl f2))]) [4, 5, 0, 1, 2, 3] (by decide) rfl) hS (lv_sub hl [2, 3, 4, 1, 0] rfl)
set_option maxHeartbeats 4000000 in
set_option maxRecDepth 100000 in
/-- productOf(a, b), a row by itself -/
theorem c_Wh_productSq (l : Launch) (D : va_G) (h : Nat) (a : Nat) (q : Int32) (n : Nat) (f : Nat → Int32) (h2 : Nat) (a2 : Nat) (k2 : Nat) (n2 : Nat) (f2 : Nat → Int32) (cI : ClassId) (v2 : Nat) (sz : Nat) (r2 : Rp f2 k2 v2) (hk2 : k2 ≤ n2) (hn : n < 1000000) (hn2 : n2 < 1000000) (hk : k2 + k2 ≤ n) : Met l y_Wh_productOf (wsB y_Wh_productOf b_Wh_productOf 5 none) ({ frames := 2, cells := 0, slots := 0, locals := 48 }) (va_Pc [.ref h, .ref h2, .ref h2] (wPre D [(cI, .int)] [(h, .inr (0, [.ref a, .int q])), (a, .inl (cI, n, .inl f)), (h2, .inr (0, [.ref a2, .int (iZ (k2 : Int))])), (a2, .inl (cI, n2, .inl f2))] sz)) (va_QV (fun (v9 : Option Value) (u9 : Nat × (Nat → Int32)) => v9 = none ∧ (Rp u9.2 u9.1 (v2 * v2)) ∧ (u9.1 ≤ k2 + k2)) (fun u9 => wPost D [(cI, .int)] [(h, .inr (0, [.ref a, .int q])), (a, .inl (cI, n, .inl f)), (h2, .inr (0, [.ref a2, .int (iZ (k2 : Int))])), (a2, .inl (cI, n2, .inl f2))] [(h, .inr (0, [.ref a, .int (iZ (u9.1 : Int))])), (a, .inl (cI, n, .inl u9.2)), (h2, .inr (0, [.ref a2, .int (iZ (k2 : Int))])), (a2, .inl (cI, n2, .inl f2))] sz) (va_A [(h, .inr (0, [.ref a, .int q])), (a, .inl (cI, n, .inl f)), (h2, .inr (0, [.ref a2, .int (iZ (k2 : Int))])), (a2, .inl (cI, n2, .inl f2))] sz)) 0 0 (va_A [(h, .inr (0, [.ref a, .int q])), (a, .inl (cI, n, .inl f)), (h2, .inr (0, [.ref a2, .int (iZ (k2 : Int))])), (a2, .inl (cI, n2, .inl f2))] sz) := by
  refine met_enter (by decide +kernel) (Nat.le_of_ble_eq_true rfl) ?_
  intro p e s m args below meth c ls A R Q H locs K hin hAe hA hR hQ hP hK hD hS hl
  obtain ⟨hx, hb, hml, hrt, hlk, hts, hown, hno⟩ := id K
  have hl : lv_has ls 5 [(0, .ref h), (1, .ref h2), (2, .ref h2)] := hl
  refine lv_aload_n hx hb d_Wh_productOf_0 rfl (lv_at hl 1 rfl) ?_
  refine va_get (D := D) (ci := 0) (v := .int (iZ (k2 : Int))) (C := R_Wh) (T := F_Wh) (N := 2) hx hb hts i_Wh hown hK hP 2 rfl rfl 1 (by decide) (hts _ (big_in mw_94 rfl)) (fun _ h9 => h9) rfl d_Wh_productOf_1 ?_
  refine lv_aload_n hx hb d_Wh_productOf_4 rfl (lv_at hl 2 rfl) ?_
  refine va_get (D := D) (ci := 0) (v := .int (iZ (k2 : Int))) (C := R_Wh) (T := F_Wh) (N := 2) hx hb hts i_Wh hown hK hP 2 rfl rfl 1 (by decide) (hts _ (big_in mw_94 rfl)) (fun _ h9 => h9) rfl d_Wh_productOf_5 ?_
  refine zz_iadd hx hb d_Wh_productOf_8 ?_
  refine lv_istore_n (lv' := [(3, .int (iZ ((k2 : Int) + (k2 : Int)))), (0, .ref h), (1, .ref h2), (2, .ref h2)]) hx hb d_Wh_productOf_9 rfl hl (by decide) rfl (fun ls hl => ?_)
  refine lv_aload_n hx hb d_Wh_productOf_10 rfl (lv_at hl 1 rfl) ?_
  refine lv_iload_n hx hb d_Wh_productOf_11 rfl (lv_at hl 0 rfl) ?_
  refine cv (n := 1) (wr := [(h2, .inr (0, [.ref a2, .int (iZ (k2 : Int))])), (a2, .inl (cI, n2, .inl f2))]) (w1 := (fun (u : Unit) => [(h, .inr (0, [.ref a, .int q])), (a, .inl (cI, n, .inl f))])) (As := [.int (iZ ((k2 : Int) + (k2 : Int)))]) (rest := []) K hP hD hK hS hA hl.1 (c_Wh_claim l D h a q n f cI ((k2 : Int) + (k2 : Int)) H.size (by omega) (by omega)) [0, 1] [2, 3] [0] rfl rfl rfl (by decide) (by decide) (by decide) 0 rfl rfl (big_in mw_406 rfl) (big_in mw_6 rfl) (big_in mw_403 rfl) (big_in mw_405 rfl) (big_in sp_2 rfl) rfl rfl (by decide +kernel) ⟨by rw [hR]; exact Nat.le_of_ble_eq_true rfl, by rw [hR]; exact Nat.le_of_ble_eq_true rfl⟩ rfl (Nat.le_of_ble_eq_true rfl) d_Wh_productOf_12 ⟨by rw [hR]; exact Nat.le_of_ble_eq_true rfl, by rw [hR]; exact Nat.le_of_ble_eq_true rfl⟩ rfl (fun v u H locs hp1 hP hD hS _ => ?_)
  obtain rfl := hp1
  have hP : va_P D cls0 [(h2, .inr (0, [.ref a2, .int (iZ (k2 : Int))])), (a2, .inl (cI, n2, .inl f2)), (h, .inr (0, [.ref a, .int q])), (a, .inl (cI, n, .inl f))] H := hP
  have hD : va_D A [(h2, .inr (0, [.ref a2, .int (iZ (k2 : Int))])), (a2, .inl (cI, n2, .inl f2)), (h, .inr (0, [.ref a, .int q])), (a, .inl (cI, n, .inl f))] := hD
  show W p l e R s m args below meth c H locs _ _ Q (F0 m 15 ls [])
  refine lv_aload_n hx hb d_Wh_productOf_15 rfl (lv_at hl 1 rfl) ?_
  refine va_get (D := D) (ci := 0) (v := .ref a) (C := R_Wh) (T := F_Wh) (N := 2) hx hb hts i_Wh hown hK hP 2 rfl rfl 0 (by decide) (hts _ (big_in mw_90 rfl)) (fun _ h9 => h9) rfl d_Wh_productOf_16 ?_
  refine lv_iconst (v := iZ (0)) hx hb d_Wh_productOf_19 (by decide +kernel) ?_
  refine lv_iload_n hx hb d_Wh_productOf_20 rfl (lv_at hl 0 rfl) ?_
  refine lv_iconst (v := iZ (0)) hx hb d_Wh_productOf_21 (by decide +kernel) ?_
  rw [show ((k2 : Int) + (k2 : Int) : Int) = ((k2 + k2 : Nat) : Int) by omega]
  refine cs (n := 4) (wr := [(h2, .inr (0, [.ref a2, .int (iZ (k2 : Int))])), (a2, .inl (cI, n2, .inl f2)), (h, .inr (0, [.ref a, .int q]))]) (w1 := (fun (u : Unit) => [(a, .inl (cI, n, .inl (fillF f 0 (k2 + k2) (iZ 0))))])) (As := [.ref a, .int (iZ 0), .int (iZ ((k2 + k2 : Nat) : Int)), .int (iZ 0)]) (rest := []) K hP hD hK hS hA hl.1 (c_jArr_fill l D a n f cI 0 (k2 + k2) (iZ 0) H.size (by omega) (by omega) (by omega)) [3] [0, 1, 2] [0] rfl rfl rfl (by decide) (by decide) (by decide) (big_in mw_460 rfl) (big_in mw_19 rfl) (big_in mw_458 rfl) (big_in mw_459 rfl) rfl rfl (by decide +kernel) ⟨by rw [hR]; exact Nat.le_of_ble_eq_true rfl, by rw [hR]; exact Nat.le_of_ble_eq_true rfl⟩ rfl (Nat.le_of_ble_eq_true rfl) d_Wh_productOf_22 ⟨by rw [hR]; exact Nat.le_of_ble_eq_true rfl, by rw [hR]; exact Nat.le_of_ble_eq_true rfl⟩ rfl (fun v u H locs hp2 hP hD hS _ => ?_)
  obtain rfl := hp2
  have hP : va_P D cls0 [(h2, .inr (0, [.ref a2, .int (iZ (k2 : Int))])), (a2, .inl (cI, n2, .inl f2)), (h, .inr (0, [.ref a, .int q])), (a, .inl (cI, n, .inl (fillF f 0 (k2 + k2) (iZ 0))))] H := hP
  have hD : va_D A [(h2, .inr (0, [.ref a2, .int (iZ (k2 : Int))])), (a2, .inl (cI, n2, .inl f2)), (h, .inr (0, [.ref a, .int q])), (a, .inl (cI, n, .inl (fillF f 0 (k2 + k2) (iZ 0))))] := hD
  show W p l e R s m args below meth c H locs _ _ Q (F0 m 25 ls [])
  refine lv_iconst (v := iZ (0)) hx hb d_Wh_productOf_25 (by decide +kernel) ?_
  refine lv_istore (lv' := [(4, .int (iZ 0)), (3, .int (iZ ((k2 : Int) + (k2 : Int)))), (0, .ref h), (1, .ref h2), (2, .ref h2)]) hx hb d_Wh_productOf_26 hl (by decide) rfl (fun ls hl => ?_)
  have L28 : ∀ (N : Nat) (i : Nat) (g : Nat → Int32) (H : Heap) (locs : List Loc) (ls : Array Slot), k2 - i < N → (i ≤ k2) → (∀ j, i + k2 ≤ j → j < k2 + k2 → g j = 0) → (vV g (i + k2) = vV f2 i * vV f2 k2) → va_P D cls0 [(h, .inr (0, [.ref a, .int q])), (a, .inl (cI, n, .inl g)), (h2, .inr (0, [.ref a2, .int (iZ (k2 : Int))])), (a2, .inl (cI, n2, .inl f2))] H → va_D A [(h, .inr (0, [.ref a, .int q])), (a, .inl (cI, n, .inl g)), (h2, .inr (0, [.ref a2, .int (iZ (k2 : Int))])), (a2, .inl (cI, n2, .inl f2))] → va_S A s.heap H locs → lv_has ls 5 [(0, .ref h), (1, .ref h2), (2, .ref h2), (3, .int (iZ ((k2 : Int) + (k2 : Int)))), (4, .int (iZ (i : Int)))] → W p l e R s m args below meth c H locs 0 0 Q (F0 m 28 ls []) := by
    intro N
    induction N with
    | zero => intro i g H locs ls hN; exact absurd hN (Nat.not_lt_zero _)
    | succ N ih =>
      intro i g H locs ls hN ii iz iv hP hD hS hl
      refine lv_iload hx hb d_Wh_productOf_28 (lv_at hl 4 rfl) ?_
      refine lv_aload_n hx hb d_Wh_productOf_30 rfl (lv_at hl 1 rfl) ?_
      refine va_get (D := D) (ci := 0) (v := .int (iZ (k2 : Int))) (C := R_Wh) (T := F_Wh) (N := 2) hx hb hts i_Wh hown hK hP 2 rfl rfl 1 (by decide) (hts _ (big_in mw_94 rfl)) (fun _ h9 => h9) rfl d_Wh_productOf_31 ?_
      refine zz_icmp_ge (tgt := 62) hx hb d_Wh_productOf_34 (by decide) (by omega) (by omega) (fun c34 => ?_) (fun c34 => ?_)
      · refine lv_aload_n hx hb d_Wh_productOf_62 rfl (lv_at hl 0 rfl) ?_
        refine lv_iload_n hx hb d_Wh_productOf_63 rfl (lv_at hl 3 rfl) ?_
        refine va_put (D := D) (ci := 0) (v := .int (iZ ((k2 : Int) + (k2 : Int)))) (ty := .int) (C := R_Wh) (T := F_Wh) (N := 2) hx hb hts i_Wh t_Wh t_Wh_ok n_Wh hown hK hP hD hS 0 rfl rfl 1 (by decide) (hts _ (big_in mw_94 rfl)) (fun _ h9 => h9) rfl (by decide +kernel) rfl rfl (Nat.le_of_ble_eq_true rfl) d_Wh_productOf_64 (fun H locs hP hD hS => ?_)
        have hP : va_P D cls0 [(h, .inr (0, [.ref a, .int (iZ ((k2 : Int) + (k2 : Int)))])), (a, .inl (cI, n, .inl g)), (h2, .inr (0, [.ref a2, .int (iZ (k2 : Int))])), (a2, .inl (cI, n2, .inl f2))] H := hP
        have hD : va_D A [(h, .inr (0, [.ref a, .int (iZ ((k2 : Int) + (k2 : Int)))])), (a, .inl (cI, n, .inl g)), (h2, .inr (0, [.ref a2, .int (iZ (k2 : Int))])), (a2, .inl (cI, n2, .inl f2))] := hD
        refine lv_aload_n hx hb d_Wh_productOf_67 rfl (lv_at hl 0 rfl) ?_
        rw [show ((k2 : Int) + (k2 : Int) : Int) = ((k2 + k2 : Nat) : Int) by omega] at hP hD
        refine cv (n := 0) (wr := [(h2, .inr (0, [.ref a2, .int (iZ (k2 : Int))])), (a2, .inl (cI, n2, .inl f2))]) (w1 := (fun (u : Nat) => [(h, .inr (0, [.ref a, .int (iZ (u : Int))])), (a, .inl (cI, n, .inl g))])) (As := []) (rest := []) K hP hD hK hS hA hl.1 (c_Wh_trim l D h a (k2 + k2) n g cI H.size (by omega) (by omega)) [0, 1] [2, 3] [0] rfl rfl rfl (by decide) (by decide) (by decide) 0 rfl rfl (big_in mw_385 rfl) (big_in mw_6 rfl) (big_in mw_382 rfl) (big_in mw_384 rfl) (big_in sp_1 rfl) rfl rfl (by decide +kernel) ⟨by rw [hR]; exact Nat.le_of_ble_eq_true rfl, by rw [hR]; exact Nat.le_of_ble_eq_true rfl⟩ rfl (Nat.le_of_ble_eq_true rfl) d_Wh_productOf_68 ⟨by rw [hR]; exact Nat.le_of_ble_eq_true rfl, by rw [hR]; exact Nat.le_of_ble_eq_true rfl⟩ rfl (fun v u H locs hp3 hP hD hS _ => ?_)
        obtain ⟨u, rfl⟩ : ∃ z, z = u := ⟨_, rfl⟩
        obtain ⟨rfl, g1, g2, g3⟩ := hp3
        have hP : va_P D cls0 [(h2, .inr (0, [.ref a2, .int (iZ (k2 : Int))])), (a2, .inl (cI, n2, .inl f2)), (h, .inr (0, [.ref a, .int (iZ (u : Int))])), (a, .inl (cI, n, .inl g))] H := hP
        have hD : va_D A [(h2, .inr (0, [.ref a2, .int (iZ (k2 : Int))])), (a2, .inl (cI, n2, .inl f2)), (h, .inr (0, [.ref a, .int (iZ (u : Int))])), (a, .inl (cI, n, .inl g))] := hD
        show W p l e R s m args below meth c H locs _ _ Q (F0 m 71 ls [])
        have hP9 : va_P D cls0 [(h, .inr (0, [.ref a, .int (iZ (u : Int))])), (a, .inl (cI, n, .inl g)), (h2, .inr (0, [.ref a2, .int (iZ (k2 : Int))])), (a2, .inl (cI, n2, .inl f2))] H := hP.sub [2, 3, 0, 1] rfl
        have hD9 : va_D A [(h, .inr (0, [.ref a, .int (iZ (u : Int))])), (a, .inl (cI, n, .inl g)), (h2, .inr (0, [.ref a2, .int (iZ (k2 : Int))])), (a2, .inl (cI, n2, .inl f2))] := hD.sub [2, 3, 0, 1] (by decide) rfl
        rw [hQ, ← hAe]
        refine r_v K (u, g) hS d_Wh_productOf_71 ?_ (fun t ht hv => ?_)
        · try dsimp only
          have ei : i = k2 := by omega
          subst ei
          exact ⟨rfl, Rp.trimmed (by rw [iv, r2.1]) g1 g2 g3, g1⟩
        · exact ⟨by rw [ht]; exact hP9, va_K.moved hv hK, by rw [← hAe]; exact hD9⟩
      · refine lv_aload_n hx hb d_Wh_productOf_37 rfl (lv_at hl 0 rfl) ?_
        refine lv_aload_n hx hb d_Wh_productOf_38 rfl (lv_at hl 2 rfl) ?_
        refine lv_aload_n hx hb d_Wh_productOf_39 rfl (lv_at hl 1 rfl) ?_
        refine va_get (D := D) (ci := 0) (v := .ref a2) (C := R_Wh) (T := F_Wh) (N := 2) hx hb hts i_Wh hown hK hP 2 rfl rfl 0 (by decide) (hts _ (big_in mw_90 rfl)) (fun _ h9 => h9) rfl d_Wh_productOf_40 ?_
        refine lv_iload hx hb d_Wh_productOf_43 (lv_at hl 4 rfl) ?_
        refine zz_iald hx hb hK hP 3 0 rfl rfl (i) (by omega) (by omega) (by omega) d_Wh_productOf_45 ?_
        refine lv_i2l (v := (f2 i).toInt64) hx hb d_Wh_productOf_46 rfl ?_
        refine lv_ldc2 (v := 4294967295) hx hb hown (hts _ (big_in mw_398 rfl)) d_Wh_productOf_47 ?_
        refine zz_mask hx hb d_Wh_productOf_50 ?_
        have bw50 := uwZ (f2 i)
        refine lv_iload hx hb d_Wh_productOf_51 (lv_at hl 4 rfl) ?_
        rw [show ((uw (f2 i) : Int) : Int) = ((uw (f2 i) : Nat) : Int) by omega]
        refine cv (n := 3) (wr := []) (w1 := (fun (u : (Nat → Int32)) => [(h, .inr (0, [.ref a, .int q])), (a, .inl (cI, n, .inl u)), (h2, .inr (0, [.ref a2, .int (iZ (k2 : Int))])), (a2, .inl (cI, n2, .inl f2))])) (As := [.ref h2, .long (lZ ((uw (f2 i) : Nat) : Int)), .int (iZ (i : Int))]) (rest := []) K hP hD hK hS hA hl.1 (c_Wh_addMultiple l D h a q n g h2 a2 k2 n2 f2 cI (uw (f2 i)) i H.size (uw_lt _) (by omega) (by omega) (by omega) (by omega)) [0, 1, 2, 3] [] [0] rfl rfl rfl (by decide) (by decide) (by decide) 0 rfl rfl (big_in mw_858 rfl) (big_in mw_6 rfl) (big_in mw_855 rfl) (big_in mw_857 rfl) (big_in sp_12 rfl) rfl rfl (by decide +kernel) ⟨by rw [hR]; exact Nat.le_of_ble_eq_true rfl, by rw [hR]; exact Nat.le_of_ble_eq_true rfl⟩ rfl (Nat.le_of_ble_eq_true rfl) d_Wh_productOf_53 ⟨by rw [hR]; exact Nat.le_of_ble_eq_true rfl, by rw [hR]; exact Nat.le_of_ble_eq_true rfl⟩ rfl (fun v u H locs hp4 hP hD hS _ => ?_)
        obtain ⟨g2, rfl⟩ : ∃ z, z = u := ⟨_, rfl⟩
        obtain ⟨rfl, p1, p2, p3⟩ := hp4
        have hP : va_P D cls0 [(h, .inr (0, [.ref a, .int q])), (a, .inl (cI, n, .inl g2)), (h2, .inr (0, [.ref a2, .int (iZ (k2 : Int))])), (a2, .inl (cI, n2, .inl f2))] H := hP
        have hD : va_D A [(h, .inr (0, [.ref a, .int q])), (a, .inl (cI, n, .inl g2)), (h2, .inr (0, [.ref a2, .int (iZ (k2 : Int))])), (a2, .inl (cI, n2, .inl f2))] := hD
        show W p l e R s m args below meth c H locs _ _ Q (F0 m 56 ls [])
        refine lv_iinc (v := iZ ((i : Int) + 1)) (lv' := [(4, .int (iZ ((i : Int) + 1))), (0, .ref h), (1, .ref h2), (2, .ref h2), (3, .int (iZ ((k2 : Int) + (k2 : Int))))]) hx hb d_Wh_productOf_56 hl (k := 4) rfl (iZ_add _ _) (by decide) rfl (fun ls hl => ?_)
        refine lv_goto (tgt := 28) hx hb d_Wh_productOf_59 (by decide) ?_
        rw [show ((i : Int) + 1 : Int) = ((i + 1 : Nat) : Int) by omega] at hl
        exact ih (i + 1) g2 _ _ _ (by omega) (by omega) (fun j h1 h2 => by rw [p2 j (by omega)]; exact iz j (by omega) h2) (pr_step iv p1 p3) (hP.sub (ws' := [(h, .inr (0, [.ref a, .int q])), (a, .inl (cI, n, .inl g2)), (h2, .inr (0, [.ref a2, .int (iZ (k2 : Int))])), (a2, .inl (cI, n2, .inl f2))]) [0, 1, 2, 3] rfl) (hD.sub (ws' := [(h, .inr (0, [.ref a, .int q])), (a, .inl (cI, n, .inl g2)), (h2, .inr (0, [.ref a2, .int (iZ (k2 : Int))])), (a2, .inl (cI, n2, .inl f2))]) [0, 1, 2, 3] (by decide) rfl) hS (lv_sub hl [1, 2, 3, 4, 0] rfl)
  exact L28 _ 0 (fillF f 0 (k2 + k2) (iZ 0)) _ _ _ (Nat.lt_succ_self _) (Nat.zero_le _) (fun j h1 h2 => by rw [fillF_in (by omega) (by omega)]; rfl) (by rw [vV_0, Nat.zero_mul]; exact (vV_zeros (n := 0) (by omega) (fun j h1 h2 => by rw [fillF_in (by omega) (by omega)]; rfl))) (hP.sub (ws' := [(h, .inr (0, [.ref a, .int q])), (a, .inl (cI, n, .inl (fillF f 0 (k2 + k2) (iZ 0)))), (h2, .inr (0, [.ref a2, .int (iZ (k2 : Int))])), (a2, .inl (cI, n2, .inl f2))]) [2, 3, 0, 1] rfl) (hD.sub (ws' := [(h, .inr (0, [.ref a, .int q])), (a, .inl (cI, n, .inl (fillF f 0 (k2 + k2) (iZ 0)))), (h2, .inr (0, [.ref a2, .int (iZ (k2 : Int))])), (a2, .inl (cI, n2, .inl f2))]) [2, 3, 0, 1] (by decide) rfl) hS (lv_sub hl [2, 3, 4, 1, 0] rfl)
set_option maxHeartbeats 4000000 in
set_option maxRecDepth 100000 in
/-- scale(factor, addend) -/
theorem c_Wh_scale (l : Launch) (D : va_G) (h : Nat) (a : Nat) (k : Nat) (n : Nat) (f : Nat → Int32) (cI : ClassId) (v : Nat) (w : Nat) (ad : Nat) (sz : Nat) (rv : Rp f k v) (hw : w < 2147483648) (ha : ad < 2147483648) (hk : k + 1 ≤ n) (hn : n < 1000000) : Met l y_Wh_scale (wsB y_Wh_scale b_Wh_scale 6 none) ({ frames := 1, cells := 0, slots := 0, locals := 21 }) (va_Pc [.ref h, .int (iZ (w : Int)), .int (iZ (ad : Int))] (wPre D [(cI, .int)] [(h, .inr (0, [.ref a, .int (iZ (k : Int))])), (a, .inl (cI, n, .inl f))] sz)) (va_QV (fun (v9 : Option Value) (u9 : Nat × (Nat → Int32)) => v9 = none ∧ (Rp u9.2 u9.1 (v * w + ad)) ∧ (u9.1 ≤ k + 1)) (fun u9 => wPost D [(cI, .int)] [(h, .inr (0, [.ref a, .int (iZ (k : Int))])), (a, .inl (cI, n, .inl f))] [(h, .inr (0, [.ref a, .int (iZ (u9.1 : Int))])), (a, .inl (cI, n, .inl u9.2))] sz) (va_A [(h, .inr (0, [.ref a, .int (iZ (k : Int))])), (a, .inl (cI, n, .inl f))] sz)) 0 0 (va_A [(h, .inr (0, [.ref a, .int (iZ (k : Int))])), (a, .inl (cI, n, .inl f))] sz) := by
  refine met_enter (by decide +kernel) (Nat.le_of_ble_eq_true rfl) ?_
  intro p e s m args below meth c ls A R Q H locs K hin hAe hA hR hQ hP hK hD hS hl
  obtain ⟨hx, hb, hml, hrt, hlk, hts, hown, hno⟩ := id K
  have hl : lv_has ls 6 [(0, .ref h), (1, .int (iZ (w : Int))), (2, .int (iZ (ad : Int)))] := hl
  refine lv_aload_n hx hb d_Wh_scale_0 rfl (lv_at hl 0 rfl) ?_
  refine lv_aload_n hx hb d_Wh_scale_1 rfl (lv_at hl 0 rfl) ?_
  refine va_get (D := D) (ci := 0) (v := .int (iZ (k : Int))) (C := R_Wh) (T := F_Wh) (N := 2) hx hb hts i_Wh hown hK hP 0 rfl rfl 1 (by decide) (hts _ (big_in mw_94 rfl)) (fun _ h9 => h9) rfl d_Wh_scale_2 ?_
  refine lv_iconst (v := iZ (1)) hx hb d_Wh_scale_5 (by decide +kernel) ?_
  refine zz_iadd hx hb d_Wh_scale_6 ?_
  refine cv (n := 1) (wr := []) (w1 := (fun (u : Unit) => [(h, .inr (0, [.ref a, .int (iZ (k : Int))])), (a, .inl (cI, n, .inl f))])) (As := [.int (iZ ((k : Int) + 1))]) (rest := []) K hP hD hK hS hA hl.1 (c_Wh_claim l D h a (iZ (k : Int)) n f cI ((k : Int) + 1) H.size (by omega) (by omega)) [0, 1] [] [0] rfl rfl rfl (by decide) (by decide) (by decide) 0 rfl rfl (big_in mw_406 rfl) (big_in mw_6 rfl) (big_in mw_403 rfl) (big_in mw_405 rfl) (big_in sp_2 rfl) rfl rfl (by decide +kernel) ⟨by rw [hR]; exact Nat.le_of_ble_eq_true rfl, by rw [hR]; exact Nat.le_of_ble_eq_true rfl⟩ rfl (Nat.le_of_ble_eq_true rfl) d_Wh_scale_7 ⟨by rw [hR]; exact Nat.le_of_ble_eq_true rfl, by rw [hR]; exact Nat.le_of_ble_eq_true rfl⟩ rfl (fun v u H locs hp1 hP hD hS _ => ?_)
  obtain rfl := hp1
  have hP : va_P D cls0 [(h, .inr (0, [.ref a, .int (iZ (k : Int))])), (a, .inl (cI, n, .inl f))] H := hP
  have hD : va_D A [(h, .inr (0, [.ref a, .int (iZ (k : Int))])), (a, .inl (cI, n, .inl f))] := hD
  show W p l e R s m args below meth c H locs _ _ Q (F0 m 10 ls [])
  refine lv_iload_n hx hb d_Wh_scale_10 rfl (lv_at hl 2 rfl) ?_
  refine zz_i2l hx hb d_Wh_scale_11 (by omega) ?_
  refine lv_lstore_n (lv' := [(3, .long (lZ (ad : Int))), (0, .ref h), (1, .int (iZ (w : Int))), (2, .int (iZ (ad : Int)))]) hx hb d_Wh_scale_12 rfl hl (by decide) rfl (fun ls hl => ?_)
  refine lv_iconst (v := iZ (0)) hx hb d_Wh_scale_13 (by decide +kernel) ?_
  refine lv_istore (lv' := [(5, .int (iZ 0)), (3, .long (lZ (ad : Int))), (0, .ref h), (1, .int (iZ (w : Int))), (2, .int (iZ (ad : Int)))]) hx hb d_Wh_scale_14 hl (by decide) rfl (fun ls hl => ?_)
  have L16 : ∀ (N : Nat) (i : Nat) (cr : Nat) (g : Nat → Int32) (H : Heap) (locs : List Loc) (ls : Array Slot), k - i < N → (i ≤ k) → (cr < 4294967296) → (∀ j, i ≤ j → g j = f j) → (vV g i + cr * pB i = vV f i * w + ad) → va_P D cls0 [(h, .inr (0, [.ref a, .int (iZ (k : Int))])), (a, .inl (cI, n, .inl g))] H → va_D A [(h, .inr (0, [.ref a, .int (iZ (k : Int))])), (a, .inl (cI, n, .inl g))] → va_S A s.heap H locs → lv_has ls 6 [(0, .ref h), (1, .int (iZ (w : Int))), (2, .int (iZ (ad : Int))), (3, .long (lZ (cr : Int))), (5, .int (iZ (i : Int)))] → W p l e R s m args below meth c H locs 0 0 Q (F0 m 16 ls []) := by
    intro N
    induction N with
    | zero => intro i cr g H locs ls hN; exact absurd hN (Nat.not_lt_zero _)
    | succ N ih =>
      intro i cr g H locs ls hN ii ic ig iv hP hD hS hl
      refine lv_iload hx hb d_Wh_scale_16 (lv_at hl 4 rfl) ?_
      refine lv_aload_n hx hb d_Wh_scale_18 rfl (lv_at hl 0 rfl) ?_
      refine va_get (D := D) (ci := 0) (v := .int (iZ (k : Int))) (C := R_Wh) (T := F_Wh) (N := 2) hx hb hts i_Wh hown hK hP 0 rfl rfl 1 (by decide) (hts _ (big_in mw_94 rfl)) (fun _ h9 => h9) rfl d_Wh_scale_19 ?_
      refine zz_icmp_ge (tgt := 63) hx hb d_Wh_scale_22 (by decide) (by omega) (by omega) (fun c22 => ?_) (fun c22 => ?_)
      · refine lv_aload_n hx hb d_Wh_scale_63 rfl (lv_at hl 0 rfl) ?_
        refine va_get (D := D) (ci := 0) (v := .ref a) (C := R_Wh) (T := F_Wh) (N := 2) hx hb hts i_Wh hown hK hP 0 rfl rfl 0 (by decide) (hts _ (big_in mw_90 rfl)) (fun _ h9 => h9) rfl d_Wh_scale_64 ?_
        refine lv_aload_n hx hb d_Wh_scale_67 rfl (lv_at hl 0 rfl) ?_
        refine va_get (D := D) (ci := 0) (v := .int (iZ (k : Int))) (C := R_Wh) (T := F_Wh) (N := 2) hx hb hts i_Wh hown hK hP 0 rfl rfl 1 (by decide) (hts _ (big_in mw_94 rfl)) (fun _ h9 => h9) rfl d_Wh_scale_68 ?_
        refine lv_lload_n hx hb d_Wh_scale_71 rfl (lv_at hl 3 rfl) ?_
        refine zz_l2i hx hb d_Wh_scale_72 ?_
        refine zz_iast hx hb hK hP hD hS 1 0 rfl rfl (k) (by omega) (by omega) (by omega) d_Wh_scale_73 (fun H locs hP hD hS => ?_)
        have hP : va_P D cls0 [(h, .inr (0, [.ref a, .int (iZ (k : Int))])), (a, .inl (cI, n, .inl (upd g k (iZ (cr : Int)))))] H := hP
        have hD : va_D A [(h, .inr (0, [.ref a, .int (iZ (k : Int))])), (a, .inl (cI, n, .inl (upd g k (iZ (cr : Int)))))] := hD
        refine lv_aload_n hx hb d_Wh_scale_74 rfl (lv_at hl 0 rfl) ?_
        refine lv_dup hx hb d_Wh_scale_75 rfl ?_
        refine va_get (D := D) (ci := 0) (v := .int (iZ (k : Int))) (C := R_Wh) (T := F_Wh) (N := 2) hx hb hts i_Wh hown hK hP 0 rfl rfl 1 (by decide) (hts _ (big_in mw_94 rfl)) (fun _ h9 => h9) rfl d_Wh_scale_76 ?_
        refine lv_iconst (v := iZ (1)) hx hb d_Wh_scale_79 (by decide +kernel) ?_
        refine zz_iadd hx hb d_Wh_scale_80 ?_
        refine va_put (D := D) (ci := 0) (v := .int (iZ ((k : Int) + 1))) (ty := .int) (C := R_Wh) (T := F_Wh) (N := 2) hx hb hts i_Wh t_Wh t_Wh_ok n_Wh hown hK hP hD hS 0 rfl rfl 1 (by decide) (hts _ (big_in mw_94 rfl)) (fun _ h9 => h9) rfl (by decide +kernel) rfl rfl (Nat.le_of_ble_eq_true rfl) d_Wh_scale_81 (fun H locs hP hD hS => ?_)
        have hP : va_P D cls0 [(h, .inr (0, [.ref a, .int (iZ ((k : Int) + 1))])), (a, .inl (cI, n, .inl (upd g k (iZ (cr : Int)))))] H := hP
        have hD : va_D A [(h, .inr (0, [.ref a, .int (iZ ((k : Int) + 1))])), (a, .inl (cI, n, .inl (upd g k (iZ (cr : Int)))))] := hD
        refine lv_aload_n hx hb d_Wh_scale_84 rfl (lv_at hl 0 rfl) ?_
        rw [show ((k : Int) + 1 : Int) = ((k + 1 : Nat) : Int) by omega] at hP hD
        refine cv (n := 0) (wr := []) (w1 := (fun (u : Nat) => [(h, .inr (0, [.ref a, .int (iZ (u : Int))])), (a, .inl (cI, n, .inl (upd g k (iZ (cr : Int)))))])) (As := []) (rest := []) K hP hD hK hS hA hl.1 (c_Wh_trim l D h a (k + 1) n (upd g k (iZ (cr : Int))) cI H.size (by omega) (by omega)) [0, 1] [] [0] rfl rfl rfl (by decide) (by decide) (by decide) 0 rfl rfl (big_in mw_385 rfl) (big_in mw_6 rfl) (big_in mw_382 rfl) (big_in mw_384 rfl) (big_in sp_1 rfl) rfl rfl (by decide +kernel) ⟨by rw [hR]; exact Nat.le_of_ble_eq_true rfl, by rw [hR]; exact Nat.le_of_ble_eq_true rfl⟩ rfl (Nat.le_of_ble_eq_true rfl) d_Wh_scale_85 ⟨by rw [hR]; exact Nat.le_of_ble_eq_true rfl, by rw [hR]; exact Nat.le_of_ble_eq_true rfl⟩ rfl (fun v u H locs hp2 hP hD hS _ => ?_)
        obtain ⟨u, rfl⟩ : ∃ z, z = u := ⟨_, rfl⟩
        obtain ⟨rfl, g1, g2, g3⟩ := hp2
        have hP : va_P D cls0 [(h, .inr (0, [.ref a, .int (iZ (u : Int))])), (a, .inl (cI, n, .inl (upd g k (iZ (cr : Int)))))] H := hP
        have hD : va_D A [(h, .inr (0, [.ref a, .int (iZ (u : Int))])), (a, .inl (cI, n, .inl (upd g k (iZ (cr : Int)))))] := hD
        show W p l e R s m args below meth c H locs _ _ Q (F0 m 88 ls [])
        have hP9 : va_P D cls0 [(h, .inr (0, [.ref a, .int (iZ (u : Int))])), (a, .inl (cI, n, .inl (upd g k (iZ (cr : Int)))))] H := hP.sub [0, 1] rfl
        have hD9 : va_D A [(h, .inr (0, [.ref a, .int (iZ (u : Int))])), (a, .inl (cI, n, .inl (upd g k (iZ (cr : Int)))))] := hD.sub [0, 1] (by decide) rfl
        rw [hQ, ← hAe]
        refine r_v K (u, (upd g k (iZ (cr : Int)))) hS d_Wh_scale_88 ?_ (fun t ht hv => ?_)
        · try dsimp only
          have ei : i = k := by omega
          subst ei
          exact ⟨rfl, Rp.trimmed (by rw [vV_updS, uw_of_nat ic, iv, rv.1]) g1 g2 g3, g1⟩
        · exact ⟨by rw [ht]; exact hP9, va_K.moved hv hK, by rw [← hAe]; exact hD9⟩
      · refine lv_lload_n hx hb d_Wh_scale_25 rfl (lv_at hl 3 rfl) ?_
        refine lv_iload_n hx hb d_Wh_scale_26 rfl (lv_at hl 1 rfl) ?_
        refine zz_i2l hx hb d_Wh_scale_27 (by omega) ?_
        refine lv_aload_n hx hb d_Wh_scale_28 rfl (lv_at hl 0 rfl) ?_
        refine va_get (D := D) (ci := 0) (v := .ref a) (C := R_Wh) (T := F_Wh) (N := 2) hx hb hts i_Wh hown hK hP 0 rfl rfl 0 (by decide) (hts _ (big_in mw_90 rfl)) (fun _ h9 => h9) rfl d_Wh_scale_29 ?_
        refine lv_iload hx hb d_Wh_scale_32 (lv_at hl 4 rfl) ?_
        refine zz_iald hx hb hK hP 1 0 rfl rfl (i) (by omega) (by omega) (by omega) d_Wh_scale_34 ?_
        refine lv_i2l (v := (g i).toInt64) hx hb d_Wh_scale_35 rfl ?_
        refine lv_ldc2 (v := 4294967295) hx hb hown (hts _ (big_in mw_398 rfl)) d_Wh_scale_36 ?_
        refine zz_mask hx hb d_Wh_scale_39 ?_
        have bw39 := uwZ (g i)
        refine zz_lmul hx hb d_Wh_scale_40 ?_
        refine zz_ladd hx hb d_Wh_scale_41 ?_
        obtain ⟨T, hT, bT⟩ : ∃ x : Nat, x = cr + w * uw (g i) ∧ x < 18446744073709551616 := ⟨_, rfl, by have := mulB (show w < 4294967296 by omega) (uw_lt (g i)); omega⟩
        rw [show ((cr : Int) + ((w : Int) * (uw (g i) : Int)) : Int) = (T : Int) by rw [hT]; simp] 
        refine lv_lstore_n (lv' := [(3, .long (lZ (T : Int))), (0, .ref h), (1, .int (iZ (w : Int))), (2, .int (iZ (ad : Int))), (5, .int (iZ (i : Int)))]) hx hb d_Wh_scale_42 rfl hl (by decide) rfl (fun ls hl => ?_)
        refine lv_aload_n hx hb d_Wh_scale_43 rfl (lv_at hl 1 rfl) ?_
        refine va_get (D := D) (ci := 0) (v := .ref a) (C := R_Wh) (T := F_Wh) (N := 2) hx hb hts i_Wh hown hK hP 0 rfl rfl 0 (by decide) (hts _ (big_in mw_90 rfl)) (fun _ h9 => h9) rfl d_Wh_scale_44 ?_
        refine lv_iload hx hb d_Wh_scale_47 (lv_at hl 4 rfl) ?_
        refine lv_lload_n hx hb d_Wh_scale_49 rfl (lv_at hl 0 rfl) ?_
        refine zz_l2i hx hb d_Wh_scale_50 ?_
        refine zz_iast hx hb hK hP hD hS 1 0 rfl rfl (i) (by omega) (by omega) (by omega) d_Wh_scale_51 (fun H locs hP hD hS => ?_)
        have hP : va_P D cls0 [(h, .inr (0, [.ref a, .int (iZ (k : Int))])), (a, .inl (cI, n, .inl (upd g i (iZ (T : Int)))))] H := hP
        have hD : va_D A [(h, .inr (0, [.ref a, .int (iZ (k : Int))])), (a, .inl (cI, n, .inl (upd g i (iZ (T : Int)))))] := hD
        refine lv_lload_n hx hb d_Wh_scale_52 rfl (lv_at hl 0 rfl) ?_
        refine lv_bipush (v := iZ (32)) hx hb d_Wh_scale_53 (by decide +kernel) ?_
        refine zz_lushr32 hx hb d_Wh_scale_55 (by omega) (by omega) ?_
        refine lv_lstore_n (lv' := [(3, .long (lZ ((T : Int) / 4294967296))), (0, .ref h), (1, .int (iZ (w : Int))), (2, .int (iZ (ad : Int))), (5, .int (iZ (i : Int)))]) hx hb d_Wh_scale_56 rfl hl (by decide) rfl (fun ls hl => ?_)
        refine lv_iinc (v := iZ ((i : Int) + 1)) (lv' := [(5, .int (iZ ((i : Int) + 1))), (3, .long (lZ ((T : Int) / 4294967296))), (0, .ref h), (1, .int (iZ (w : Int))), (2, .int (iZ (ad : Int)))]) hx hb d_Wh_scale_57 hl (k := 4) rfl (iZ_add _ _) (by decide) rfl (fun ls hl => ?_)
        refine lv_goto (tgt := 16) hx hb d_Wh_scale_60 (by decide) ?_
        rw [show ((T : Int) / 4294967296 : Int) = ((T / 4294967296 : Nat) : Int) by omega] at hl
        rw [show ((i : Int) + 1 : Int) = ((i + 1 : Nat) : Int) by omega] at hl
        exact ih (i + 1) (T / 4294967296) (upd g i (iZ (T : Int))) _ _ _ (by omega) (by omega) (by omega) (fun j hj => by rw [pk_un (by omega)]; exact ig j (by omega)) (sc_step iv hT (ig i (Nat.le_refl _))) (hP.sub (ws' := [(h, .inr (0, [.ref a, .int (iZ (k : Int))])), (a, .inl (cI, n, .inl (upd g i (iZ (T : Int)))))]) [0, 1] rfl) (hD.sub (ws' := [(h, .inr (0, [.ref a, .int (iZ (k : Int))])), (a, .inl (cI, n, .inl (upd g i (iZ (T : Int)))))]) [0, 1] (by decide) rfl) hS (lv_sub hl [2, 3, 4, 1, 0] rfl)
  exact L16 _ 0 ad f _ _ _ (Nat.lt_succ_self _) (Nat.zero_le _) (by omega) (fun _ _ => rfl) (by simp [vV_0, pB_0]) (hP.sub (ws' := [(h, .inr (0, [.ref a, .int (iZ (k : Int))])), (a, .inl (cI, n, .inl f))]) [0, 1] rfl) (hD.sub (ws' := [(h, .inr (0, [.ref a, .int (iZ (k : Int))])), (a, .inl (cI, n, .inl f))]) [0, 1] (by decide) rfl) hS (lv_sub hl [2, 3, 4, 1, 0] rfl)
