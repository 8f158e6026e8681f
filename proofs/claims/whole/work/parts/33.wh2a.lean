/-! WHOLE: become, compare, add, subtract -/
theorem cmpZ_lt' {a b : Nat} (h : a < b) : cmpZ a b = -1 := by unfold cmpZ; rw [if_pos (by omega)]
theorem cmpZ_gt' {a b : Nat} (h : b < a) : cmpZ a b = 1 := by unfold cmpZ; rw [if_neg (by omega), if_neg (by omega)]
theorem cmpZ_eq' {a b : Nat} (h : a = b) : cmpZ a b = 0 := by unfold cmpZ; rw [if_neg (by omega), if_pos (by omega)]
theorem ca_eq (t P : Nat) : t % 4294967296 * P + t / 4294967296 * (P * 4294967296) = t * P := by
  have h1 : t / 4294967296 * (P * 4294967296) = (t / 4294967296 * 4294967296) * P := by rw [Nat.mul_comm P, Nat.mul_assoc]
  rw [h1, ← Nat.add_mul, Nat.mul_comm (t / 4294967296), Nat.mod_add_div]
theorem long_two {f : Nat → Int32} {w : Nat} (h : w < 18446744073709551616) : vV (upd (upd f 0 (iZ (w : Int))) 1 (iZ ((w : Int) / 4294967296))) 2 = w := by
  rw [vV_updS (n := 1), vV_updS (n := 0), vV_0, pB_0, uw_iZ, uw_iZ]
  have : pB 1 = 4294967296 := by decide
  rw [this]
  omega
theorem pl_step {g f f2 : Nat → Int32} {k k2 i cr y1 y2 : Nat} (hI : vV g i + cr * pB i = vZ f k i + vZ f2 k2 i) (h1 : y1 = at0 f k i) (h2 : y2 = at0 f2 k2 i) :
    vV (upd g i (iZ ((cr : Int) + ((y1 : Int) + (y2 : Int))))) (i + 1) + (cr + (y1 + y2)) / 4294967296 * pB (i + 1) = vZ f k (i + 1) + vZ f2 k2 (i + 1) := by
  rw [vV_updS, vZ_s, vZ_s, ← h1, ← h2, pB_s, uw_iZ]
  have e : (((cr : Int) + ((y1 : Int) + (y2 : Int))) % 4294967296).toNat = (cr + (y1 + y2)) % 4294967296 := by omega
  have q := ca_eq (cr + (y1 + y2)) (pB i)
  rw [e]
  rw [Nat.add_mul, Nat.add_mul] at q
  omega
theorem pl_end {g f f2 : Nat → Int32} {k k2 M cr v v2 : Nat} (hI : vV g M + cr * pB M = vZ f k M + vZ f2 k2 M) (hk : k ≤ M) (hk2 : k2 ≤ M) (hc : cr ≤ 1) (h1 : Rp f k v) (h2 : Rp f2 k2 v2) : vV (upd g M (iZ (cr : Int))) (M + 1) = v + v2 := by
  rw [vV_updS, uw_of_nat (by omega), hI, vZ_ge hk, vZ_ge hk2, h1.1, h2.1]
theorem at0_c {f g : Nat → Int32} {k i : Nat} (h : g i = f i) : at0 g k i = at0 f k i := by unfold at0; rw [h]
/-- one limb of a difference: borrow is 0 or -1 -/
theorem df_step {g f f2 : Nat → Int32} {k k2 i y1 y2 : Nat} {br : Int} (hI : (vV g i : Int) + br * pB i = vZ f k i - vZ f2 k2 i) (h1 : y1 = at0 f k i) (h2 : y2 = at0 f2 k2 i) (hb : -1 ≤ br ∧ br ≤ 0) :
    (vV (upd g i (iZ (br + ((y1 : Int) - (y2 : Int))))) (i + 1) : Int) + (br + ((y1 : Int) - (y2 : Int))) / 4294967296 * pB (i + 1) = vZ f k (i + 1) - vZ f2 k2 (i + 1) := by
  rw [vV_updS, vZ_s, vZ_s, ← h1, ← h2, pB_s, uw_iZ]
  generalize ht : br + ((y1 : Int) - (y2 : Int)) = t
  have e1 : t % 4294967296 + 4294967296 * (t / 4294967296) = t := Int.emod_add_mul_ediv t 4294967296
  have e2 : ((t % 4294967296).toNat : Int) = t % 4294967296 := Int.toNat_of_nonneg (Int.emod_nonneg _ (by decide))
  rw [Int.natCast_add, Int.natCast_add, Int.natCast_add, Int.natCast_mul, Int.natCast_mul, Int.natCast_mul, Int.natCast_mul, e2]
  have a1 : t % 4294967296 * (pB i : Int) = t * pB i - 4294967296 * (t / 4294967296) * pB i := by rw [← Int.sub_mul]; congr 1; omega
  have a2 : t * (pB i : Int) = br * pB i + (y1 * pB i - y2 * pB i) := by rw [← ht, Int.add_mul, Int.sub_mul]
  have a3 : 4294967296 * (t / 4294967296) * (pB i : Int) = t / 4294967296 * (pB i * 4294967296) := by rw [Int.mul_comm 4294967296 (t / 4294967296), Int.mul_assoc, Int.mul_comm 4294967296 (pB i : Int)]
  have a4 : ((4294967296 : Nat) : Int) = 4294967296 := rfl
  rw [a4]
  generalize t % 4294967296 * (pB i : Int) = z1 at *
  generalize 4294967296 * (t / 4294967296) * (pB i : Int) = z2 at *
  generalize t / 4294967296 * ((pB i : Int) * 4294967296) = z3 at *
  generalize t * (pB i : Int) = z4 at *
  generalize br * (pB i : Int) = z5 at *
  generalize (y1 : Int) * (pB i : Int) = z6 at *
  generalize (y2 : Int) * (pB i : Int) = z7 at *
  omega
theorem df_at {br y1 y2 : Int} (h1 : 0 ≤ y1 ∧ y1 < 4294967296) (h2 : 0 ≤ y2 ∧ y2 < 4294967296) (hb : -1 ≤ br ∧ br ≤ 0) : -1 ≤ (br + (y1 - y2)) / 4294967296 ∧ (br + (y1 - y2)) / 4294967296 ≤ 0 := by omega
theorem df_end {g f f2 : Nat → Int32} {k k2 v v2 : Nat} {br : Int} (hI : (vV g k : Int) + br * pB k = vZ f k k - vZ f2 k2 k) (h1 : Rp f k v) (h2 : Rp f2 k2 v2) (hle : v2 ≤ v) (hk : k2 ≤ k) (hb : -1 ≤ br ∧ br ≤ 0) : vV g k = v - v2 := by
  rw [vZ_ge (Nat.le_refl k), vZ_ge hk, h1.1, h2.1] at hI
  have h3 := vV_lt g k
  have h4 : br = 0 := by
    rcases (show br = 0 ∨ br = -1 by omega) with q | q
    · exact q
    · exfalso
      rw [q] at hI
      omega
  rw [h4] at hI
  omega
set_option maxHeartbeats 4000000 in
set_option maxRecDepth 100000 in
/-- becomeLong(value), the value read without sign -/
theorem c_Wh_becomeLong (l : Launch) (D : va_G) (h : Nat) (a : Nat) (q : Int32) (n : Nat) (f : Nat → Int32) (cI : ClassId) (w : Nat) (sz : Nat) (hw : w < 18446744073709551616) (h2 : 2 ≤ n) (hn : n < 1000000) : Met l y_Wh_becomeLong (wsB y_Wh_becomeLong b_Wh_becomeLong 3 none) ({ frames := 1, cells := 0, slots := 0, locals := 20 }) (va_Pc [.ref h, .long (lZ (w : Int))] (wPre D [(cI, .int)] [(h, .inr (0, [.ref a, .int q])), (a, .inl (cI, n, .inl f))] sz)) (va_QV (fun (v9 : Option Value) (u9 : Nat × (Nat → Int32)) => v9 = none ∧ (Rp u9.2 u9.1 w) ∧ (u9.1 ≤ 2)) (fun u9 => wPost D [(cI, .int)] [(h, .inr (0, [.ref a, .int q])), (a, .inl (cI, n, .inl f))] [(h, .inr (0, [.ref a, .int (iZ (u9.1 : Int))])), (a, .inl (cI, n, .inl u9.2))] sz) (va_A [(h, .inr (0, [.ref a, .int q])), (a, .inl (cI, n, .inl f))] sz)) 0 0 (va_A [(h, .inr (0, [.ref a, .int q])), (a, .inl (cI, n, .inl f))] sz) := by
  refine met_enter (by decide +kernel) (Nat.le_of_ble_eq_true rfl) ?_
  intro p e s m args below meth c ls A R Q H locs K hin hAe hA hR hQ hP hK hD hS hl
  obtain ⟨hx, hb, hml, hrt, hlk, hts, hown, hno⟩ := id K
  have hl : lv_has ls 3 [(0, .ref h), (1, .long (lZ (w : Int)))] := hl
  refine lv_aload_n hx hb d_Wh_becomeLong_0 rfl (lv_at hl 0 rfl) ?_
  refine va_get (D := D) (ci := 0) (v := .ref a) (C := R_Wh) (T := F_Wh) (N := 2) hx hb hts i_Wh hown hK hP 0 rfl rfl 0 (by decide) (hts _ (big_in mw_90 rfl)) (fun _ h9 => h9) rfl d_Wh_becomeLong_1 ?_
  refine lv_iconst (v := iZ (0)) hx hb d_Wh_becomeLong_4 (by decide +kernel) ?_
  refine lv_lload_n hx hb d_Wh_becomeLong_5 rfl (lv_at hl 1 rfl) ?_
  refine zz_l2i hx hb d_Wh_becomeLong_6 ?_
  refine zz_iast hx hb hK hP hD hS 1 0 rfl rfl (0) (by omega) (by omega) (by omega) d_Wh_becomeLong_7 (fun H locs hP hD hS => ?_)
  have hP : va_P D cls0 [(h, .inr (0, [.ref a, .int q])), (a, .inl (cI, n, .inl (upd f 0 (iZ (w : Int)))))] H := hP
  have hD : va_D A [(h, .inr (0, [.ref a, .int q])), (a, .inl (cI, n, .inl (upd f 0 (iZ (w : Int)))))] := hD
  refine lv_aload_n hx hb d_Wh_becomeLong_8 rfl (lv_at hl 0 rfl) ?_
  refine va_get (D := D) (ci := 0) (v := .ref a) (C := R_Wh) (T := F_Wh) (N := 2) hx hb hts i_Wh hown hK hP 0 rfl rfl 0 (by decide) (hts _ (big_in mw_90 rfl)) (fun _ h9 => h9) rfl d_Wh_becomeLong_9 ?_
  refine lv_iconst (v := iZ (1)) hx hb d_Wh_becomeLong_12 (by decide +kernel) ?_
  refine lv_lload_n hx hb d_Wh_becomeLong_13 rfl (lv_at hl 1 rfl) ?_
  refine lv_bipush (v := iZ (32)) hx hb d_Wh_becomeLong_14 (by decide +kernel) ?_
  refine zz_lushr32 hx hb d_Wh_becomeLong_16 (by omega) (by omega) ?_
  refine zz_l2i hx hb d_Wh_becomeLong_17 ?_
  refine zz_iast hx hb hK hP hD hS 1 0 rfl rfl (1) (by omega) (by omega) (by omega) d_Wh_becomeLong_18 (fun H locs hP hD hS => ?_)
  have hP : va_P D cls0 [(h, .inr (0, [.ref a, .int q])), (a, .inl (cI, n, .inl (upd (upd f 0 (iZ (w : Int))) 1 (iZ ((w : Int) / 4294967296)))))] H := hP
  have hD : va_D A [(h, .inr (0, [.ref a, .int q])), (a, .inl (cI, n, .inl (upd (upd f 0 (iZ (w : Int))) 1 (iZ ((w : Int) / 4294967296)))))] := hD
  refine lv_aload_n hx hb d_Wh_becomeLong_19 rfl (lv_at hl 0 rfl) ?_
  refine lv_iconst (v := iZ (2)) hx hb d_Wh_becomeLong_20 (by decide +kernel) ?_
  refine va_put (D := D) (ci := 0) (v := .int (iZ 2)) (ty := .int) (C := R_Wh) (T := F_Wh) (N := 2) hx hb hts i_Wh t_Wh t_Wh_ok n_Wh hown hK hP hD hS 0 rfl rfl 1 (by decide) (hts _ (big_in mw_94 rfl)) (fun _ h9 => h9) rfl (by decide +kernel) rfl rfl (Nat.le_of_ble_eq_true rfl) d_Wh_becomeLong_21 (fun H locs hP hD hS => ?_)
  have hP : va_P D cls0 [(h, .inr (0, [.ref a, .int (iZ 2)])), (a, .inl (cI, n, .inl (upd (upd f 0 (iZ (w : Int))) 1 (iZ ((w : Int) / 4294967296)))))] H := hP
  have hD : va_D A [(h, .inr (0, [.ref a, .int (iZ 2)])), (a, .inl (cI, n, .inl (upd (upd f 0 (iZ (w : Int))) 1 (iZ ((w : Int) / 4294967296)))))] := hD
  refine lv_aload_n hx hb d_Wh_becomeLong_24 rfl (lv_at hl 0 rfl) ?_
  refine cv (n := 0) (wr := []) (w1 := (fun (u : Nat) => [(h, .inr (0, [.ref a, .int (iZ (u : Int))])), (a, .inl (cI, n, .inl (upd (upd f 0 (iZ (w : Int))) 1 (iZ ((w : Int) / 4294967296)))))])) (As := []) (rest := []) K hP hD hK hS hA hl.1 (c_Wh_trim l D h a 2 n (upd (upd f 0 (iZ (w : Int))) 1 (iZ ((w : Int) / 4294967296))) cI H.size (by omega) (by omega)) [0, 1] [] [0] rfl rfl rfl (by decide) (by decide) (by decide) 0 rfl rfl (big_in mw_385 rfl) (big_in mw_6 rfl) (big_in mw_382 rfl) (big_in mw_384 rfl) (big_in sp_1 rfl) rfl rfl (by decide +kernel) ⟨by rw [hR]; exact Nat.le_of_ble_eq_true rfl, by rw [hR]; exact Nat.le_of_ble_eq_true rfl⟩ rfl (Nat.le_of_ble_eq_true rfl) d_Wh_becomeLong_25 ⟨by rw [hR]; exact Nat.le_of_ble_eq_true rfl, by rw [hR]; exact Nat.le_of_ble_eq_true rfl⟩ rfl (fun v u H locs hp1 hP hD hS _ => ?_)
  obtain ⟨u, rfl⟩ : ∃ z, z = u := ⟨_, rfl⟩
  obtain ⟨rfl, g1, g2, g3⟩ := hp1
  have hP : va_P D cls0 [(h, .inr (0, [.ref a, .int (iZ (u : Int))])), (a, .inl (cI, n, .inl (upd (upd f 0 (iZ (w : Int))) 1 (iZ ((w : Int) / 4294967296)))))] H := hP
  have hD : va_D A [(h, .inr (0, [.ref a, .int (iZ (u : Int))])), (a, .inl (cI, n, .inl (upd (upd f 0 (iZ (w : Int))) 1 (iZ ((w : Int) / 4294967296)))))] := hD
  show W p l e R s m args below meth c H locs _ _ Q (F0 m 28 ls [])
  have hP9 : va_P D cls0 [(h, .inr (0, [.ref a, .int (iZ (u : Int))])), (a, .inl (cI, n, .inl (upd (upd f 0 (iZ (w : Int))) 1 (iZ ((w : Int) / 4294967296)))))] H := hP.sub [0, 1] rfl
  have hD9 : va_D A [(h, .inr (0, [.ref a, .int (iZ (u : Int))])), (a, .inl (cI, n, .inl (upd (upd f 0 (iZ (w : Int))) 1 (iZ ((w : Int) / 4294967296)))))] := hD.sub [0, 1] (by decide) rfl
  rw [hQ, ← hAe]
  refine r_v K (u, (upd (upd f 0 (iZ (w : Int))) 1 (iZ ((w : Int) / 4294967296)))) hS d_Wh_becomeLong_28 ?_ (fun t ht hv => ?_)
  · exact ⟨rfl, Rp.trimmed (long_two hw) g1 g2 g3, g1⟩
  · exact ⟨by rw [ht]; exact hP9, va_K.moved hv hK, by rw [← hAe]; exact hD9⟩
set_option maxHeartbeats 4000000 in
set_option maxRecDepth 100000 in
/-- become(other) -/
theorem c_Wh_become (l : Launch) (D : va_G) (h : Nat) (a : Nat) (q : Int32) (n : Nat) (f : Nat → Int32) (h2 : Nat) (a2 : Nat) (k2 : Nat) (n2 : Nat) (f2 : Nat → Int32) (cI : ClassId) (sz : Nat) (hk : k2 ≤ n) (hk2 : k2 ≤ n2) (hn : n < 1000000) (hn2 : n2 < 1000000) : Met l y_Wh_become (wsB y_Wh_become b_Wh_become 2 none) ({ frames := 1, cells := 0, slots := 0, locals := 100 }) (va_Pc [.ref h, .ref h2] (wPre D [(cI, .int)] [(h, .inr (0, [.ref a, .int q])), (a, .inl (cI, n, .inl f)), (h2, .inr (0, [.ref a2, .int (iZ (k2 : Int))])), (a2, .inl (cI, n2, .inl f2))] sz)) (va_QV (fun (v9 : Option Value) (u9 : (Nat → Int32)) => v9 = none ∧ (∀ i, i < k2 → u9 i = f2 i)) (fun u9 => wPost D [(cI, .int)] [(h, .inr (0, [.ref a, .int q])), (a, .inl (cI, n, .inl f)), (h2, .inr (0, [.ref a2, .int (iZ (k2 : Int))])), (a2, .inl (cI, n2, .inl f2))] [(h, .inr (0, [.ref a, .int (iZ (k2 : Int))])), (a, .inl (cI, n, .inl u9)), (h2, .inr (0, [.ref a2, .int (iZ (k2 : Int))])), (a2, .inl (cI, n2, .inl f2))] sz) (va_A [(h, .inr (0, [.ref a, .int q])), (a, .inl (cI, n, .inl f)), (h2, .inr (0, [.ref a2, .int (iZ (k2 : Int))])), (a2, .inl (cI, n2, .inl f2))] sz)) 0 0 (va_A [(h, .inr (0, [.ref a, .int q])), (a, .inl (cI, n, .inl f)), (h2, .inr (0, [.ref a2, .int (iZ (k2 : Int))])), (a2, .inl (cI, n2, .inl f2))] sz) := by
  refine met_enter (by decide +kernel) (Nat.le_of_ble_eq_true rfl) ?_
  intro p e s m args below meth c ls A R Q H locs K hin hAe hA hR hQ hP hK hD hS hl
  obtain ⟨hx, hb, hml, hrt, hlk, hts, hown, hno⟩ := id K
  have hl : lv_has ls 2 [(0, .ref h), (1, .ref h2)] := hl
  refine lv_aload_n hx hb d_Wh_become_0 rfl (lv_at hl 0 rfl) ?_
  refine lv_aload_n hx hb d_Wh_become_1 rfl (lv_at hl 1 rfl) ?_
  refine va_get (D := D) (ci := 0) (v := .int (iZ (k2 : Int))) (C := R_Wh) (T := F_Wh) (N := 2) hx hb hts i_Wh hown hK hP 2 rfl rfl 1 (by decide) (hts _ (big_in mw_94 rfl)) (fun _ h9 => h9) rfl d_Wh_become_2 ?_
  refine cv (n := 1) (wr := [(h2, .inr (0, [.ref a2, .int (iZ (k2 : Int))])), (a2, .inl (cI, n2, .inl f2))]) (w1 := (fun (u : Unit) => [(h, .inr (0, [.ref a, .int q])), (a, .inl (cI, n, .inl f))])) (As := [.int (iZ (k2 : Int))]) (rest := []) K hP hD hK hS hA hl.1 (c_Wh_claim l D h a q n f cI (k2 : Int) H.size (by omega) (by omega)) [0, 1] [2, 3] [0] rfl rfl rfl (by decide) (by decide) (by decide) 0 rfl rfl (big_in mw_406 rfl) (big_in mw_6 rfl) (big_in mw_403 rfl) (big_in mw_405 rfl) (big_in sp_2 rfl) rfl rfl (by decide +kernel) ⟨by rw [hR]; exact Nat.le_of_ble_eq_true rfl, by rw [hR]; exact Nat.le_of_ble_eq_true rfl⟩ rfl (Nat.le_of_ble_eq_true rfl) d_Wh_become_5 ⟨by rw [hR]; exact Nat.le_of_ble_eq_true rfl, by rw [hR]; exact Nat.le_of_ble_eq_true rfl⟩ rfl (fun v u H locs hp1 hP hD hS _ => ?_)
  obtain rfl := hp1
  have hP : va_P D cls0 [(h2, .inr (0, [.ref a2, .int (iZ (k2 : Int))])), (a2, .inl (cI, n2, .inl f2)), (h, .inr (0, [.ref a, .int q])), (a, .inl (cI, n, .inl f))] H := hP
  have hD : va_D A [(h2, .inr (0, [.ref a2, .int (iZ (k2 : Int))])), (a2, .inl (cI, n2, .inl f2)), (h, .inr (0, [.ref a, .int q])), (a, .inl (cI, n, .inl f))] := hD
  show W p l e R s m args below meth c H locs _ _ Q (F0 m 8 ls [])
  refine lv_aload_n hx hb d_Wh_become_8 rfl (lv_at hl 1 rfl) ?_
  refine va_get (D := D) (ci := 0) (v := .ref a2) (C := R_Wh) (T := F_Wh) (N := 2) hx hb hts i_Wh hown hK hP 0 rfl rfl 0 (by decide) (hts _ (big_in mw_90 rfl)) (fun _ h9 => h9) rfl d_Wh_become_9 ?_
  refine lv_iconst (v := iZ (0)) hx hb d_Wh_become_12 (by decide +kernel) ?_
  refine lv_aload_n hx hb d_Wh_become_13 rfl (lv_at hl 0 rfl) ?_
  refine va_get (D := D) (ci := 0) (v := .ref a) (C := R_Wh) (T := F_Wh) (N := 2) hx hb hts i_Wh hown hK hP 2 rfl rfl 0 (by decide) (hts _ (big_in mw_90 rfl)) (fun _ h9 => h9) rfl d_Wh_become_14 ?_
  refine lv_iconst (v := iZ (0)) hx hb d_Wh_become_17 (by decide +kernel) ?_
  refine lv_aload_n hx hb d_Wh_become_18 rfl (lv_at hl 1 rfl) ?_
  refine va_get (D := D) (ci := 0) (v := .int (iZ (k2 : Int))) (C := R_Wh) (T := F_Wh) (N := 2) hx hb hts i_Wh hown hK hP 0 rfl rfl 1 (by decide) (hts _ (big_in mw_94 rfl)) (fun _ h9 => h9) rfl d_Wh_become_19 ?_
  refine zz_copyi hx hb (hml.trans hl.1.symm) hown (hts _ (big_in mw_423 rfl)) (hts _ (big_in mw_425 rfl)) (hts _ (big_in mw_424 rfl)) (hts _ (big_in mw_17 rfl)) hK hP hD hS 1 3 0 0 rfl rfl rfl rfl rfl 0 0 k2 (by omega) (by omega) (by omega) (by omega) (by omega) (by omega) (by omega) (fun _ _ => rfl) (by rw [hR]; exact Nat.le_of_ble_eq_true rfl) (by rw [hR]; decide +kernel) d_Wh_become_22 (fun H locs hP hD hS => ?_)
  have hP : va_P D cls0 [(h2, .inr (0, [.ref a2, .int (iZ (k2 : Int))])), (a2, .inl (cI, n2, .inl f2)), (h, .inr (0, [.ref a, .int q])), (a, .inl (cI, n, .inl (va_cpy f2 f 0 0 k2)))] H := hP
  have hD : va_D A [(h2, .inr (0, [.ref a2, .int (iZ (k2 : Int))])), (a2, .inl (cI, n2, .inl f2)), (h, .inr (0, [.ref a, .int q])), (a, .inl (cI, n, .inl (va_cpy f2 f 0 0 k2)))] := hD
  refine lv_aload_n hx hb d_Wh_become_25 rfl (lv_at hl 0 rfl) ?_
  refine lv_aload_n hx hb d_Wh_become_26 rfl (lv_at hl 1 rfl) ?_
  refine va_get (D := D) (ci := 0) (v := .int (iZ (k2 : Int))) (C := R_Wh) (T := F_Wh) (N := 2) hx hb hts i_Wh hown hK hP 0 rfl rfl 1 (by decide) (hts _ (big_in mw_94 rfl)) (fun _ h9 => h9) rfl d_Wh_become_27 ?_
  refine va_put (D := D) (ci := 0) (v := .int (iZ (k2 : Int))) (ty := .int) (C := R_Wh) (T := F_Wh) (N := 2) hx hb hts i_Wh t_Wh t_Wh_ok n_Wh hown hK hP hD hS 2 rfl rfl 1 (by decide) (hts _ (big_in mw_94 rfl)) (fun _ h9 => h9) rfl (by decide +kernel) rfl rfl (Nat.le_of_ble_eq_true rfl) d_Wh_become_30 (fun H locs hP hD hS => ?_)
  have hP : va_P D cls0 [(h2, .inr (0, [.ref a2, .int (iZ (k2 : Int))])), (a2, .inl (cI, n2, .inl f2)), (h, .inr (0, [.ref a, .int (iZ (k2 : Int))])), (a, .inl (cI, n, .inl (va_cpy f2 f 0 0 k2)))] H := hP
  have hD : va_D A [(h2, .inr (0, [.ref a2, .int (iZ (k2 : Int))])), (a2, .inl (cI, n2, .inl f2)), (h, .inr (0, [.ref a, .int (iZ (k2 : Int))])), (a, .inl (cI, n, .inl (va_cpy f2 f 0 0 k2)))] := hD
  have hP9 : va_P D cls0 [(h, .inr (0, [.ref a, .int (iZ (k2 : Int))])), (a, .inl (cI, n, .inl (va_cpy f2 f 0 0 k2))), (h2, .inr (0, [.ref a2, .int (iZ (k2 : Int))])), (a2, .inl (cI, n2, .inl f2))] H := hP.sub [2, 3, 0, 1] rfl
  have hD9 : va_D A [(h, .inr (0, [.ref a, .int (iZ (k2 : Int))])), (a, .inl (cI, n, .inl (va_cpy f2 f 0 0 k2))), (h2, .inr (0, [.ref a2, .int (iZ (k2 : Int))])), (a2, .inl (cI, n2, .inl f2))] := hD.sub [2, 3, 0, 1] (by decide) rfl
  rw [hQ, ← hAe]
  refine r_v K (va_cpy f2 f 0 0 k2) hS d_Wh_become_33 ?_ (fun t ht hv => ?_)
  · exact ⟨rfl, fun i hi => by rw [pk_cpy_in (by omega) (by omega)]; congr 1; omega⟩
  · exact ⟨by rw [ht]; exact hP9, va_K.moved hv hK, by rw [← hAe]; exact hD9⟩
set_option maxHeartbeats 4000000 in
set_option maxRecDepth 100000 in
/-- becomePart(row, from, count) -/
theorem c_Wh_becomePart (l : Launch) (D : va_G) (h : Nat) (a : Nat) (q : Int32) (n : Nat) (f : Nat → Int32) (a2 : Nat) (n2 : Nat) (f2 : Nat → Int32) (cI : ClassId) (fr : Nat) (cnt : Nat) (sz : Nat) (hk : cnt ≤ n) (hk2 : fr + cnt ≤ n2) (hn : n < 1000000) (hn2 : n2 < 1000000) : Met l y_Wh_becomePart (wsB y_Wh_becomePart b_Wh_becomePart 4 none) ({ frames := 1, cells := 0, slots := 0, locals := 100 }) (va_Pc [.ref h, .ref a2, .int (iZ (fr : Int)), .int (iZ (cnt : Int))] (wPre D [(cI, .int)] [(h, .inr (0, [.ref a, .int q])), (a, .inl (cI, n, .inl f)), (a2, .inl (cI, n2, .inl f2))] sz)) (va_QV (fun (v9 : Option Value) (u9 : (Nat → Int32)) => v9 = none ∧ (∀ i, i < cnt → u9 i = f2 (fr + i))) (fun u9 => wPost D [(cI, .int)] [(h, .inr (0, [.ref a, .int q])), (a, .inl (cI, n, .inl f)), (a2, .inl (cI, n2, .inl f2))] [(h, .inr (0, [.ref a, .int (iZ (cnt : Int))])), (a, .inl (cI, n, .inl u9)), (a2, .inl (cI, n2, .inl f2))] sz) (va_A [(h, .inr (0, [.ref a, .int q])), (a, .inl (cI, n, .inl f)), (a2, .inl (cI, n2, .inl f2))] sz)) 0 0 (va_A [(h, .inr (0, [.ref a, .int q])), (a, .inl (cI, n, .inl f)), (a2, .inl (cI, n2, .inl f2))] sz) := by
  refine met_enter (by decide +kernel) (Nat.le_of_ble_eq_true rfl) ?_
  intro p e s m args below meth c ls A R Q H locs K hin hAe hA hR hQ hP hK hD hS hl
  obtain ⟨hx, hb, hml, hrt, hlk, hts, hown, hno⟩ := id K
  have hl : lv_has ls 4 [(0, .ref h), (1, .ref a2), (2, .int (iZ (fr : Int))), (3, .int (iZ (cnt : Int)))] := hl
  refine lv_aload_n hx hb d_Wh_becomePart_0 rfl (lv_at hl 0 rfl) ?_
  refine lv_iload_n hx hb d_Wh_becomePart_1 rfl (lv_at hl 3 rfl) ?_
  refine cv (n := 1) (wr := [(a2, .inl (cI, n2, .inl f2))]) (w1 := (fun (u : Unit) => [(h, .inr (0, [.ref a, .int q])), (a, .inl (cI, n, .inl f))])) (As := [.int (iZ (cnt : Int))]) (rest := []) K hP hD hK hS hA hl.1 (c_Wh_claim l D h a q n f cI (cnt : Int) H.size (by omega) (by omega)) [0, 1] [2] [0] rfl rfl rfl (by decide) (by decide) (by decide) 0 rfl rfl (big_in mw_406 rfl) (big_in mw_6 rfl) (big_in mw_403 rfl) (big_in mw_405 rfl) (big_in sp_2 rfl) rfl rfl (by decide +kernel) ⟨by rw [hR]; exact Nat.le_of_ble_eq_true rfl, by rw [hR]; exact Nat.le_of_ble_eq_true rfl⟩ rfl (Nat.le_of_ble_eq_true rfl) d_Wh_becomePart_2 ⟨by rw [hR]; exact Nat.le_of_ble_eq_true rfl, by rw [hR]; exact Nat.le_of_ble_eq_true rfl⟩ rfl (fun v u H locs hp1 hP hD hS _ => ?_)
  obtain rfl := hp1
  have hP : va_P D cls0 [(a2, .inl (cI, n2, .inl f2)), (h, .inr (0, [.ref a, .int q])), (a, .inl (cI, n, .inl f))] H := hP
  have hD : va_D A [(a2, .inl (cI, n2, .inl f2)), (h, .inr (0, [.ref a, .int q])), (a, .inl (cI, n, .inl f))] := hD
  show W p l e R s m args below meth c H locs _ _ Q (F0 m 5 ls [])
  refine lv_aload_n hx hb d_Wh_becomePart_5 rfl (lv_at hl 1 rfl) ?_
  refine lv_iload_n hx hb d_Wh_becomePart_6 rfl (lv_at hl 2 rfl) ?_
  refine lv_aload_n hx hb d_Wh_becomePart_7 rfl (lv_at hl 0 rfl) ?_
  refine va_get (D := D) (ci := 0) (v := .ref a) (C := R_Wh) (T := F_Wh) (N := 2) hx hb hts i_Wh hown hK hP 1 rfl rfl 0 (by decide) (hts _ (big_in mw_90 rfl)) (fun _ h9 => h9) rfl d_Wh_becomePart_8 ?_
  refine lv_iconst (v := iZ (0)) hx hb d_Wh_becomePart_11 (by decide +kernel) ?_
  refine lv_iload_n hx hb d_Wh_becomePart_12 rfl (lv_at hl 3 rfl) ?_
  refine zz_copyi hx hb (hml.trans hl.1.symm) hown (hts _ (big_in mw_423 rfl)) (hts _ (big_in mw_425 rfl)) (hts _ (big_in mw_424 rfl)) (hts _ (big_in mw_17 rfl)) hK hP hD hS 0 2 0 0 rfl rfl rfl rfl rfl fr 0 cnt (by omega) (by omega) (by omega) (by omega) (by omega) (by omega) (by omega) (fun _ _ => rfl) (by rw [hR]; exact Nat.le_of_ble_eq_true rfl) (by rw [hR]; decide +kernel) d_Wh_becomePart_13 (fun H locs hP hD hS => ?_)
  have hP : va_P D cls0 [(a2, .inl (cI, n2, .inl f2)), (h, .inr (0, [.ref a, .int q])), (a, .inl (cI, n, .inl (va_cpy f2 f fr 0 cnt)))] H := hP
  have hD : va_D A [(a2, .inl (cI, n2, .inl f2)), (h, .inr (0, [.ref a, .int q])), (a, .inl (cI, n, .inl (va_cpy f2 f fr 0 cnt)))] := hD
  refine lv_aload_n hx hb d_Wh_becomePart_16 rfl (lv_at hl 0 rfl) ?_
  refine lv_iload_n hx hb d_Wh_becomePart_17 rfl (lv_at hl 3 rfl) ?_
  refine va_put (D := D) (ci := 0) (v := .int (iZ (cnt : Int))) (ty := .int) (C := R_Wh) (T := F_Wh) (N := 2) hx hb hts i_Wh t_Wh t_Wh_ok n_Wh hown hK hP hD hS 1 rfl rfl 1 (by decide) (hts _ (big_in mw_94 rfl)) (fun _ h9 => h9) rfl (by decide +kernel) rfl rfl (Nat.le_of_ble_eq_true rfl) d_Wh_becomePart_18 (fun H locs hP hD hS => ?_)
  have hP : va_P D cls0 [(a2, .inl (cI, n2, .inl f2)), (h, .inr (0, [.ref a, .int (iZ (cnt : Int))])), (a, .inl (cI, n, .inl (va_cpy f2 f fr 0 cnt)))] H := hP
  have hD : va_D A [(a2, .inl (cI, n2, .inl f2)), (h, .inr (0, [.ref a, .int (iZ (cnt : Int))])), (a, .inl (cI, n, .inl (va_cpy f2 f fr 0 cnt)))] := hD
  have hP9 : va_P D cls0 [(h, .inr (0, [.ref a, .int (iZ (cnt : Int))])), (a, .inl (cI, n, .inl (va_cpy f2 f fr 0 cnt))), (a2, .inl (cI, n2, .inl f2))] H := hP.sub [1, 2, 0] rfl
  have hD9 : va_D A [(h, .inr (0, [.ref a, .int (iZ (cnt : Int))])), (a, .inl (cI, n, .inl (va_cpy f2 f fr 0 cnt))), (a2, .inl (cI, n2, .inl f2))] := hD.sub [1, 2, 0] (by decide) rfl
  rw [hQ, ← hAe]
  refine r_v K (va_cpy f2 f fr 0 cnt) hS d_Wh_becomePart_21 ?_ (fun t ht hv => ?_)
  · exact ⟨rfl, fun i hi => by rw [pk_cpy_in (by omega) (by omega)]; congr 1⟩
  · exact ⟨by rw [ht]; exact hP9, va_K.moved hv hK, by rw [← hAe]; exact hD9⟩
set_option maxHeartbeats 4000000 in
set_option maxRecDepth 100000 in
/-- against(other) -/
theorem c_Wh_against (l : Launch) (D : va_G) (h : Nat) (a : Nat) (k : Nat) (n : Nat) (f : Nat → Int32) (h2 : Nat) (a2 : Nat) (k2 : Nat) (n2 : Nat) (f2 : Nat → Int32) (cI : ClassId) (v : Nat) (v2 : Nat) (sz : Nat) (r1 : Rp f k v) (r2 : Rp f2 k2 v2) (hk : k ≤ n) (hk2 : k2 ≤ n2) (hn : n < 1000000) (hn2 : n2 < 1000000) : Met l y_Wh_against (wsB y_Wh_against b_Wh_against 3 (some .int)) ({ frames := 0, cells := 0, slots := 0, locals := 0 }) (va_Pc [.ref h, .ref h2] (wPre D [(cI, .int)] [(h, .inr (0, [.ref a, .int (iZ (k : Int))])), (a, .inl (cI, n, .inl f)), (h2, .inr (0, [.ref a2, .int (iZ (k2 : Int))])), (a2, .inl (cI, n2, .inl f2))] sz)) (va_QV (fun (v9 : Option Value) (u9 : Int) => v9 = some (.int (iZ u9)) ∧ (u9 = cmpZ v v2)) (fun u9 => wPost D [(cI, .int)] [(h, .inr (0, [.ref a, .int (iZ (k : Int))])), (a, .inl (cI, n, .inl f)), (h2, .inr (0, [.ref a2, .int (iZ (k2 : Int))])), (a2, .inl (cI, n2, .inl f2))] [(h, .inr (0, [.ref a, .int (iZ (k : Int))])), (a, .inl (cI, n, .inl f)), (h2, .inr (0, [.ref a2, .int (iZ (k2 : Int))])), (a2, .inl (cI, n2, .inl f2))] sz) (va_A [(h, .inr (0, [.ref a, .int (iZ (k : Int))])), (a, .inl (cI, n, .inl f)), (h2, .inr (0, [.ref a2, .int (iZ (k2 : Int))])), (a2, .inl (cI, n2, .inl f2))] sz)) 0 0 (va_A [(h, .inr (0, [.ref a, .int (iZ (k : Int))])), (a, .inl (cI, n, .inl f)), (h2, .inr (0, [.ref a2, .int (iZ (k2 : Int))])), (a2, .inl (cI, n2, .inl f2))] sz) := by
  refine met_enter (by decide +kernel) (Nat.le_of_ble_eq_true rfl) ?_
  intro p e s m args below meth c ls A R Q H locs K hin hAe hA hR hQ hP hK hD hS hl
  obtain ⟨hx, hb, hml, hrt, hlk, hts, hown, hno⟩ := id K
  have hl : lv_has ls 3 [(0, .ref h), (1, .ref h2)] := hl
  refine lv_aload_n hx hb d_Wh_against_0 rfl (lv_at hl 0 rfl) ?_
  refine va_get (D := D) (ci := 0) (v := .int (iZ (k : Int))) (C := R_Wh) (T := F_Wh) (N := 2) hx hb hts i_Wh hown hK hP 0 rfl rfl 1 (by decide) (hts _ (big_in mw_94 rfl)) (fun _ h9 => h9) rfl d_Wh_against_1 ?_
  refine lv_aload_n hx hb d_Wh_against_4 rfl (lv_at hl 1 rfl) ?_
  refine va_get (D := D) (ci := 0) (v := .int (iZ (k2 : Int))) (C := R_Wh) (T := F_Wh) (N := 2) hx hb hts i_Wh hown hK hP 2 rfl rfl 1 (by decide) (hts _ (big_in mw_94 rfl)) (fun _ h9 => h9) rfl d_Wh_against_5 ?_
  refine zz_icmp_eq (tgt := 28) hx hb d_Wh_against_8 (by decide) (by omega) (by omega) (fun c8 => ?_) (fun c8 => ?_)
  · refine lv_aload_n hx hb d_Wh_against_28 rfl (lv_at hl 0 rfl) ?_
    refine va_get (D := D) (ci := 0) (v := .int (iZ (k : Int))) (C := R_Wh) (T := F_Wh) (N := 2) hx hb hts i_Wh hown hK hP 0 rfl rfl 1 (by decide) (hts _ (big_in mw_94 rfl)) (fun _ h9 => h9) rfl d_Wh_against_29 ?_
    refine lv_iconst (v := iZ (1)) hx hb d_Wh_against_32 (by decide +kernel) ?_
    refine zz_isub hx hb d_Wh_against_33 ?_
    refine lv_istore_n (lv' := [(2, .int (iZ ((k : Int) - 1))), (0, .ref h), (1, .ref h2)]) hx hb d_Wh_against_34 rfl hl (by decide) rfl (fun ls hl => ?_)
    have L35 : ∀ (N : Nat) (j : Nat) (H : Heap) (locs : List Loc) (ls : Array Slot), j < N → (j ≤ k) → (k = k2) → (∀ i, j ≤ i → i < k → f i = f2 i) → va_P D cls0 [(h, .inr (0, [.ref a, .int (iZ (k : Int))])), (a, .inl (cI, n, .inl f)), (h2, .inr (0, [.ref a2, .int (iZ (k2 : Int))])), (a2, .inl (cI, n2, .inl f2))] H → va_D A [(h, .inr (0, [.ref a, .int (iZ (k : Int))])), (a, .inl (cI, n, .inl f)), (h2, .inr (0, [.ref a2, .int (iZ (k2 : Int))])), (a2, .inl (cI, n2, .inl f2))] → va_S A s.heap H locs → lv_has ls 3 [(0, .ref h), (1, .ref h2), (2, .int (iZ ((j : Int) - 1)))] → W p l e R s m args below meth c H locs 0 0 Q (F0 m 35 ls []) := by
      intro N
      induction N with
      | zero => intro j H locs ls hN; exact absurd hN (Nat.not_lt_zero _)
      | succ N ih =>
        intro j H locs ls hN ij ek0 iz hP hD hS hl
        refine lv_iload_n hx hb d_Wh_against_35 rfl (lv_at hl 2 rfl) ?_
        refine zz_if_lt (tgt := 92) hx hb d_Wh_against_36 (by decide) (by omega) (fun c36 => ?_) (fun c36 => ?_)
        · refine lv_iconst (v := iZ (0)) hx hb d_Wh_against_92 (by decide +kernel) ?_
          have hP9 : va_P D cls0 [(h, .inr (0, [.ref a, .int (iZ (k : Int))])), (a, .inl (cI, n, .inl f)), (h2, .inr (0, [.ref a2, .int (iZ (k2 : Int))])), (a2, .inl (cI, n2, .inl f2))] H := hP.sub [0, 1, 2, 3] rfl
          have hD9 : va_D A [(h, .inr (0, [.ref a, .int (iZ (k : Int))])), (a, .inl (cI, n, .inl f)), (h2, .inr (0, [.ref a2, .int (iZ (k2 : Int))])), (a2, .inl (cI, n2, .inl f2))] := hD.sub [0, 1, 2, 3] (by decide) rfl
          rw [hQ, ← hAe]
          refine r_i (v := (iZ 0)) K 0 hS d_Wh_against_93 ?_ (fun t ht hv => ?_)
          · refine ⟨rfl, ?_⟩
            have ek : k = k2 := by omega
            have e1 := r1.1
            have e2 := r2.1
            rw [← ek] at e2
            have q : vV f k = vV f2 k := vV_congr (fun i hi => iz i (by omega) hi)
            rw [e1, e2] at q
            exact (cmpZ_eq' q).symm
          · exact ⟨by rw [ht]; exact hP9, va_K.moved hv hK, by rw [← hAe]; exact hD9⟩
        · refine lv_aload_n hx hb d_Wh_against_39 rfl (lv_at hl 0 rfl) ?_
          refine va_get (D := D) (ci := 0) (v := .ref a) (C := R_Wh) (T := F_Wh) (N := 2) hx hb hts i_Wh hown hK hP 0 rfl rfl 0 (by decide) (hts _ (big_in mw_90 rfl)) (fun _ h9 => h9) rfl d_Wh_against_40 ?_
          refine lv_iload_n hx hb d_Wh_against_43 rfl (lv_at hl 2 rfl) ?_
          refine zz_iald hx hb hK hP 1 0 rfl rfl (j - 1) (by omega) (by omega) (by omega) d_Wh_against_44 ?_
          refine lv_aload_n hx hb d_Wh_against_45 rfl (lv_at hl 1 rfl) ?_
          refine va_get (D := D) (ci := 0) (v := .ref a2) (C := R_Wh) (T := F_Wh) (N := 2) hx hb hts i_Wh hown hK hP 2 rfl rfl 0 (by decide) (hts _ (big_in mw_90 rfl)) (fun _ h9 => h9) rfl d_Wh_against_46 ?_
          refine lv_iload_n hx hb d_Wh_against_49 rfl (lv_at hl 2 rfl) ?_
          refine zz_iald hx hb hK hP 3 0 rfl rfl (j - 1) (by omega) (by omega) (by omega) d_Wh_against_50 ?_
          refine lv_icmp_eq (tgt := 86) hx hb d_Wh_against_51 (by decide) (fun c51 => ?_) (fun c51 => ?_)
          · refine lv_iinc (v := iZ ((j : Int) - 1 - 1)) (lv' := [(2, .int (iZ ((j : Int) - 1 - 1))), (0, .ref h), (1, .ref h2)]) hx hb d_Wh_against_86 hl (k := 2) rfl (iZ_add _ _) (by decide) rfl (fun ls hl => ?_)
            refine lv_goto (tgt := 35) hx hb d_Wh_against_89 (by decide) ?_
            rw [show ((j : Int) - 1 - 1 : Int) = ((j - 1 : Nat) : Int) - 1 by omega] at hl
            exact ih (j - 1) _ _ _ (by omega) (by omega) ek0 (fun i h1 h2 => by rcases Nat.lt_or_ge i j with q | q; (have : i = j - 1 := by omega); (rw [this]; exact c51); exact iz i q h2) (hP.sub (ws' := [(h, .inr (0, [.ref a, .int (iZ (k : Int))])), (a, .inl (cI, n, .inl f)), (h2, .inr (0, [.ref a2, .int (iZ (k2 : Int))])), (a2, .inl (cI, n2, .inl f2))]) [0, 1, 2, 3] rfl) (hD.sub (ws' := [(h, .inr (0, [.ref a, .int (iZ (k : Int))])), (a, .inl (cI, n, .inl f)), (h2, .inr (0, [.ref a2, .int (iZ (k2 : Int))])), (a2, .inl (cI, n2, .inl f2))]) [0, 1, 2, 3] (by decide) rfl) hS (lv_sub hl [1, 2, 0] rfl)
          · refine lv_aload_n hx hb d_Wh_against_54 rfl (lv_at hl 0 rfl) ?_
            refine va_get (D := D) (ci := 0) (v := .ref a) (C := R_Wh) (T := F_Wh) (N := 2) hx hb hts i_Wh hown hK hP 0 rfl rfl 0 (by decide) (hts _ (big_in mw_90 rfl)) (fun _ h9 => h9) rfl d_Wh_against_55 ?_
            refine lv_iload_n hx hb d_Wh_against_58 rfl (lv_at hl 2 rfl) ?_
            refine zz_iald hx hb hK hP 1 0 rfl rfl (j - 1) (by omega) (by omega) (by omega) d_Wh_against_59 ?_
            refine lv_i2l (v := (f (j - 1)).toInt64) hx hb d_Wh_against_60 rfl ?_
            refine lv_ldc2 (v := 4294967295) hx hb hown (hts _ (big_in mw_398 rfl)) d_Wh_against_61 ?_
            refine zz_mask hx hb d_Wh_against_64 ?_
            have bw64 := uwZ (f (j - 1))
            refine lv_aload_n hx hb d_Wh_against_65 rfl (lv_at hl 1 rfl) ?_
            refine va_get (D := D) (ci := 0) (v := .ref a2) (C := R_Wh) (T := F_Wh) (N := 2) hx hb hts i_Wh hown hK hP 2 rfl rfl 0 (by decide) (hts _ (big_in mw_90 rfl)) (fun _ h9 => h9) rfl d_Wh_against_66 ?_
            refine lv_iload_n hx hb d_Wh_against_69 rfl (lv_at hl 2 rfl) ?_
            refine zz_iald hx hb hK hP 3 0 rfl rfl (j - 1) (by omega) (by omega) (by omega) d_Wh_against_70 ?_
            refine lv_i2l (v := (f2 (j - 1)).toInt64) hx hb d_Wh_against_71 rfl ?_
            refine lv_ldc2 (v := 4294967295) hx hb hown (hts _ (big_in mw_398 rfl)) d_Wh_against_72 ?_
            refine zz_mask hx hb d_Wh_against_75 ?_
            have bw75 := uwZ (f2 (j - 1))
            have b1 := uwZ (f (j - 1))
            have b2 := uwZ (f2 (j - 1))
            refine zz_lcmp_ge (tgt := 84) hx hb d_Wh_against_76 d_Wh_against_77 (by decide) (by omega) (by omega) (fun c76 => ?_) (fun c76 => ?_)
            · refine lv_iconst (v := iZ (1)) hx hb d_Wh_against_84 (by decide +kernel) ?_
              have hP9 : va_P D cls0 [(h, .inr (0, [.ref a, .int (iZ (k : Int))])), (a, .inl (cI, n, .inl f)), (h2, .inr (0, [.ref a2, .int (iZ (k2 : Int))])), (a2, .inl (cI, n2, .inl f2))] H := hP.sub [0, 1, 2, 3] rfl
              have hD9 : va_D A [(h, .inr (0, [.ref a, .int (iZ (k : Int))])), (a, .inl (cI, n, .inl f)), (h2, .inr (0, [.ref a2, .int (iZ (k2 : Int))])), (a2, .inl (cI, n2, .inl f2))] := hD.sub [0, 1, 2, 3] (by decide) rfl
              rw [hQ, ← hAe]
              refine r_i (v := (iZ 1)) K 1 hS d_Wh_against_85 ?_ (fun t ht hv => ?_)
              · refine ⟨rfl, ?_⟩
                have ek : k = k2 := by omega
                have e1 := r1.1
                have e2 := r2.1
                rw [← ek] at e2
                have ne : uw (f (j - 1)) ≠ uw (f2 (j - 1)) := fun z => c51 (uw_inj z)
                have q : vV f2 k < vV f k := (vV_cmp (i := j - 1) (by omega) (fun x y1 y2 => (iz x (by omega) y2).symm) (by omega))
                rw [e1, e2] at q
                exact (cmpZ_gt' q).symm
              · exact ⟨by rw [ht]; exact hP9, va_K.moved hv hK, by rw [← hAe]; exact hD9⟩
            · refine lv_iconst (v := iZ (-1)) hx hb d_Wh_against_80 (by decide +kernel) ?_
              refine lv_goto (tgt := 85) hx hb d_Wh_against_81 (by decide) ?_
              have hP9 : va_P D cls0 [(h, .inr (0, [.ref a, .int (iZ (k : Int))])), (a, .inl (cI, n, .inl f)), (h2, .inr (0, [.ref a2, .int (iZ (k2 : Int))])), (a2, .inl (cI, n2, .inl f2))] H := hP.sub [0, 1, 2, 3] rfl
              have hD9 : va_D A [(h, .inr (0, [.ref a, .int (iZ (k : Int))])), (a, .inl (cI, n, .inl f)), (h2, .inr (0, [.ref a2, .int (iZ (k2 : Int))])), (a2, .inl (cI, n2, .inl f2))] := hD.sub [0, 1, 2, 3] (by decide) rfl
              rw [hQ, ← hAe]
              refine r_i (v := (iZ (-1))) K (-1) hS d_Wh_against_85 ?_ (fun t ht hv => ?_)
              · refine ⟨rfl, ?_⟩
                have ek : k = k2 := by omega
                have e1 := r1.1
                have e2 := r2.1
                rw [← ek] at e2
                have q : vV f k < vV f2 k := (vV_cmp (i := j - 1) (by omega) (fun x y1 y2 => iz x (by omega) y2) (by omega))
                rw [e1, e2] at q
                exact (cmpZ_lt' q).symm
              · exact ⟨by rw [ht]; exact hP9, va_K.moved hv hK, by rw [← hAe]; exact hD9⟩
    exact L35 _ k _ _ _ (Nat.lt_succ_self _) (Nat.le_refl k) (by omega) (fun i h1 h2 => absurd h1 (by omega)) (hP.sub (ws' := [(h, .inr (0, [.ref a, .int (iZ (k : Int))])), (a, .inl (cI, n, .inl f)), (h2, .inr (0, [.ref a2, .int (iZ (k2 : Int))])), (a2, .inl (cI, n2, .inl f2))]) [0, 1, 2, 3] rfl) (hD.sub (ws' := [(h, .inr (0, [.ref a, .int (iZ (k : Int))])), (a, .inl (cI, n, .inl f)), (h2, .inr (0, [.ref a2, .int (iZ (k2 : Int))])), (a2, .inl (cI, n2, .inl f2))]) [0, 1, 2, 3] (by decide) rfl) hS (lv_sub hl [1, 2, 0] rfl)
  · refine lv_aload_n hx hb d_Wh_against_11 rfl (lv_at hl 0 rfl) ?_
    refine va_get (D := D) (ci := 0) (v := .int (iZ (k : Int))) (C := R_Wh) (T := F_Wh) (N := 2) hx hb hts i_Wh hown hK hP 0 rfl rfl 1 (by decide) (hts _ (big_in mw_94 rfl)) (fun _ h9 => h9) rfl d_Wh_against_12 ?_
    refine lv_aload_n hx hb d_Wh_against_15 rfl (lv_at hl 1 rfl) ?_
    refine va_get (D := D) (ci := 0) (v := .int (iZ (k2 : Int))) (C := R_Wh) (T := F_Wh) (N := 2) hx hb hts i_Wh hown hK hP 2 rfl rfl 1 (by decide) (hts _ (big_in mw_94 rfl)) (fun _ h9 => h9) rfl d_Wh_against_16 ?_
    refine zz_icmp_ge (tgt := 26) hx hb d_Wh_against_19 (by decide) (by omega) (by omega) (fun c19 => ?_) (fun c19 => ?_)
    · refine lv_iconst (v := iZ (1)) hx hb d_Wh_against_26 (by decide +kernel) ?_
      have hP9 : va_P D cls0 [(h, .inr (0, [.ref a, .int (iZ (k : Int))])), (a, .inl (cI, n, .inl f)), (h2, .inr (0, [.ref a2, .int (iZ (k2 : Int))])), (a2, .inl (cI, n2, .inl f2))] H := hP.sub [0, 1, 2, 3] rfl
      have hD9 : va_D A [(h, .inr (0, [.ref a, .int (iZ (k : Int))])), (a, .inl (cI, n, .inl f)), (h2, .inr (0, [.ref a2, .int (iZ (k2 : Int))])), (a2, .inl (cI, n2, .inl f2))] := hD.sub [0, 1, 2, 3] (by decide) rfl
      rw [hQ, ← hAe]
      refine r_i (v := (iZ 1)) K 1 hS d_Wh_against_27 ?_ (fun t ht hv => ?_)
      · exact ⟨rfl, (cmpZ_gt' (r2.sizeLt r1 (by omega))).symm⟩
      · exact ⟨by rw [ht]; exact hP9, va_K.moved hv hK, by rw [← hAe]; exact hD9⟩
    · refine lv_iconst (v := iZ (-1)) hx hb d_Wh_against_22 (by decide +kernel) ?_
      refine lv_goto (tgt := 27) hx hb d_Wh_against_23 (by decide) ?_
      have hP9 : va_P D cls0 [(h, .inr (0, [.ref a, .int (iZ (k : Int))])), (a, .inl (cI, n, .inl f)), (h2, .inr (0, [.ref a2, .int (iZ (k2 : Int))])), (a2, .inl (cI, n2, .inl f2))] H := hP.sub [0, 1, 2, 3] rfl
      have hD9 : va_D A [(h, .inr (0, [.ref a, .int (iZ (k : Int))])), (a, .inl (cI, n, .inl f)), (h2, .inr (0, [.ref a2, .int (iZ (k2 : Int))])), (a2, .inl (cI, n2, .inl f2))] := hD.sub [0, 1, 2, 3] (by decide) rfl
      rw [hQ, ← hAe]
      refine r_i (v := (iZ (-1))) K (-1) hS d_Wh_against_27 ?_ (fun t ht hv => ?_)
      · exact ⟨rfl, (cmpZ_lt' (r1.sizeLt r2 (by omega))).symm⟩
      · exact ⟨by rw [ht]; exact hP9, va_K.moved hv hK, by rw [← hAe]; exact hD9⟩
