/-! WHOLE: bits, and the steps of the long division -/
theorem Rp.bits {f : Nat → Int32} {k v : Nat} (h : Rp f k v) (hk : 0 < k) : bl v = 32 * (k - 1) + bl (uw (f (k - 1))) := by
  obtain ⟨m, rfl⟩ : ∃ m, k = m + 1 := ⟨k - 1, by omega⟩
  have e0 : m + 1 - 1 = m := by omega
  rw [e0]
  have ht : f m ≠ 0 := by
    rcases h.2 with q | q
    · omega
    · rwa [e0] at q
  have hp : 0 < uw (f m) := Nat.pos_of_ne_zero (fun z => ht (uw_eq0.mp z))
  have h1 := bl_self (uw (f m))
  have h2 := bl_ge hp
  have h3 := bl_pos hp
  have hv := h.1
  rw [vV_s] at hv
  have hl := vV_lt f m
  rw [pB_two] at hl hv
  apply bl_of (by omega)
  · have e1 : 32 * m + bl (uw (f m)) - 1 = 32 * m + (bl (uw (f m)) - 1) := by omega
    rw [e1, Nat.pow_add]
    have : 2 ^ (32 * m) * 2 ^ (bl (uw (f m)) - 1) ≤ 2 ^ (32 * m) * uw (f m) := Nat.mul_le_mul_left _ h2
    rw [Nat.mul_comm (2 ^ (32 * m)) (uw (f m))] at this
    omega
  · rw [Nat.pow_add]
    have : 2 ^ (32 * m) * (uw (f m) + 1) ≤ 2 ^ (32 * m) * 2 ^ bl (uw (f m)) := Nat.mul_le_mul_left _ h1
    rw [Nat.mul_add, Nat.mul_one, Nat.mul_comm (2 ^ (32 * m)) (uw (f m))] at this
    omega
theorem i32r (x : Int32) : -2147483648 ≤ x.toInt ∧ x.toInt < 2147483648 := ⟨Int32.le_toInt x, Int32.toInt_lt x⟩
theorem uw_toInt (x : Int32) : (x.toInt % 4294967296).toNat = uw x := by rw [← uw_iZ, iZ_self]
section ZR
variable {p : Program} {l : Launch} {e : Env} {R : Room} {s : State} {m : MethodId} {args : Array Value} {below : List Frame} {meth : Method} {c : Code} {H : Heap} {locs : List Loc} {cells slots : Nat} {Q : State → Prop} {pc : Nat} {ls : Array Slot} {rest : List Value}
theorem zz_raw {x : Int32} (k : W p l e R s m args below meth c H locs cells slots Q (F0 m pc ls (.int (iZ x.toInt) :: rest))) : W p l e R s m args below meth c H locs cells slots Q (F0 m pc ls (.int x :: rest)) := by rw [iZ_self] at k; exact k
end ZR
theorem tm_step {g f f2 : Nat → Int32} {pl i cr w T : Nat} {c2 : Int} (hI : (vV (sh g pl) i : Int) - cr * pB i = vV (sh f pl) i - w * vV f2 i) (hg : g (pl + i) = f (pl + i)) (hT : T = w * uw (f2 i) + cr) (hc2 : (uw (f (pl + i)) : Int) - (T : Int) % 4294967296 - ((uw (f (pl + i)) : Int) - (T : Int) % 4294967296) % 4294967296 = ((T : Int) / 4294967296 - c2) * 4294967296) :
    (vV (sh (upd g (pl + i) (iZ ((uw (g (pl + i)) : Int) - (T : Int) % 4294967296))) pl) (i + 1) : Int) - c2 * pB (i + 1) = vV (sh f pl) (i + 1) - w * vV f2 (i + 1) := by
  rw [hg, sh_upd, vV_updS, vV_s, vV_s, pB_s, uw_iZ]
  have e3 : uw (sh f pl i) = uw (f (pl + i)) := rfl
  rw [e3]
  generalize hU : (uw (f (pl + i)) : Int) = U at *
  generalize hlf : U - (T : Int) % 4294967296 = lf at *
  have e2 : ((lf % 4294967296).toNat : Int) = lf % 4294967296 := Int.toNat_of_nonneg (Int.emod_nonneg _ (by decide))
  have hTd : (T : Int) = 4294967296 * ((T : Int) / 4294967296) + (T : Int) % 4294967296 := (Int.mul_ediv_add_emod _ _).symm
  have key : lf % 4294967296 - c2 * 4294967296 = U - T := by omega
  have k2 : (lf % 4294967296) * (pB i : Int) - c2 * 4294967296 * pB i = U * pB i - T * pB i := by rw [← Int.sub_mul, key, Int.sub_mul]
  have k3 : (T : Int) * pB i = w * (uw (f2 i) * pB i) + cr * pB i := by rw [hT, Int.natCast_add, Int.natCast_mul, Int.add_mul, Int.mul_assoc]
  simp only [Int.natCast_add, Int.natCast_mul, e2, hU]
  have k4 : c2 * ((pB i : Int) * ((4294967296 : Nat) : Int)) = c2 * 4294967296 * pB i := by rw [Int.mul_comm (pB i : Int), ← Int.mul_assoc]; rfl
  have k5 : (w : Int) * ((vV f2 i : Int) + (uw (f2 i) : Int) * (pB i : Int)) = w * vV f2 i + w * (uw (f2 i) * pB i) := Int.mul_add ..
  rw [k4, k5]
  omega
theorem gb_end {g f f2 : Nat → Int32} {pl k2 cr : Nat} (hI : vV (sh g pl) k2 + cr * pB k2 = vV (sh f pl) k2 + vV f2 k2) (hc : cr ≤ 1) (hg : g (pl + k2) = f (pl + k2)) :
    vV (sh (upd g (pl + k2) (g (pl + k2) + iZ (cr : Int))) pl) (k2 + 1) = (vV (sh f pl) (k2 + 1) + vV f2 k2) % pB (k2 + 1) := by
  have hx : uw (g (pl + k2) + iZ (cr : Int)) = (uw (f (pl + k2)) + cr) % 4294967296 := by
    rw [hg]
    conv => lhs; rw [← iZ_uw (f (pl + k2)), iZ_add, uw_iZ]
    omega
  have hlt := vV_lt (sh (upd g (pl + k2) (g (pl + k2) + iZ (cr : Int))) pl) (k2 + 1)
  rw [sh_upd, vV_updS, hx] at *
  rw [vV_s]
  have e3 : uw (sh f pl k2) = uw (f (pl + k2)) := rfl
  rw [e3]
  have q := ca_eq (uw (f (pl + k2)) + cr) (pB k2)
  rw [Nat.add_mul, ← pB_s] at q
  generalize (uw (f (pl + k2)) + cr) / 4294967296 = d at q
  have e4 : vV (sh f pl) k2 + uw (f (pl + k2)) * pB k2 + vV f2 k2 = (vV (sh g pl) k2 + (uw (f (pl + k2)) + cr) % 4294967296 * pB k2) + pB (k2 + 1) * d := by rw [Nat.mul_comm (pB (k2 + 1)) d]; omega
  rw [e4, Nat.add_mul_mod_self_left, Nat.mod_eq_of_lt hlt]
/-- the window and the divisor, by their limbs -/
theorem kd_of {f f2 : Nat → Int32} {pl m : Nat} (hd : 2147483648 ≤ uw (f2 (m + 1))) (hU : vV (sh f pl) (m + 3) < 4294967296 * vV f2 (m + 2)) : kd_W (vV f2 (m + 2)) (vV (sh f pl) (m + 3)) (pB m) (uw (f2 (m + 1))) (uw (f2 m)) (vV f2 m) (uw (f (pl + (m + 2)))) (uw (f (pl + (m + 1)))) (uw (f (pl + m))) (vV (sh f pl) m) := by
  refine ⟨?_, ?_, vV_lt _ _, vV_lt _ _, uw_lt _, uw_lt _, hd, uw_lt _, uw_lt _, hU⟩
  · rw [vV_s, vV_s, pB_s, Nat.add_mul, Nat.mul_assoc, Nat.mul_comm 4294967296 (pB m)]; omega
  · have e3 : ∀ x, uw (sh f pl x) = uw (f (pl + x)) := fun _ => rfl
    have p1 : pB (m + 1) = pB m * 4294967296 := pB_s m
    have p2 : pB (m + 2) = pB m * 4294967296 * 4294967296 := by rw [pB_s (m + 1), p1]
    rw [vV_s, vV_s, vV_s, p2, p1, e3, e3, e3]
    generalize uw (f (pl + (m + 2))) = x0
    generalize uw (f (pl + (m + 1))) = x1
    generalize uw (f (pl + m)) = x2
    have a1 : ((x0 * 4294967296 + x1) * 4294967296 + x2) * pB m = x0 * (pB m * 4294967296 * 4294967296) + x1 * (pB m * 4294967296) + x2 * pB m := by
      have b1 : x0 * 4294967296 * 4294967296 * pB m = x0 * (pB m * 4294967296 * 4294967296) := by rw [Nat.mul_assoc, Nat.mul_assoc, Nat.mul_comm 4294967296 (4294967296 * pB m), Nat.mul_comm 4294967296 (pB m)]
      have b2 : x1 * 4294967296 * pB m = x1 * (pB m * 4294967296) := by rw [Nat.mul_assoc, Nat.mul_comm 4294967296 (pB m)]
      rw [Nat.add_mul, Nat.add_mul, Nat.add_mul, b1, b2]
    rw [a1]; omega
set_option maxHeartbeats 4000000 in
set_option maxRecDepth 100000 in
/-- bits() -/
theorem c_Wh_bits (l : Launch) (D : va_G) (h : Nat) (a : Nat) (k : Nat) (n : Nat) (f : Nat → Int32) (cI : ClassId) (v : Nat) (sz : Nat) (rv : Rp f k v) (hk : k ≤ n) (hn : n < 1000000) : Met l y_Wh_bits (wsB y_Wh_bits b_Wh_bits 1 (some .int)) ({ frames := 1, cells := 0, slots := 0, locals := 21 }) (va_Pc [.ref h] (wPre D [(cI, .int)] [(h, .inr (0, [.ref a, .int (iZ (k : Int))])), (a, .inl (cI, n, .inl f))] sz)) (va_QV (fun (v9 : Option Value) (u9 : Int) => v9 = some (.int (iZ u9)) ∧ (u9 = (bl v : Int))) (fun u9 => wPost D [(cI, .int)] [(h, .inr (0, [.ref a, .int (iZ (k : Int))])), (a, .inl (cI, n, .inl f))] [(h, .inr (0, [.ref a, .int (iZ (k : Int))])), (a, .inl (cI, n, .inl f))] sz) (va_A [(h, .inr (0, [.ref a, .int (iZ (k : Int))])), (a, .inl (cI, n, .inl f))] sz)) 0 0 (va_A [(h, .inr (0, [.ref a, .int (iZ (k : Int))])), (a, .inl (cI, n, .inl f))] sz) := by
  refine met_enter (by decide +kernel) (Nat.le_of_ble_eq_true rfl) ?_
  intro p e s m args below meth c ls A R Q H locs K hin hAe hA hR hQ hP hK hD hS hl
  obtain ⟨hx, hb, hml, hrt, hlk, hts, hown, hno⟩ := id K
  have hl : lv_has ls 1 [(0, .ref h)] := hl
  refine lv_aload_n hx hb d_Wh_bits_0 rfl (lv_at hl 0 rfl) ?_
  refine va_get (D := D) (ci := 0) (v := .int (iZ (k : Int))) (C := R_Wh) (T := F_Wh) (N := 2) hx hb hts i_Wh hown hK hP 0 rfl rfl 1 (by decide) (hts _ (big_in mw_94 rfl)) (fun _ h9 => h9) rfl d_Wh_bits_1 ?_
  refine zz_if_ne (tgt := 11) hx hb d_Wh_bits_4 (by decide) (by omega) (fun c4 => ?_) (fun c4 => ?_)
  · refine lv_bipush (v := iZ (32)) hx hb d_Wh_bits_11 (by decide +kernel) ?_
    refine lv_aload_n hx hb d_Wh_bits_13 rfl (lv_at hl 0 rfl) ?_
    refine va_get (D := D) (ci := 0) (v := .int (iZ (k : Int))) (C := R_Wh) (T := F_Wh) (N := 2) hx hb hts i_Wh hown hK hP 0 rfl rfl 1 (by decide) (hts _ (big_in mw_94 rfl)) (fun _ h9 => h9) rfl d_Wh_bits_14 ?_
    refine zz_imul hx hb d_Wh_bits_17 ?_
    refine lv_aload_n hx hb d_Wh_bits_18 rfl (lv_at hl 0 rfl) ?_
    refine va_get (D := D) (ci := 0) (v := .ref a) (C := R_Wh) (T := F_Wh) (N := 2) hx hb hts i_Wh hown hK hP 0 rfl rfl 0 (by decide) (hts _ (big_in mw_90 rfl)) (fun _ h9 => h9) rfl d_Wh_bits_19 ?_
    refine lv_aload_n hx hb d_Wh_bits_22 rfl (lv_at hl 0 rfl) ?_
    refine va_get (D := D) (ci := 0) (v := .int (iZ (k : Int))) (C := R_Wh) (T := F_Wh) (N := 2) hx hb hts i_Wh hown hK hP 0 rfl rfl 1 (by decide) (hts _ (big_in mw_94 rfl)) (fun _ h9 => h9) rfl d_Wh_bits_23 ?_
    refine lv_iconst (v := iZ (1)) hx hb d_Wh_bits_26 (by decide +kernel) ?_
    refine zz_isub hx hb d_Wh_bits_27 ?_
    refine zz_iald hx hb hK hP 1 0 rfl rfl (k - 1) (by omega) (by omega) (by omega) d_Wh_bits_28 ?_
    refine zz_raw ?_
    have br := i32r (f (k - 1))
    have bu := uw_toInt (f (k - 1))
    refine cs (n := 1) (wr := [(h, .inr (0, [.ref a, .int (iZ (k : Int))])), (a, .inl (cI, n, .inl f))]) (w1 := (fun (u : Int) => [])) (As := [.int (iZ ((f (k - 1)).toInt))]) (rest := [.int (iZ (32 * (k : Int)))]) K hP hD hK hS hA hl.1 (c_jInt_numberOfLeadingZeros l D ((f (k - 1)).toInt) H.size (by omega)) [] [0, 1] [] rfl rfl rfl (by decide) (by decide) (by decide) (big_in mw_437 rfl) (big_in mw_18 rfl) (big_in mw_435 rfl) (big_in mw_436 rfl) rfl rfl (by decide +kernel) ⟨by rw [hR]; exact Nat.le_of_ble_eq_true rfl, by rw [hR]; exact Nat.le_of_ble_eq_true rfl⟩ rfl (Nat.le_of_ble_eq_true rfl) d_Wh_bits_29 ⟨by rw [hR]; exact Nat.le_of_ble_eq_true rfl, by rw [hR]; exact Nat.le_of_ble_eq_true rfl⟩ rfl (fun v u H locs hp1 hP hD hS _ => ?_)
    obtain ⟨rz, rfl⟩ : ∃ z, z = u := ⟨_, rfl⟩
    obtain ⟨rfl, g1⟩ := hp1
    have hP : va_P D cls0 [(h, .inr (0, [.ref a, .int (iZ (k : Int))])), (a, .inl (cI, n, .inl f))] H := hP
    have hD : va_D A [(h, .inr (0, [.ref a, .int (iZ (k : Int))])), (a, .inl (cI, n, .inl f))] := hD
    show W p l e R s m args below meth c H locs _ _ Q (F0 m 32 ls [.int (iZ rz), .int (iZ (32 * (k : Int)))])
    refine zz_isub hx hb d_Wh_bits_32 ?_
    have hP9 : va_P D cls0 [(h, .inr (0, [.ref a, .int (iZ (k : Int))])), (a, .inl (cI, n, .inl f))] H := hP.sub [0, 1] rfl
    have hD9 : va_D A [(h, .inr (0, [.ref a, .int (iZ (k : Int))])), (a, .inl (cI, n, .inl f))] := hD.sub [0, 1] (by decide) rfl
    rw [hQ, ← hAe]
    refine r_i (v := (iZ (32 * (k : Int) - rz))) K (32 * (k : Int) - rz) hS d_Wh_bits_33 ?_ (fun t ht hv => ?_)
    · refine ⟨rfl, ?_⟩
      rw [rv.bits (by omega), g1, bu]; omega
    · exact ⟨by rw [ht]; exact hP9, va_K.moved hv hK, by rw [← hAe]; exact hD9⟩
  · refine lv_iconst (v := iZ (0)) hx hb d_Wh_bits_7 (by decide +kernel) ?_
    refine lv_goto (tgt := 33) hx hb d_Wh_bits_8 (by decide) ?_
    have hP9 : va_P D cls0 [(h, .inr (0, [.ref a, .int (iZ (k : Int))])), (a, .inl (cI, n, .inl f))] H := hP.sub [0, 1] rfl
    have hD9 : va_D A [(h, .inr (0, [.ref a, .int (iZ (k : Int))])), (a, .inl (cI, n, .inl f))] := hD.sub [0, 1] (by decide) rfl
    rw [hQ, ← hAe]
    refine r_i (v := (iZ 0)) K 0 hS d_Wh_bits_33 ?_ (fun t ht hv => ?_)
    · refine ⟨rfl, ?_⟩
      have h0 : v = 0 := by have := rv.size; have q := rv.pos; omega
      rw [h0, bl_0]; rfl
    · exact ⟨by rw [ht]; exact hP9, va_K.moved hv hK, by rw [← hAe]; exact hD9⟩
set_option maxHeartbeats 4000000 in
set_option maxRecDepth 100000 in
/-- widen(count): zeros up to the count -/
theorem c_Wh_widen (l : Launch) (D : va_G) (h : Nat) (a : Nat) (k : Nat) (n : Nat) (f : Nat → Int32) (cI : ClassId) (v : Nat) (cnt : Nat) (sz : Nat) (rv : vV f k = v) (hk : k ≤ n) (hc : cnt ≤ n) (hn : n < 1000000) : Met l y_Wh_widen (wsB y_Wh_widen b_Wh_widen 2 none) ({ frames := 2, cells := 0, slots := 0, locals := 46 }) (va_Pc [.ref h, .int (iZ (cnt : Int))] (wPre D [(cI, .int)] [(h, .inr (0, [.ref a, .int (iZ (k : Int))])), (a, .inl (cI, n, .inl f))] sz)) (va_QV (fun (v9 : Option Value) (u9 : Nat × (Nat → Int32)) => v9 = none ∧ (u9.1 = max k cnt) ∧ (vV u9.2 u9.1 = v)) (fun u9 => wPost D [(cI, .int)] [(h, .inr (0, [.ref a, .int (iZ (k : Int))])), (a, .inl (cI, n, .inl f))] [(h, .inr (0, [.ref a, .int (iZ (u9.1 : Int))])), (a, .inl (cI, n, .inl u9.2))] sz) (va_A [(h, .inr (0, [.ref a, .int (iZ (k : Int))])), (a, .inl (cI, n, .inl f))] sz)) 0 0 (va_A [(h, .inr (0, [.ref a, .int (iZ (k : Int))])), (a, .inl (cI, n, .inl f))] sz) := by
  refine met_enter (by decide +kernel) (Nat.le_of_ble_eq_true rfl) ?_
  intro p e s m args below meth c ls A R Q H locs K hin hAe hA hR hQ hP hK hD hS hl
  obtain ⟨hx, hb, hml, hrt, hlk, hts, hown, hno⟩ := id K
  have hl : lv_has ls 2 [(0, .ref h), (1, .int (iZ (cnt : Int)))] := hl
  refine lv_aload_n hx hb d_Wh_widen_0 rfl (lv_at hl 0 rfl) ?_
  refine lv_iload_n hx hb d_Wh_widen_1 rfl (lv_at hl 1 rfl) ?_
  refine cv (n := 1) (wr := []) (w1 := (fun (u : Unit) => [(h, .inr (0, [.ref a, .int (iZ (k : Int))])), (a, .inl (cI, n, .inl f))])) (As := [.int (iZ (cnt : Int))]) (rest := []) K hP hD hK hS hA hl.1 (c_Wh_claim l D h a (iZ (k : Int)) n f cI (cnt : Int) H.size (by omega) (by omega)) [0, 1] [] [0] rfl rfl rfl (by decide) (by decide) (by decide) 0 rfl rfl (big_in mw_406 rfl) (big_in mw_6 rfl) (big_in mw_403 rfl) (big_in mw_405 rfl) (big_in sp_2 rfl) rfl rfl (by decide +kernel) ⟨by rw [hR]; exact Nat.le_of_ble_eq_true rfl, by rw [hR]; exact Nat.le_of_ble_eq_true rfl⟩ rfl (Nat.le_of_ble_eq_true rfl) d_Wh_widen_2 ⟨by rw [hR]; exact Nat.le_of_ble_eq_true rfl, by rw [hR]; exact Nat.le_of_ble_eq_true rfl⟩ rfl (fun v u H locs hp1 hP hD hS _ => ?_)
  obtain rfl := hp1
  have hP : va_P D cls0 [(h, .inr (0, [.ref a, .int (iZ (k : Int))])), (a, .inl (cI, n, .inl f))] H := hP
  have hD : va_D A [(h, .inr (0, [.ref a, .int (iZ (k : Int))])), (a, .inl (cI, n, .inl f))] := hD
  show W p l e R s m args below meth c H locs _ _ Q (F0 m 5 ls [])
  refine lv_iload_n hx hb d_Wh_widen_5 rfl (lv_at hl 1 rfl) ?_
  refine lv_aload_n hx hb d_Wh_widen_6 rfl (lv_at hl 0 rfl) ?_
  refine va_get (D := D) (ci := 0) (v := .int (iZ (k : Int))) (C := R_Wh) (T := F_Wh) (N := 2) hx hb hts i_Wh hown hK hP 0 rfl rfl 1 (by decide) (hts _ (big_in mw_94 rfl)) (fun _ h9 => h9) rfl d_Wh_widen_7 ?_
  refine zz_icmp_le (tgt := 31) hx hb d_Wh_widen_10 (by decide) (by omega) (by omega) (fun c10 => ?_) (fun c10 => ?_)
  · have hP9 : va_P D cls0 [(h, .inr (0, [.ref a, .int (iZ (k : Int))])), (a, .inl (cI, n, .inl f))] H := hP.sub [0, 1] rfl
    have hD9 : va_D A [(h, .inr (0, [.ref a, .int (iZ (k : Int))])), (a, .inl (cI, n, .inl f))] := hD.sub [0, 1] (by decide) rfl
    rw [hQ, ← hAe]
    refine r_v K (k, f) hS d_Wh_widen_31 ?_ (fun t ht hv => ?_)
    · exact ⟨rfl, by omega, rv⟩
    · exact ⟨by rw [ht]; exact hP9, va_K.moved hv hK, by rw [← hAe]; exact hD9⟩
  · refine lv_aload_n hx hb d_Wh_widen_13 rfl (lv_at hl 0 rfl) ?_
    refine va_get (D := D) (ci := 0) (v := .ref a) (C := R_Wh) (T := F_Wh) (N := 2) hx hb hts i_Wh hown hK hP 0 rfl rfl 0 (by decide) (hts _ (big_in mw_90 rfl)) (fun _ h9 => h9) rfl d_Wh_widen_14 ?_
    refine lv_aload_n hx hb d_Wh_widen_17 rfl (lv_at hl 0 rfl) ?_
    refine va_get (D := D) (ci := 0) (v := .int (iZ (k : Int))) (C := R_Wh) (T := F_Wh) (N := 2) hx hb hts i_Wh hown hK hP 0 rfl rfl 1 (by decide) (hts _ (big_in mw_94 rfl)) (fun _ h9 => h9) rfl d_Wh_widen_18 ?_
    refine lv_iload_n hx hb d_Wh_widen_21 rfl (lv_at hl 1 rfl) ?_
    refine lv_iconst (v := iZ (0)) hx hb d_Wh_widen_22 (by decide +kernel) ?_
    refine cs (n := 4) (wr := [(h, .inr (0, [.ref a, .int (iZ (k : Int))]))]) (w1 := (fun (u : Unit) => [(a, .inl (cI, n, .inl (fillF f k cnt (iZ 0))))])) (As := [.ref a, .int (iZ (k : Int)), .int (iZ (cnt : Int)), .int (iZ 0)]) (rest := []) K hP hD hK hS hA hl.1 (c_jArr_fill l D a n f cI k cnt (iZ 0) H.size (by omega) (by omega) (by omega)) [1] [0] [0] rfl rfl rfl (by decide) (by decide) (by decide) (big_in mw_460 rfl) (big_in mw_19 rfl) (big_in mw_458 rfl) (big_in mw_459 rfl) rfl rfl (by decide +kernel) ⟨by rw [hR]; exact Nat.le_of_ble_eq_true rfl, by rw [hR]; exact Nat.le_of_ble_eq_true rfl⟩ rfl (Nat.le_of_ble_eq_true rfl) d_Wh_widen_23 ⟨by rw [hR]; exact Nat.le_of_ble_eq_true rfl, by rw [hR]; exact Nat.le_of_ble_eq_true rfl⟩ rfl (fun v u H locs hp2 hP hD hS _ => ?_)
    obtain rfl := hp2
    have hP : va_P D cls0 [(h, .inr (0, [.ref a, .int (iZ (k : Int))])), (a, .inl (cI, n, .inl (fillF f k cnt (iZ 0))))] H := hP
    have hD : va_D A [(h, .inr (0, [.ref a, .int (iZ (k : Int))])), (a, .inl (cI, n, .inl (fillF f k cnt (iZ 0))))] := hD
    show W p l e R s m args below meth c H locs _ _ Q (F0 m 26 ls [])
    refine lv_aload_n hx hb d_Wh_widen_26 rfl (lv_at hl 0 rfl) ?_
    refine lv_iload_n hx hb d_Wh_widen_27 rfl (lv_at hl 1 rfl) ?_
    refine va_put (D := D) (ci := 0) (v := .int (iZ (cnt : Int))) (ty := .int) (C := R_Wh) (T := F_Wh) (N := 2) hx hb hts i_Wh t_Wh t_Wh_ok n_Wh hown hK hP hD hS 0 rfl rfl 1 (by decide) (hts _ (big_in mw_94 rfl)) (fun _ h9 => h9) rfl (by decide +kernel) rfl rfl (Nat.le_of_ble_eq_true rfl) d_Wh_widen_28 (fun H locs hP hD hS => ?_)
    have hP : va_P D cls0 [(h, .inr (0, [.ref a, .int (iZ (cnt : Int))])), (a, .inl (cI, n, .inl (fillF f k cnt (iZ 0))))] H := hP
    have hD : va_D A [(h, .inr (0, [.ref a, .int (iZ (cnt : Int))])), (a, .inl (cI, n, .inl (fillF f k cnt (iZ 0))))] := hD
    have hP9 : va_P D cls0 [(h, .inr (0, [.ref a, .int (iZ (cnt : Int))])), (a, .inl (cI, n, .inl (fillF f k cnt (iZ 0))))] H := hP.sub [0, 1] rfl
    have hD9 : va_D A [(h, .inr (0, [.ref a, .int (iZ (cnt : Int))])), (a, .inl (cI, n, .inl (fillF f k cnt (iZ 0))))] := hD.sub [0, 1] (by decide) rfl
    rw [hQ, ← hAe]
    refine r_v K (cnt, fillF f k cnt (iZ 0)) hS d_Wh_widen_31 ?_ (fun t ht hv => ?_)
    · try dsimp only
      refine ⟨rfl, by omega, ?_⟩
      rw [vV_zeros (n := k) (by omega) (fun i h1 h2 => by rw [fillF_in h1 h2]; rfl), vV_congr (fun i hi => fillF_out (Or.inl hi)), rv]
    · exact ⟨by rw [ht]; exact hP9, va_K.moved hv hK, by rw [← hAe]; exact hD9⟩
