/-! RATIO; the low zeros -/
theorem two_split : ∀ n : Nat, 0 < n → ∃ t m, n = 2 ^ t * (2 * m + 1) := by
  intro n
  induction n using Nat.strongRecOn with
  | _ n ih =>
    intro h
    rcases Nat.mod_two_eq_zero_or_one n with q | q
    · obtain ⟨t, m, e⟩ := ih (n / 2) (by omega) (by omega)
      refine ⟨t + 1, m, ?_⟩
      rw [Nat.pow_succ, Nat.mul_right_comm, ← e]; omega
    · exact ⟨0, n / 2, by rw [Nat.pow_zero, Nat.one_mul]; omega⟩
theorem tz_lt {n t m : Nat} (h : n = 2 ^ t * (2 * m + 1)) (hn : n < 4294967296) : t < 32 := by
  apply Nat.lt_of_not_le
  intro q
  have := Nat.pow_le_pow_right (show 0 < 2 by decide) q
  have : 2 ^ t ≤ n := by rw [h]; exact Nat.le_mul_of_pos_right _ (by omega)
  omega
theorem tz_bits {n t m : Nat} (h : n = 2 ^ t * (2 * m + 1)) (hn : n < 4294967296) : (4294967296 - (n + 1)) &&& (n - 1) = 2 ^ t - 1 := by
  have hp := Nat.two_pow_pos t
  have e1 : n - 1 = 2 ^ t * (2 * m) + (2 ^ t - 1) := by rw [h, Nat.mul_add]; omega
  apply Nat.eq_of_testBit_eq
  intro i
  have e2 : n = 2 ^ t * (2 * m + 1) + 0 := by omega
  rw [Nat.testBit_and, show (4294967296 : Nat) = 2 ^ 32 by decide, Nat.testBit_two_pow_sub_succ hn, e1, Nat.testBit_two_pow_mul_add _ (by omega)]
  conv => lhs; lhs; rw [e2, Nat.testBit_two_pow_mul_add _ hp]
  rw [Nat.testBit_two_pow_sub_one]
  by_cases h1 : i < t
  · have ht := tz_lt h hn
    simp [h1]; omega
  · simp only [h1, if_false, decide_false]
    rcases Nat.eq_zero_or_pos (i - t) with q | q
    · rw [q, Nat.testBit_zero]; simp
    · obtain ⟨j, hj⟩ : ∃ j, i - t = j + 1 := ⟨i - t - 1, by omega⟩
      rw [hj, Nat.testBit_succ, Nat.testBit_succ, show (2 * m + 1) / 2 = m by omega, show 2 * m / 2 = m by omega]
      cases m.testBit j <;> simp
theorem ntz_and {x : Int32} (h : x ≠ 0) : ∃ t, t < 32 ∧ ((x ^^^ iZ (-1)) &&& (x - iZ 1)) = iZ ((2 ^ t - 1 : Nat) : Int) ∧ uw x % 2 ^ t = 0 ∧ uw x / 2 ^ t % 2 = 1 := by
  have hx := uw_lt x
  have h0 : 0 < uw x := Nat.pos_of_ne_zero (fun q => h (uw_eq0.mp q))
  obtain ⟨t, m, e⟩ := two_split (uw x) h0
  have ht := tz_lt e hx
  have hp := Nat.two_pow_pos t
  refine ⟨t, ht, ?_, by rw [e, Nat.mul_mod_right], by rw [e, Nat.mul_div_cancel_left _ hp]; omega⟩
  have hb : 2 ^ t ≤ 2147483648 := Nat.pow_le_pow_right (show 0 < 2 by decide) (show t ≤ 31 by omega)
  apply uw_inj
  rw [uw_of_nat (by omega), ← tz_bits e hx]
  unfold uw
  rw [Int32.toBitVec_and, Int32.toBitVec_xor, Int32.toBitVec_sub, BitVec.toNat_and, iZ_bv, iZ_bv, show BitVec.ofInt 32 (-1) = BitVec.allOnes 32 by decide, BitVec.xor_allOnes, BitVec.toNat_not, BitVec.toNat_sub, show (BitVec.ofInt 32 1).toNat = 1 by decide]
  have hx' : x.toBitVec.toNat < 4294967296 := hx
  have h0' : 0 < x.toBitVec.toNat := h0
  congr 1 <;> omega
theorem gcd_tz {v r E : Nat} (h1 : v % 2 ^ r = 0) (h2 : v / 2 ^ r % 2 = 1) : Nat.gcd v (2 ^ E) = 2 ^ (min E r) := by
  have hv : v = 2 ^ r * (v / 2 ^ r) := by have := Nat.div_add_mod v (2 ^ r); omega
  have hc : Nat.Coprime (v / 2 ^ r) 2 := by
    unfold Nat.Coprime
    rw [Nat.gcd_comm, Nat.gcd_rec, h2]
    decide
  rcases Nat.le_total E r with q | q
  · rw [Nat.min_eq_left q]
    apply Nat.gcd_eq_right
    rw [hv, show r = E + (r - E) by omega, Nat.pow_add, Nat.mul_assoc]
    exact Nat.dvd_mul_right _ _
  · rw [Nat.min_eq_right q]
    conv => lhs; rw [hv, show E = r + (E - r) by omega, Nat.pow_add, Nat.gcd_mul_left]
    rw [show Nat.gcd (v / 2 ^ r) (2 ^ (E - r)) = 1 from Nat.Coprime.pow_right _ hc, Nat.mul_one]
theorem lz_end {f : Nat → Int32} {k v i t : Nat} (rv : vV f k = v) (hi : i < k) (iz : ∀ j, j < i → f j = 0) (ht : t < 32) (h1 : uw (f i) % 2 ^ t = 0) (h2 : uw (f i) / 2 ^ t % 2 = 1) : v % 2 ^ (32 * i + t) = 0 ∧ v / 2 ^ (32 * i + t) % 2 = 1 := by
  have e : k = i + ((k - i - 1) + 1) := by omega
  have z : vV f i = 0 := vV_zeros (n := 0) (Nat.zero_le _) (fun j _ h => iz j h)
  have hw : uw (f i) = 2 ^ t * (uw (f i) / 2 ^ t) := by have := Nat.div_add_mod (uw (f i)) (2 ^ t); omega
  rw [e, vV_cat, vV_low, z, Nat.zero_add, Nat.add_zero] at rv
  generalize vV (fun j => f (i + (j + 1))) (k - i - 1) = X at rv
  generalize uw (f i) / 2 ^ t = w at *
  rw [hw] at rv
  have e32 : (4294967296 : Nat) = 2 ^ t * (2 * 2 ^ (31 - t)) := by rw [← Nat.mul_assoc, ← Nat.pow_succ, ← Nat.pow_add, show t + 1 + (31 - t) = 32 by omega]
  have ev : v = 2 ^ (32 * i + t) * (w + 2 * (2 ^ (31 - t) * X)) := by
    rw [← rv, pB_two, Nat.pow_add, Nat.mul_assoc, Nat.mul_add (2 ^ t)]
    congr 2
    conv => lhs; rw [e32]
    rw [Nat.mul_assoc, Nat.mul_assoc]
  refine ⟨by rw [ev, Nat.mul_mod_right], ?_⟩
  rw [ev, Nat.mul_div_cancel_left _ (Nat.two_pow_pos _)]
  omega
/-- in lowest terms -/
def rdN (a b : Nat) : Nat := a / Nat.gcd a b
def rdD (a b : Nat) : Nat := b / Nat.gcd a b
theorem rdN_le (a b : Nat) : rdN a b ≤ a := Nat.div_le_self _ _
theorem rdD_le (a b : Nat) : rdD a b ≤ b := Nat.div_le_self _ _
theorem rdD_pos {a b : Nat} (h : 0 < b) : 0 < rdD a b := Nat.div_pos (Nat.le_of_dvd h (Nat.gcd_dvd_right _ _)) (Nat.gcd_pos_of_pos_right _ h)
theorem rdN_pos {a b : Nat} (h : 0 < a) : 0 < rdN a b := Nat.div_pos (Nat.le_of_dvd h (Nat.gcd_dvd_left _ _)) (Nat.gcd_pos_of_pos_left _ h)
theorem rd_cop {a b : Nat} (h : 0 < b) : Nat.Coprime (rdN a b) (rdD a b) := Nat.coprime_div_gcd_div_gcd (Nat.gcd_pos_of_pos_right _ h)
theorem rdN_zero (b : Nat) : rdN 0 b = 0 := Nat.zero_div _
theorem rdN_eq0 {a b : Nat} : rdN a b = 0 ↔ a = 0 := ⟨fun h => Nat.eq_zero_of_not_pos (fun q => absurd (rdN_pos (b := b) q) (by omega)), fun h => by rw [h]; exact rdN_zero b⟩
theorem rd_id {a b : Nat} (h : Nat.Coprime a b) : rdN a b = a ∧ rdD a b = b := by
  unfold rdN rdD
  rw [show Nat.gcd a b = 1 from h]
  exact ⟨Nat.div_one _, Nat.div_one _⟩
theorem rdN_one (a : Nat) : rdN a 1 = a := (rd_id (Nat.coprime_one_right a)).1
theorem rdD_one (a : Nat) : rdD a 1 = 1 := (rd_id (Nat.coprime_one_right a)).2
theorem rd_tz {v r E : Nat} (h1 : v % 2 ^ r = 0) (h2 : v / 2 ^ r % 2 = 1) : rdN v (2 ^ E) = v / 2 ^ min E r ∧ rdD v (2 ^ E) = 2 ^ (E - min E r) := by
  unfold rdN rdD
  rw [gcd_tz h1 h2]
  refine ⟨rfl, ?_⟩
  apply Nat.div_eq_of_eq_mul_left (Nat.two_pow_pos _)
  rw [← Nat.pow_add]
  congr 1
  have := Nat.min_le_left E r
  omega
set_option maxHeartbeats 4000000 in
set_option maxRecDepth 100000 in
theorem c_jInt_numberOfTrailingZeros (l : Launch) (D : va_G) (x : Int32) (sz : Nat) (h0 : x ≠ 0) : Met l y_jInt_numberOfTrailingZeros (wsB y_jInt_numberOfTrailingZeros b_jInt_numberOfTrailingZeros 2 (some .int)) ({ frames := 0, cells := 0, slots := 0, locals := 0 }) (va_Pc [.int x] (wPre D [] [] sz)) (va_QV (fun (v9 : Option Value) (u9 : Nat) => v9 = some (.int (iZ (u9 : Int))) ∧ (u9 < 32) ∧ (uw x % 2 ^ u9 = 0) ∧ (uw x / 2 ^ u9 % 2 = 1)) (fun u9 => wPost D [] [] [] sz) (va_A [] sz)) 0 0 (va_A [] sz) := by
  refine met_enter (by decide +kernel) (Nat.le_of_ble_eq_true rfl) ?_
  intro p e s m args below meth c ls A R Q H locs K hin hAe hA hR hQ hP hK hD hS hl
  obtain ⟨hx, hb, hml, hrt, hlk, hts, hown, hno⟩ := id K
  have hl : lv_has ls 2 [(0, .int x)] := hl
  refine lv_iload_n hx hb d_jInt_numberOfTrailingZeros_0 rfl (lv_at hl 0 rfl) ?_
  refine lv_iconst (v := iZ (-1)) hx hb d_jInt_numberOfTrailingZeros_1 (by decide +kernel) ?_
  refine lv_ixor hx hb d_jInt_numberOfTrailingZeros_2 ?_
  refine lv_iload_n hx hb d_jInt_numberOfTrailingZeros_3 rfl (lv_at hl 0 rfl) ?_
  refine lv_iconst (v := iZ (1)) hx hb d_jInt_numberOfTrailingZeros_4 (by decide +kernel) ?_
  refine lv_isub hx hb d_jInt_numberOfTrailingZeros_5 ?_
  refine lv_iand hx hb d_jInt_numberOfTrailingZeros_6 ?_
  obtain ⟨t, ht, ent, t1, t2⟩ := ntz_and h0
  obtain ⟨mk, hmk⟩ : ∃ y : Nat, y = 2 ^ t - 1 := ⟨_, rfl⟩
  rw [show (x ^^^ iZ (-1)) &&& (x - iZ 1) = iZ (mk : Int) by rw [hmk]; exact ent]
  have bmk : mk < 2147483648 := by have := Nat.pow_le_pow_right (show 0 < 2 by decide) (show t ≤ 31 by omega); omega
  refine lv_istore_n (lv' := [(0, .int (iZ (mk : Int)))]) hx hb d_jInt_numberOfTrailingZeros_7 rfl hl (by decide) rfl (fun ls hl => ?_)
  refine lv_iload_n hx hb d_jInt_numberOfTrailingZeros_8 rfl (lv_at hl 0 rfl) ?_
  refine zz_if_gt (tgt := 17) hx hb d_jInt_numberOfTrailingZeros_9 (by decide) (by omega) (fun c9 => ?_) (fun c9 => ?_)
  · refine lv_iconst (v := iZ (1)) hx hb d_jInt_numberOfTrailingZeros_17 (by decide +kernel) ?_
    refine lv_istore_n (lv' := [(1, .int (iZ 1)), (0, .int (iZ (mk : Int)))]) hx hb d_jInt_numberOfTrailingZeros_18 rfl hl (by decide) rfl (fun ls hl => ?_)
    refine lv_iload_n hx hb d_jInt_numberOfTrailingZeros_19 rfl (lv_at hl 1 rfl) ?_
    refine lv_ldcw (v := iZ (65536)) hx hb hown (hts _ (big_in mw_438 rfl)) d_jInt_numberOfTrailingZeros_20 ?_
    refine zz_icmp_le (tgt := 34) hx hb d_jInt_numberOfTrailingZeros_23 (by decide) (by omega) (by omega) (fun c23 => ?_) (fun c23 => ?_)
    · refine lv_iload_n hx hb d_jInt_numberOfTrailingZeros_34 rfl (lv_at hl 1 rfl) ?_
      refine lv_sipush (v := iZ (256)) hx hb d_jInt_numberOfTrailingZeros_35 (by decide +kernel) ?_
      refine zz_icmp_le (tgt := 49) hx hb d_jInt_numberOfTrailingZeros_38 (by decide) (by omega) (by omega) (fun c38 => ?_) (fun c38 => ?_)
      · refine lv_iload_n hx hb d_jInt_numberOfTrailingZeros_49 rfl (lv_at hl 1 rfl) ?_
        refine lv_bipush (v := iZ (16)) hx hb d_jInt_numberOfTrailingZeros_50 (by decide +kernel) ?_
        refine zz_icmp_le (tgt := 62) hx hb d_jInt_numberOfTrailingZeros_52 (by decide) (by omega) (by omega) (fun c52 => ?_) (fun c52 => ?_)
        · refine lv_iload_n hx hb d_jInt_numberOfTrailingZeros_62 rfl (lv_at hl 1 rfl) ?_
          refine lv_iconst (v := iZ (4)) hx hb d_jInt_numberOfTrailingZeros_63 (by decide +kernel) ?_
          refine zz_icmp_le (tgt := 74) hx hb d_jInt_numberOfTrailingZeros_64 (by decide) (by omega) (by omega) (fun c64 => ?_) (fun c64 => ?_)
          · refine lv_iload_n hx hb d_jInt_numberOfTrailingZeros_74 rfl (lv_at hl 0 rfl) ?_
            refine lv_iload_n hx hb d_jInt_numberOfTrailingZeros_75 rfl (lv_at hl 1 rfl) ?_
            refine lv_iconst (v := iZ (1)) hx hb d_jInt_numberOfTrailingZeros_76 (by decide +kernel) ?_
            refine zz_iushr (n := 1) hx hb d_jInt_numberOfTrailingZeros_77 (by omega) (by omega) (by omega) ?_
            refine zz_iadd hx hb d_jInt_numberOfTrailingZeros_78 ?_
            have hP9 : va_P D cls0 [] H := hP.sub [] rfl
            have hD9 : va_D A [] := hD.sub [] (by decide) rfl
            rw [hQ, ← hAe]
            refine r_i (v := (iZ (1 + ((mk : Int) / 2 ^ 1)))) K t hS d_jInt_numberOfTrailingZeros_79 ?_ (fun t ht hv => ?_)
            · have er : 1 + ((mk : Int) / 2 ^ 1) = (t : Int) := by
                clear t1 t2 ent hP9 hD9
                rcases (show t = 0 ∨ t = 1 ∨ t = 2 ∨ t = 3 ∨ t = 4 ∨ t = 5 ∨ t = 6 ∨ t = 7 ∨ t = 8 ∨ t = 9 ∨ t = 10 ∨ t = 11 ∨ t = 12 ∨ t = 13 ∨ t = 14 ∨ t = 15 ∨ t = 16 ∨ t = 17 ∨ t = 18 ∨ t = 19 ∨ t = 20 ∨ t = 21 ∨ t = 22 ∨ t = 23 ∨ t = 24 ∨ t = 25 ∨ t = 26 ∨ t = 27 ∨ t = 28 ∨ t = 29 ∨ t = 30 ∨ t = 31 by omega) with rfl | rfl | rfl | rfl | rfl | rfl | rfl | rfl | rfl | rfl | rfl | rfl | rfl | rfl | rfl | rfl | rfl | rfl | rfl | rfl | rfl | rfl | rfl | rfl | rfl | rfl | rfl | rfl | rfl | rfl | rfl | rfl <;> (simp only [Nat.reducePow, Nat.reduceSub] at hmk; omega)
              exact ⟨by rw [er], ht, t1, t2⟩
            · exact ⟨by rw [ht]; exact hP9, va_K.moved hv hK, by rw [← hAe]; exact hD9⟩
          · refine lv_iinc (v := iZ (1 + 2)) (lv' := [(1, .int (iZ (1 + 2))), (0, .int (iZ (mk : Int)))]) hx hb d_jInt_numberOfTrailingZeros_67 hl (k := 0) rfl (iZ_add _ _) (by decide) rfl (fun ls hl => ?_)
            refine lv_iload_n hx hb d_jInt_numberOfTrailingZeros_70 rfl (lv_at hl 1 rfl) ?_
            refine lv_iconst (v := iZ (2)) hx hb d_jInt_numberOfTrailingZeros_71 (by decide +kernel) ?_
            refine zz_iushr (n := 2) hx hb d_jInt_numberOfTrailingZeros_72 (by omega) (by omega) (by omega) ?_
            refine lv_istore_n (lv' := [(0, .int (iZ ((mk : Int) / 2 ^ 2))), (1, .int (iZ (1 + 2)))]) hx hb d_jInt_numberOfTrailingZeros_73 rfl hl (by decide) rfl (fun ls hl => ?_)
            refine lv_iload_n hx hb d_jInt_numberOfTrailingZeros_74 rfl (lv_at hl 1 rfl) ?_
            refine lv_iload_n hx hb d_jInt_numberOfTrailingZeros_75 rfl (lv_at hl 0 rfl) ?_
            refine lv_iconst (v := iZ (1)) hx hb d_jInt_numberOfTrailingZeros_76 (by decide +kernel) ?_
            refine zz_iushr (n := 1) hx hb d_jInt_numberOfTrailingZeros_77 (by omega) (by omega) (by omega) ?_
            refine zz_iadd hx hb d_jInt_numberOfTrailingZeros_78 ?_
            have hP9 : va_P D cls0 [] H := hP.sub [] rfl
            have hD9 : va_D A [] := hD.sub [] (by decide) rfl
            rw [hQ, ← hAe]
            refine r_i (v := (iZ (1 + 2 + (((mk : Int) / 2 ^ 2) / 2 ^ 1)))) K t hS d_jInt_numberOfTrailingZeros_79 ?_ (fun t ht hv => ?_)
            · have er : 1 + 2 + (((mk : Int) / 2 ^ 2) / 2 ^ 1) = (t : Int) := by
                clear t1 t2 ent hP9 hD9
                rcases (show t = 0 ∨ t = 1 ∨ t = 2 ∨ t = 3 ∨ t = 4 ∨ t = 5 ∨ t = 6 ∨ t = 7 ∨ t = 8 ∨ t = 9 ∨ t = 10 ∨ t = 11 ∨ t = 12 ∨ t = 13 ∨ t = 14 ∨ t = 15 ∨ t = 16 ∨ t = 17 ∨ t = 18 ∨ t = 19 ∨ t = 20 ∨ t = 21 ∨ t = 22 ∨ t = 23 ∨ t = 24 ∨ t = 25 ∨ t = 26 ∨ t = 27 ∨ t = 28 ∨ t = 29 ∨ t = 30 ∨ t = 31 by omega) with rfl | rfl | rfl | rfl | rfl | rfl | rfl | rfl | rfl | rfl | rfl | rfl | rfl | rfl | rfl | rfl | rfl | rfl | rfl | rfl | rfl | rfl | rfl | rfl | rfl | rfl | rfl | rfl | rfl | rfl | rfl | rfl <;> (simp only [Nat.reducePow, Nat.reduceSub] at hmk; omega)
              exact ⟨by rw [er], ht, t1, t2⟩
            · exact ⟨by rw [ht]; exact hP9, va_K.moved hv hK, by rw [← hAe]; exact hD9⟩
        · refine lv_iinc (v := iZ (1 + 4)) (lv' := [(1, .int (iZ (1 + 4))), (0, .int (iZ (mk : Int)))]) hx hb d_jInt_numberOfTrailingZeros_55 hl (k := 0) rfl (iZ_add _ _) (by decide) rfl (fun ls hl => ?_)
          refine lv_iload_n hx hb d_jInt_numberOfTrailingZeros_58 rfl (lv_at hl 1 rfl) ?_
          refine lv_iconst (v := iZ (4)) hx hb d_jInt_numberOfTrailingZeros_59 (by decide +kernel) ?_
          refine zz_iushr (n := 4) hx hb d_jInt_numberOfTrailingZeros_60 (by omega) (by omega) (by omega) ?_
          refine lv_istore_n (lv' := [(0, .int (iZ ((mk : Int) / 2 ^ 4))), (1, .int (iZ (1 + 4)))]) hx hb d_jInt_numberOfTrailingZeros_61 rfl hl (by decide) rfl (fun ls hl => ?_)
          refine lv_iload_n hx hb d_jInt_numberOfTrailingZeros_62 rfl (lv_at hl 0 rfl) ?_
          refine lv_iconst (v := iZ (4)) hx hb d_jInt_numberOfTrailingZeros_63 (by decide +kernel) ?_
          refine zz_icmp_le (tgt := 74) hx hb d_jInt_numberOfTrailingZeros_64 (by decide) (by omega) (by omega) (fun c64 => ?_) (fun c64 => ?_)
          · refine lv_iload_n hx hb d_jInt_numberOfTrailingZeros_74 rfl (lv_at hl 1 rfl) ?_
            refine lv_iload_n hx hb d_jInt_numberOfTrailingZeros_75 rfl (lv_at hl 0 rfl) ?_
            refine lv_iconst (v := iZ (1)) hx hb d_jInt_numberOfTrailingZeros_76 (by decide +kernel) ?_
            refine zz_iushr (n := 1) hx hb d_jInt_numberOfTrailingZeros_77 (by omega) (by omega) (by omega) ?_
            refine zz_iadd hx hb d_jInt_numberOfTrailingZeros_78 ?_
            have hP9 : va_P D cls0 [] H := hP.sub [] rfl
            have hD9 : va_D A [] := hD.sub [] (by decide) rfl
            rw [hQ, ← hAe]
            refine r_i (v := (iZ (1 + 4 + (((mk : Int) / 2 ^ 4) / 2 ^ 1)))) K t hS d_jInt_numberOfTrailingZeros_79 ?_ (fun t ht hv => ?_)
            · have er : 1 + 4 + (((mk : Int) / 2 ^ 4) / 2 ^ 1) = (t : Int) := by
                clear t1 t2 ent hP9 hD9
                rcases (show t = 0 ∨ t = 1 ∨ t = 2 ∨ t = 3 ∨ t = 4 ∨ t = 5 ∨ t = 6 ∨ t = 7 ∨ t = 8 ∨ t = 9 ∨ t = 10 ∨ t = 11 ∨ t = 12 ∨ t = 13 ∨ t = 14 ∨ t = 15 ∨ t = 16 ∨ t = 17 ∨ t = 18 ∨ t = 19 ∨ t = 20 ∨ t = 21 ∨ t = 22 ∨ t = 23 ∨ t = 24 ∨ t = 25 ∨ t = 26 ∨ t = 27 ∨ t = 28 ∨ t = 29 ∨ t = 30 ∨ t = 31 by omega) with rfl | rfl | rfl | rfl | rfl | rfl | rfl | rfl | rfl | rfl | rfl | rfl | rfl | rfl | rfl | rfl | rfl | rfl | rfl | rfl | rfl | rfl | rfl | rfl | rfl | rfl | rfl | rfl | rfl | rfl | rfl | rfl <;> (simp only [Nat.reducePow, Nat.reduceSub] at hmk; omega)
              exact ⟨by rw [er], ht, t1, t2⟩
            · exact ⟨by rw [ht]; exact hP9, va_K.moved hv hK, by rw [← hAe]; exact hD9⟩
          · refine lv_iinc (v := iZ (1 + 4 + 2)) (lv' := [(1, .int (iZ (1 + 4 + 2))), (0, .int (iZ ((mk : Int) / 2 ^ 4)))]) hx hb d_jInt_numberOfTrailingZeros_67 hl (k := 1) rfl (iZ_add _ _) (by decide) rfl (fun ls hl => ?_)
            refine lv_iload_n hx hb d_jInt_numberOfTrailingZeros_70 rfl (lv_at hl 1 rfl) ?_
            refine lv_iconst (v := iZ (2)) hx hb d_jInt_numberOfTrailingZeros_71 (by decide +kernel) ?_
            refine zz_iushr (n := 2) hx hb d_jInt_numberOfTrailingZeros_72 (by omega) (by omega) (by omega) ?_
            refine lv_istore_n (lv' := [(0, .int (iZ (((mk : Int) / 2 ^ 4) / 2 ^ 2))), (1, .int (iZ (1 + 4 + 2)))]) hx hb d_jInt_numberOfTrailingZeros_73 rfl hl (by decide) rfl (fun ls hl => ?_)
            refine lv_iload_n hx hb d_jInt_numberOfTrailingZeros_74 rfl (lv_at hl 1 rfl) ?_
            refine lv_iload_n hx hb d_jInt_numberOfTrailingZeros_75 rfl (lv_at hl 0 rfl) ?_
            refine lv_iconst (v := iZ (1)) hx hb d_jInt_numberOfTrailingZeros_76 (by decide +kernel) ?_
            refine zz_iushr (n := 1) hx hb d_jInt_numberOfTrailingZeros_77 (by omega) (by omega) (by omega) ?_
            refine zz_iadd hx hb d_jInt_numberOfTrailingZeros_78 ?_
            have hP9 : va_P D cls0 [] H := hP.sub [] rfl
            have hD9 : va_D A [] := hD.sub [] (by decide) rfl
            rw [hQ, ← hAe]
            refine r_i (v := (iZ (1 + 4 + 2 + ((((mk : Int) / 2 ^ 4) / 2 ^ 2) / 2 ^ 1)))) K t hS d_jInt_numberOfTrailingZeros_79 ?_ (fun t ht hv => ?_)
            · have er : 1 + 4 + 2 + ((((mk : Int) / 2 ^ 4) / 2 ^ 2) / 2 ^ 1) = (t : Int) := by
                clear t1 t2 ent hP9 hD9
                rcases (show t = 0 ∨ t = 1 ∨ t = 2 ∨ t = 3 ∨ t = 4 ∨ t = 5 ∨ t = 6 ∨ t = 7 ∨ t = 8 ∨ t = 9 ∨ t = 10 ∨ t = 11 ∨ t = 12 ∨ t = 13 ∨ t = 14 ∨ t = 15 ∨ t = 16 ∨ t = 17 ∨ t = 18 ∨ t = 19 ∨ t = 20 ∨ t = 21 ∨ t = 22 ∨ t = 23 ∨ t = 24 ∨ t = 25 ∨ t = 26 ∨ t = 27 ∨ t = 28 ∨ t = 29 ∨ t = 30 ∨ t = 31 by omega) with rfl | rfl | rfl | rfl | rfl | rfl | rfl | rfl | rfl | rfl | rfl | rfl | rfl | rfl | rfl | rfl | rfl | rfl | rfl | rfl | rfl | rfl | rfl | rfl | rfl | rfl | rfl | rfl | rfl | rfl | rfl | rfl <;> (simp only [Nat.reducePow, Nat.reduceSub] at hmk; omega)
              exact ⟨by rw [er], ht, t1, t2⟩
            · exact ⟨by rw [ht]; exact hP9, va_K.moved hv hK, by rw [← hAe]; exact hD9⟩
      · refine lv_iinc (v := iZ (1 + 8)) (lv' := [(1, .int (iZ (1 + 8))), (0, .int (iZ (mk : Int)))]) hx hb d_jInt_numberOfTrailingZeros_41 hl (k := 0) rfl (iZ_add _ _) (by decide) rfl (fun ls hl => ?_)
        refine lv_iload_n hx hb d_jInt_numberOfTrailingZeros_44 rfl (lv_at hl 1 rfl) ?_
        refine lv_bipush (v := iZ (8)) hx hb d_jInt_numberOfTrailingZeros_45 (by decide +kernel) ?_
        refine zz_iushr (n := 8) hx hb d_jInt_numberOfTrailingZeros_47 (by omega) (by omega) (by omega) ?_
        refine lv_istore_n (lv' := [(0, .int (iZ ((mk : Int) / 2 ^ 8))), (1, .int (iZ (1 + 8)))]) hx hb d_jInt_numberOfTrailingZeros_48 rfl hl (by decide) rfl (fun ls hl => ?_)
        refine lv_iload_n hx hb d_jInt_numberOfTrailingZeros_49 rfl (lv_at hl 0 rfl) ?_
        refine lv_bipush (v := iZ (16)) hx hb d_jInt_numberOfTrailingZeros_50 (by decide +kernel) ?_
        refine zz_icmp_le (tgt := 62) hx hb d_jInt_numberOfTrailingZeros_52 (by decide) (by omega) (by omega) (fun c52 => ?_) (fun c52 => ?_)
        · refine lv_iload_n hx hb d_jInt_numberOfTrailingZeros_62 rfl (lv_at hl 0 rfl) ?_
          refine lv_iconst (v := iZ (4)) hx hb d_jInt_numberOfTrailingZeros_63 (by decide +kernel) ?_
          refine zz_icmp_le (tgt := 74) hx hb d_jInt_numberOfTrailingZeros_64 (by decide) (by omega) (by omega) (fun c64 => ?_) (fun c64 => ?_)
          · refine lv_iload_n hx hb d_jInt_numberOfTrailingZeros_74 rfl (lv_at hl 1 rfl) ?_
            refine lv_iload_n hx hb d_jInt_numberOfTrailingZeros_75 rfl (lv_at hl 0 rfl) ?_
            refine lv_iconst (v := iZ (1)) hx hb d_jInt_numberOfTrailingZeros_76 (by decide +kernel) ?_
            refine zz_iushr (n := 1) hx hb d_jInt_numberOfTrailingZeros_77 (by omega) (by omega) (by omega) ?_
            refine zz_iadd hx hb d_jInt_numberOfTrailingZeros_78 ?_
            have hP9 : va_P D cls0 [] H := hP.sub [] rfl
            have hD9 : va_D A [] := hD.sub [] (by decide) rfl
            rw [hQ, ← hAe]
            refine r_i (v := (iZ (1 + 8 + (((mk : Int) / 2 ^ 8) / 2 ^ 1)))) K t hS d_jInt_numberOfTrailingZeros_79 ?_ (fun t ht hv => ?_)
            · have er : 1 + 8 + (((mk : Int) / 2 ^ 8) / 2 ^ 1) = (t : Int) := by
                clear t1 t2 ent hP9 hD9
                rcases (show t = 0 ∨ t = 1 ∨ t = 2 ∨ t = 3 ∨ t = 4 ∨ t = 5 ∨ t = 6 ∨ t = 7 ∨ t = 8 ∨ t = 9 ∨ t = 10 ∨ t = 11 ∨ t = 12 ∨ t = 13 ∨ t = 14 ∨ t = 15 ∨ t = 16 ∨ t = 17 ∨ t = 18 ∨ t = 19 ∨ t = 20 ∨ t = 21 ∨ t = 22 ∨ t = 23 ∨ t = 24 ∨ t = 25 ∨ t = 26 ∨ t = 27 ∨ t = 28 ∨ t = 29 ∨ t = 30 ∨ t = 31 by omega) with rfl | rfl | rfl | rfl | rfl | rfl | rfl | rfl | rfl | rfl | rfl | rfl | rfl | rfl | rfl | rfl | rfl | rfl | rfl | rfl | rfl | rfl | rfl | rfl | rfl | rfl | rfl | rfl | rfl | rfl | rfl | rfl <;> (simp only [Nat.reducePow, Nat.reduceSub] at hmk; omega)
              exact ⟨by rw [er], ht, t1, t2⟩
            · exact ⟨by rw [ht]; exact hP9, va_K.moved hv hK, by rw [← hAe]; exact hD9⟩
          · refine lv_iinc (v := iZ (1 + 8 + 2)) (lv' := [(1, .int (iZ (1 + 8 + 2))), (0, .int (iZ ((mk : Int) / 2 ^ 8)))]) hx hb d_jInt_numberOfTrailingZeros_67 hl (k := 1) rfl (iZ_add _ _) (by decide) rfl (fun ls hl => ?_)
            refine lv_iload_n hx hb d_jInt_numberOfTrailingZeros_70 rfl (lv_at hl 1 rfl) ?_
            refine lv_iconst (v := iZ (2)) hx hb d_jInt_numberOfTrailingZeros_71 (by decide +kernel) ?_
            refine zz_iushr (n := 2) hx hb d_jInt_numberOfTrailingZeros_72 (by omega) (by omega) (by omega) ?_
            refine lv_istore_n (lv' := [(0, .int (iZ (((mk : Int) / 2 ^ 8) / 2 ^ 2))), (1, .int (iZ (1 + 8 + 2)))]) hx hb d_jInt_numberOfTrailingZeros_73 rfl hl (by decide) rfl (fun ls hl => ?_)
            refine lv_iload_n hx hb d_jInt_numberOfTrailingZeros_74 rfl (lv_at hl 1 rfl) ?_
            refine lv_iload_n hx hb d_jInt_numberOfTrailingZeros_75 rfl (lv_at hl 0 rfl) ?_
            refine lv_iconst (v := iZ (1)) hx hb d_jInt_numberOfTrailingZeros_76 (by decide +kernel) ?_
            refine zz_iushr (n := 1) hx hb d_jInt_numberOfTrailingZeros_77 (by omega) (by omega) (by omega) ?_
            refine zz_iadd hx hb d_jInt_numberOfTrailingZeros_78 ?_
            have hP9 : va_P D cls0 [] H := hP.sub [] rfl
            have hD9 : va_D A [] := hD.sub [] (by decide) rfl
            rw [hQ, ← hAe]
            refine r_i (v := (iZ (1 + 8 + 2 + ((((mk : Int) / 2 ^ 8) / 2 ^ 2) / 2 ^ 1)))) K t hS d_jInt_numberOfTrailingZeros_79 ?_ (fun t ht hv => ?_)
            · have er : 1 + 8 + 2 + ((((mk : Int) / 2 ^ 8) / 2 ^ 2) / 2 ^ 1) = (t : Int) := by
                clear t1 t2 ent hP9 hD9
                rcases (show t = 0 ∨ t = 1 ∨ t = 2 ∨ t = 3 ∨ t = 4 ∨ t = 5 ∨ t = 6 ∨ t = 7 ∨ t = 8 ∨ t = 9 ∨ t = 10 ∨ t = 11 ∨ t = 12 ∨ t = 13 ∨ t = 14 ∨ t = 15 ∨ t = 16 ∨ t = 17 ∨ t = 18 ∨ t = 19 ∨ t = 20 ∨ t = 21 ∨ t = 22 ∨ t = 23 ∨ t = 24 ∨ t = 25 ∨ t = 26 ∨ t = 27 ∨ t = 28 ∨ t = 29 ∨ t = 30 ∨ t = 31 by omega) with rfl | rfl | rfl | rfl | rfl | rfl | rfl | rfl | rfl | rfl | rfl | rfl | rfl | rfl | rfl | rfl | rfl | rfl | rfl | rfl | rfl | rfl | rfl | rfl | rfl | rfl | rfl | rfl | rfl | rfl | rfl | rfl <;> (simp only [Nat.reducePow, Nat.reduceSub] at hmk; omega)
              exact ⟨by rw [er], ht, t1, t2⟩
            · exact ⟨by rw [ht]; exact hP9, va_K.moved hv hK, by rw [← hAe]; exact hD9⟩
        · refine lv_iinc (v := iZ (1 + 8 + 4)) (lv' := [(1, .int (iZ (1 + 8 + 4))), (0, .int (iZ ((mk : Int) / 2 ^ 8)))]) hx hb d_jInt_numberOfTrailingZeros_55 hl (k := 1) rfl (iZ_add _ _) (by decide) rfl (fun ls hl => ?_)
          refine lv_iload_n hx hb d_jInt_numberOfTrailingZeros_58 rfl (lv_at hl 1 rfl) ?_
          refine lv_iconst (v := iZ (4)) hx hb d_jInt_numberOfTrailingZeros_59 (by decide +kernel) ?_
          refine zz_iushr (n := 4) hx hb d_jInt_numberOfTrailingZeros_60 (by omega) (by omega) (by omega) ?_
          refine lv_istore_n (lv' := [(0, .int (iZ (((mk : Int) / 2 ^ 8) / 2 ^ 4))), (1, .int (iZ (1 + 8 + 4)))]) hx hb d_jInt_numberOfTrailingZeros_61 rfl hl (by decide) rfl (fun ls hl => ?_)
          refine lv_iload_n hx hb d_jInt_numberOfTrailingZeros_62 rfl (lv_at hl 0 rfl) ?_
          refine lv_iconst (v := iZ (4)) hx hb d_jInt_numberOfTrailingZeros_63 (by decide +kernel) ?_
          refine zz_icmp_le (tgt := 74) hx hb d_jInt_numberOfTrailingZeros_64 (by decide) (by omega) (by omega) (fun c64 => ?_) (fun c64 => ?_)
          · refine lv_iload_n hx hb d_jInt_numberOfTrailingZeros_74 rfl (lv_at hl 1 rfl) ?_
            refine lv_iload_n hx hb d_jInt_numberOfTrailingZeros_75 rfl (lv_at hl 0 rfl) ?_
            refine lv_iconst (v := iZ (1)) hx hb d_jInt_numberOfTrailingZeros_76 (by decide +kernel) ?_
            refine zz_iushr (n := 1) hx hb d_jInt_numberOfTrailingZeros_77 (by omega) (by omega) (by omega) ?_
            refine zz_iadd hx hb d_jInt_numberOfTrailingZeros_78 ?_
            have hP9 : va_P D cls0 [] H := hP.sub [] rfl
            have hD9 : va_D A [] := hD.sub [] (by decide) rfl
            rw [hQ, ← hAe]
            refine r_i (v := (iZ (1 + 8 + 4 + ((((mk : Int) / 2 ^ 8) / 2 ^ 4) / 2 ^ 1)))) K t hS d_jInt_numberOfTrailingZeros_79 ?_ (fun t ht hv => ?_)
            · have er : 1 + 8 + 4 + ((((mk : Int) / 2 ^ 8) / 2 ^ 4) / 2 ^ 1) = (t : Int) := by
                clear t1 t2 ent hP9 hD9
                rcases (show t = 0 ∨ t = 1 ∨ t = 2 ∨ t = 3 ∨ t = 4 ∨ t = 5 ∨ t = 6 ∨ t = 7 ∨ t = 8 ∨ t = 9 ∨ t = 10 ∨ t = 11 ∨ t = 12 ∨ t = 13 ∨ t = 14 ∨ t = 15 ∨ t = 16 ∨ t = 17 ∨ t = 18 ∨ t = 19 ∨ t = 20 ∨ t = 21 ∨ t = 22 ∨ t = 23 ∨ t = 24 ∨ t = 25 ∨ t = 26 ∨ t = 27 ∨ t = 28 ∨ t = 29 ∨ t = 30 ∨ t = 31 by omega) with rfl | rfl | rfl | rfl | rfl | rfl | rfl | rfl | rfl | rfl | rfl | rfl | rfl | rfl | rfl | rfl | rfl | rfl | rfl | rfl | rfl | rfl | rfl | rfl | rfl | rfl | rfl | rfl | rfl | rfl | rfl | rfl <;> (simp only [Nat.reducePow, Nat.reduceSub] at hmk; omega)
              exact ⟨by rw [er], ht, t1, t2⟩
            · exact ⟨by rw [ht]; exact hP9, va_K.moved hv hK, by rw [← hAe]; exact hD9⟩
          · refine lv_iinc (v := iZ (1 + 8 + 4 + 2)) (lv' := [(1, .int (iZ (1 + 8 + 4 + 2))), (0, .int (iZ (((mk : Int) / 2 ^ 8) / 2 ^ 4)))]) hx hb d_jInt_numberOfTrailingZeros_67 hl (k := 1) rfl (iZ_add _ _) (by decide) rfl (fun ls hl => ?_)
            refine lv_iload_n hx hb d_jInt_numberOfTrailingZeros_70 rfl (lv_at hl 1 rfl) ?_
            refine lv_iconst (v := iZ (2)) hx hb d_jInt_numberOfTrailingZeros_71 (by decide +kernel) ?_
            refine zz_iushr (n := 2) hx hb d_jInt_numberOfTrailingZeros_72 (by omega) (by omega) (by omega) ?_
            refine lv_istore_n (lv' := [(0, .int (iZ ((((mk : Int) / 2 ^ 8) / 2 ^ 4) / 2 ^ 2))), (1, .int (iZ (1 + 8 + 4 + 2)))]) hx hb d_jInt_numberOfTrailingZeros_73 rfl hl (by decide) rfl (fun ls hl => ?_)
            refine lv_iload_n hx hb d_jInt_numberOfTrailingZeros_74 rfl (lv_at hl 1 rfl) ?_
            refine lv_iload_n hx hb d_jInt_numberOfTrailingZeros_75 rfl (lv_at hl 0 rfl) ?_
            refine lv_iconst (v := iZ (1)) hx hb d_jInt_numberOfTrailingZeros_76 (by decide +kernel) ?_
            refine zz_iushr (n := 1) hx hb d_jInt_numberOfTrailingZeros_77 (by omega) (by omega) (by omega) ?_
            refine zz_iadd hx hb d_jInt_numberOfTrailingZeros_78 ?_
            have hP9 : va_P D cls0 [] H := hP.sub [] rfl
            have hD9 : va_D A [] := hD.sub [] (by decide) rfl
            rw [hQ, ← hAe]
            refine r_i (v := (iZ (1 + 8 + 4 + 2 + (((((mk : Int) / 2 ^ 8) / 2 ^ 4) / 2 ^ 2) / 2 ^ 1)))) K t hS d_jInt_numberOfTrailingZeros_79 ?_ (fun t ht hv => ?_)
            · have er : 1 + 8 + 4 + 2 + (((((mk : Int) / 2 ^ 8) / 2 ^ 4) / 2 ^ 2) / 2 ^ 1) = (t : Int) := by
                clear t1 t2 ent hP9 hD9
                rcases (show t = 0 ∨ t = 1 ∨ t = 2 ∨ t = 3 ∨ t = 4 ∨ t = 5 ∨ t = 6 ∨ t = 7 ∨ t = 8 ∨ t = 9 ∨ t = 10 ∨ t = 11 ∨ t = 12 ∨ t = 13 ∨ t = 14 ∨ t = 15 ∨ t = 16 ∨ t = 17 ∨ t = 18 ∨ t = 19 ∨ t = 20 ∨ t = 21 ∨ t = 22 ∨ t = 23 ∨ t = 24 ∨ t = 25 ∨ t = 26 ∨ t = 27 ∨ t = 28 ∨ t = 29 ∨ t = 30 ∨ t = 31 by omega) with rfl | rfl | rfl | rfl | rfl | rfl | rfl | rfl | rfl | rfl | rfl | rfl | rfl | rfl | rfl | rfl | rfl | rfl | rfl | rfl | rfl | rfl | rfl | rfl | rfl | rfl | rfl | rfl | rfl | rfl | rfl | rfl <;> (simp only [Nat.reducePow, Nat.reduceSub] at hmk; omega)
              exact ⟨by rw [er], ht, t1, t2⟩
            · exact ⟨by rw [ht]; exact hP9, va_K.moved hv hK, by rw [← hAe]; exact hD9⟩
    · refine lv_iinc (v := iZ (1 + 16)) (lv' := [(1, .int (iZ (1 + 16))), (0, .int (iZ (mk : Int)))]) hx hb d_jInt_numberOfTrailingZeros_26 hl (k := 0) rfl (iZ_add _ _) (by decide) rfl (fun ls hl => ?_)
      refine lv_iload_n hx hb d_jInt_numberOfTrailingZeros_29 rfl (lv_at hl 1 rfl) ?_
      refine lv_bipush (v := iZ (16)) hx hb d_jInt_numberOfTrailingZeros_30 (by decide +kernel) ?_
      refine zz_iushr (n := 16) hx hb d_jInt_numberOfTrailingZeros_32 (by omega) (by omega) (by omega) ?_
      refine lv_istore_n (lv' := [(0, .int (iZ ((mk : Int) / 2 ^ 16))), (1, .int (iZ (1 + 16)))]) hx hb d_jInt_numberOfTrailingZeros_33 rfl hl (by decide) rfl (fun ls hl => ?_)
      refine lv_iload_n hx hb d_jInt_numberOfTrailingZeros_34 rfl (lv_at hl 0 rfl) ?_
      refine lv_sipush (v := iZ (256)) hx hb d_jInt_numberOfTrailingZeros_35 (by decide +kernel) ?_
      refine zz_icmp_le (tgt := 49) hx hb d_jInt_numberOfTrailingZeros_38 (by decide) (by omega) (by omega) (fun c38 => ?_) (fun c38 => ?_)
      · refine lv_iload_n hx hb d_jInt_numberOfTrailingZeros_49 rfl (lv_at hl 0 rfl) ?_
        refine lv_bipush (v := iZ (16)) hx hb d_jInt_numberOfTrailingZeros_50 (by decide +kernel) ?_
        refine zz_icmp_le (tgt := 62) hx hb d_jInt_numberOfTrailingZeros_52 (by decide) (by omega) (by omega) (fun c52 => ?_) (fun c52 => ?_)
        · refine lv_iload_n hx hb d_jInt_numberOfTrailingZeros_62 rfl (lv_at hl 0 rfl) ?_
          refine lv_iconst (v := iZ (4)) hx hb d_jInt_numberOfTrailingZeros_63 (by decide +kernel) ?_
          refine zz_icmp_le (tgt := 74) hx hb d_jInt_numberOfTrailingZeros_64 (by decide) (by omega) (by omega) (fun c64 => ?_) (fun c64 => ?_)
          · refine lv_iload_n hx hb d_jInt_numberOfTrailingZeros_74 rfl (lv_at hl 1 rfl) ?_
            refine lv_iload_n hx hb d_jInt_numberOfTrailingZeros_75 rfl (lv_at hl 0 rfl) ?_
            refine lv_iconst (v := iZ (1)) hx hb d_jInt_numberOfTrailingZeros_76 (by decide +kernel) ?_
            refine zz_iushr (n := 1) hx hb d_jInt_numberOfTrailingZeros_77 (by omega) (by omega) (by omega) ?_
            refine zz_iadd hx hb d_jInt_numberOfTrailingZeros_78 ?_
            have hP9 : va_P D cls0 [] H := hP.sub [] rfl
            have hD9 : va_D A [] := hD.sub [] (by decide) rfl
            rw [hQ, ← hAe]
            refine r_i (v := (iZ (1 + 16 + (((mk : Int) / 2 ^ 16) / 2 ^ 1)))) K t hS d_jInt_numberOfTrailingZeros_79 ?_ (fun t ht hv => ?_)
            · have er : 1 + 16 + (((mk : Int) / 2 ^ 16) / 2 ^ 1) = (t : Int) := by
                clear t1 t2 ent hP9 hD9
                rcases (show t = 0 ∨ t = 1 ∨ t = 2 ∨ t = 3 ∨ t = 4 ∨ t = 5 ∨ t = 6 ∨ t = 7 ∨ t = 8 ∨ t = 9 ∨ t = 10 ∨ t = 11 ∨ t = 12 ∨ t = 13 ∨ t = 14 ∨ t = 15 ∨ t = 16 ∨ t = 17 ∨ t = 18 ∨ t = 19 ∨ t = 20 ∨ t = 21 ∨ t = 22 ∨ t = 23 ∨ t = 24 ∨ t = 25 ∨ t = 26 ∨ t = 27 ∨ t = 28 ∨ t = 29 ∨ t = 30 ∨ t = 31 by omega) with rfl | rfl | rfl | rfl | rfl | rfl | rfl | rfl | rfl | rfl | rfl | rfl | rfl | rfl | rfl | rfl | rfl | rfl | rfl | rfl | rfl | rfl | rfl | rfl | rfl | rfl | rfl | rfl | rfl | rfl | rfl | rfl <;> (simp only [Nat.reducePow, Nat.reduceSub] at hmk; omega)
              exact ⟨by rw [er], ht, t1, t2⟩
            · exact ⟨by rw [ht]; exact hP9, va_K.moved hv hK, by rw [← hAe]; exact hD9⟩
          · refine lv_iinc (v := iZ (1 + 16 + 2)) (lv' := [(1, .int (iZ (1 + 16 + 2))), (0, .int (iZ ((mk : Int) / 2 ^ 16)))]) hx hb d_jInt_numberOfTrailingZeros_67 hl (k := 1) rfl (iZ_add _ _) (by decide) rfl (fun ls hl => ?_)
            refine lv_iload_n hx hb d_jInt_numberOfTrailingZeros_70 rfl (lv_at hl 1 rfl) ?_
            refine lv_iconst (v := iZ (2)) hx hb d_jInt_numberOfTrailingZeros_71 (by decide +kernel) ?_
            refine zz_iushr (n := 2) hx hb d_jInt_numberOfTrailingZeros_72 (by omega) (by omega) (by omega) ?_
            refine lv_istore_n (lv' := [(0, .int (iZ (((mk : Int) / 2 ^ 16) / 2 ^ 2))), (1, .int (iZ (1 + 16 + 2)))]) hx hb d_jInt_numberOfTrailingZeros_73 rfl hl (by decide) rfl (fun ls hl => ?_)
            refine lv_iload_n hx hb d_jInt_numberOfTrailingZeros_74 rfl (lv_at hl 1 rfl) ?_
            refine lv_iload_n hx hb d_jInt_numberOfTrailingZeros_75 rfl (lv_at hl 0 rfl) ?_
            refine lv_iconst (v := iZ (1)) hx hb d_jInt_numberOfTrailingZeros_76 (by decide +kernel) ?_
            refine zz_iushr (n := 1) hx hb d_jInt_numberOfTrailingZeros_77 (by omega) (by omega) (by omega) ?_
            refine zz_iadd hx hb d_jInt_numberOfTrailingZeros_78 ?_
            have hP9 : va_P D cls0 [] H := hP.sub [] rfl
            have hD9 : va_D A [] := hD.sub [] (by decide) rfl
            rw [hQ, ← hAe]
            refine r_i (v := (iZ (1 + 16 + 2 + ((((mk : Int) / 2 ^ 16) / 2 ^ 2) / 2 ^ 1)))) K t hS d_jInt_numberOfTrailingZeros_79 ?_ (fun t ht hv => ?_)
            · have er : 1 + 16 + 2 + ((((mk : Int) / 2 ^ 16) / 2 ^ 2) / 2 ^ 1) = (t : Int) := by
                clear t1 t2 ent hP9 hD9
                rcases (show t = 0 ∨ t = 1 ∨ t = 2 ∨ t = 3 ∨ t = 4 ∨ t = 5 ∨ t = 6 ∨ t = 7 ∨ t = 8 ∨ t = 9 ∨ t = 10 ∨ t = 11 ∨ t = 12 ∨ t = 13 ∨ t = 14 ∨ t = 15 ∨ t = 16 ∨ t = 17 ∨ t = 18 ∨ t = 19 ∨ t = 20 ∨ t = 21 ∨ t = 22 ∨ t = 23 ∨ t = 24 ∨ t = 25 ∨ t = 26 ∨ t = 27 ∨ t = 28 ∨ t = 29 ∨ t = 30 ∨ t = 31 by omega) with rfl | rfl | rfl | rfl | rfl | rfl | rfl | rfl | rfl | rfl | rfl | rfl | rfl | rfl | rfl | rfl | rfl | rfl | rfl | rfl | rfl | rfl | rfl | rfl | rfl | rfl | rfl | rfl | rfl | rfl | rfl | rfl <;> (simp only [Nat.reducePow, Nat.reduceSub] at hmk; omega)
              exact ⟨by rw [er], ht, t1, t2⟩
            · exact ⟨by rw [ht]; exact hP9, va_K.moved hv hK, by rw [← hAe]; exact hD9⟩
        · refine lv_iinc (v := iZ (1 + 16 + 4)) (lv' := [(1, .int (iZ (1 + 16 + 4))), (0, .int (iZ ((mk : Int) / 2 ^ 16)))]) hx hb d_jInt_numberOfTrailingZeros_55 hl (k := 1) rfl (iZ_add _ _) (by decide) rfl (fun ls hl => ?_)
          refine lv_iload_n hx hb d_jInt_numberOfTrailingZeros_58 rfl (lv_at hl 1 rfl) ?_
          refine lv_iconst (v := iZ (4)) hx hb d_jInt_numberOfTrailingZeros_59 (by decide +kernel) ?_
          refine zz_iushr (n := 4) hx hb d_jInt_numberOfTrailingZeros_60 (by omega) (by omega) (by omega) ?_
          refine lv_istore_n (lv' := [(0, .int (iZ (((mk : Int) / 2 ^ 16) / 2 ^ 4))), (1, .int (iZ (1 + 16 + 4)))]) hx hb d_jInt_numberOfTrailingZeros_61 rfl hl (by decide) rfl (fun ls hl => ?_)
          refine lv_iload_n hx hb d_jInt_numberOfTrailingZeros_62 rfl (lv_at hl 0 rfl) ?_
          refine lv_iconst (v := iZ (4)) hx hb d_jInt_numberOfTrailingZeros_63 (by decide +kernel) ?_
          refine zz_icmp_le (tgt := 74) hx hb d_jInt_numberOfTrailingZeros_64 (by decide) (by omega) (by omega) (fun c64 => ?_) (fun c64 => ?_)
          · refine lv_iload_n hx hb d_jInt_numberOfTrailingZeros_74 rfl (lv_at hl 1 rfl) ?_
            refine lv_iload_n hx hb d_jInt_numberOfTrailingZeros_75 rfl (lv_at hl 0 rfl) ?_
            refine lv_iconst (v := iZ (1)) hx hb d_jInt_numberOfTrailingZeros_76 (by decide +kernel) ?_
            refine zz_iushr (n := 1) hx hb d_jInt_numberOfTrailingZeros_77 (by omega) (by omega) (by omega) ?_
            refine zz_iadd hx hb d_jInt_numberOfTrailingZeros_78 ?_
            have hP9 : va_P D cls0 [] H := hP.sub [] rfl
            have hD9 : va_D A [] := hD.sub [] (by decide) rfl
            rw [hQ, ← hAe]
            refine r_i (v := (iZ (1 + 16 + 4 + ((((mk : Int) / 2 ^ 16) / 2 ^ 4) / 2 ^ 1)))) K t hS d_jInt_numberOfTrailingZeros_79 ?_ (fun t ht hv => ?_)
            · have er : 1 + 16 + 4 + ((((mk : Int) / 2 ^ 16) / 2 ^ 4) / 2 ^ 1) = (t : Int) := by
                clear t1 t2 ent hP9 hD9
                rcases (show t = 0 ∨ t = 1 ∨ t = 2 ∨ t = 3 ∨ t = 4 ∨ t = 5 ∨ t = 6 ∨ t = 7 ∨ t = 8 ∨ t = 9 ∨ t = 10 ∨ t = 11 ∨ t = 12 ∨ t = 13 ∨ t = 14 ∨ t = 15 ∨ t = 16 ∨ t = 17 ∨ t = 18 ∨ t = 19 ∨ t = 20 ∨ t = 21 ∨ t = 22 ∨ t = 23 ∨ t = 24 ∨ t = 25 ∨ t = 26 ∨ t = 27 ∨ t = 28 ∨ t = 29 ∨ t = 30 ∨ t = 31 by omega) with rfl | rfl | rfl | rfl | rfl | rfl | rfl | rfl | rfl | rfl | rfl | rfl | rfl | rfl | rfl | rfl | rfl | rfl | rfl | rfl | rfl | rfl | rfl | rfl | rfl | rfl | rfl | rfl | rfl | rfl | rfl | rfl <;> (simp only [Nat.reducePow, Nat.reduceSub] at hmk; omega)
              exact ⟨by rw [er], ht, t1, t2⟩
            · exact ⟨by rw [ht]; exact hP9, va_K.moved hv hK, by rw [← hAe]; exact hD9⟩
          · refine lv_iinc (v := iZ (1 + 16 + 4 + 2)) (lv' := [(1, .int (iZ (1 + 16 + 4 + 2))), (0, .int (iZ (((mk : Int) / 2 ^ 16) / 2 ^ 4)))]) hx hb d_jInt_numberOfTrailingZeros_67 hl (k := 1) rfl (iZ_add _ _) (by decide) rfl (fun ls hl => ?_)
            refine lv_iload_n hx hb d_jInt_numberOfTrailingZeros_70 rfl (lv_at hl 1 rfl) ?_
            refine lv_iconst (v := iZ (2)) hx hb d_jInt_numberOfTrailingZeros_71 (by decide +kernel) ?_
            refine zz_iushr (n := 2) hx hb d_jInt_numberOfTrailingZeros_72 (by omega) (by omega) (by omega) ?_
            refine lv_istore_n (lv' := [(0, .int (iZ ((((mk : Int) / 2 ^ 16) / 2 ^ 4) / 2 ^ 2))), (1, .int (iZ (1 + 16 + 4 + 2)))]) hx hb d_jInt_numberOfTrailingZeros_73 rfl hl (by decide) rfl (fun ls hl => ?_)
            refine lv_iload_n hx hb d_jInt_numberOfTrailingZeros_74 rfl (lv_at hl 1 rfl) ?_
            refine lv_iload_n hx hb d_jInt_numberOfTrailingZeros_75 rfl (lv_at hl 0 rfl) ?_
            refine lv_iconst (v := iZ (1)) hx hb d_jInt_numberOfTrailingZeros_76 (by decide +kernel) ?_
            refine zz_iushr (n := 1) hx hb d_jInt_numberOfTrailingZeros_77 (by omega) (by omega) (by omega) ?_
            refine zz_iadd hx hb d_jInt_numberOfTrailingZeros_78 ?_
            have hP9 : va_P D cls0 [] H := hP.sub [] rfl
            have hD9 : va_D A [] := hD.sub [] (by decide) rfl
            rw [hQ, ← hAe]
            refine r_i (v := (iZ (1 + 16 + 4 + 2 + (((((mk : Int) / 2 ^ 16) / 2 ^ 4) / 2 ^ 2) / 2 ^ 1)))) K t hS d_jInt_numberOfTrailingZeros_79 ?_ (fun t ht hv => ?_)
            · have er : 1 + 16 + 4 + 2 + (((((mk : Int) / 2 ^ 16) / 2 ^ 4) / 2 ^ 2) / 2 ^ 1) = (t : Int) := by
                clear t1 t2 ent hP9 hD9
                rcases (show t = 0 ∨ t = 1 ∨ t = 2 ∨ t = 3 ∨ t = 4 ∨ t = 5 ∨ t = 6 ∨ t = 7 ∨ t = 8 ∨ t = 9 ∨ t = 10 ∨ t = 11 ∨ t = 12 ∨ t = 13 ∨ t = 14 ∨ t = 15 ∨ t = 16 ∨ t = 17 ∨ t = 18 ∨ t = 19 ∨ t = 20 ∨ t = 21 ∨ t = 22 ∨ t = 23 ∨ t = 24 ∨ t = 25 ∨ t = 26 ∨ t = 27 ∨ t = 28 ∨ t = 29 ∨ t = 30 ∨ t = 31 by omega) with rfl | rfl | rfl | rfl | rfl | rfl | rfl | rfl | rfl | rfl | rfl | rfl | rfl | rfl | rfl | rfl | rfl | rfl | rfl | rfl | rfl | rfl | rfl | rfl | rfl | rfl | rfl | rfl | rfl | rfl | rfl | rfl <;> (simp only [Nat.reducePow, Nat.reduceSub] at hmk; omega)
              exact ⟨by rw [er], ht, t1, t2⟩
            · exact ⟨by rw [ht]; exact hP9, va_K.moved hv hK, by rw [← hAe]; exact hD9⟩
      · refine lv_iinc (v := iZ (1 + 16 + 8)) (lv' := [(1, .int (iZ (1 + 16 + 8))), (0, .int (iZ ((mk : Int) / 2 ^ 16)))]) hx hb d_jInt_numberOfTrailingZeros_41 hl (k := 1) rfl (iZ_add _ _) (by decide) rfl (fun ls hl => ?_)
        refine lv_iload_n hx hb d_jInt_numberOfTrailingZeros_44 rfl (lv_at hl 1 rfl) ?_
        refine lv_bipush (v := iZ (8)) hx hb d_jInt_numberOfTrailingZeros_45 (by decide +kernel) ?_
        refine zz_iushr (n := 8) hx hb d_jInt_numberOfTrailingZeros_47 (by omega) (by omega) (by omega) ?_
        refine lv_istore_n (lv' := [(0, .int (iZ (((mk : Int) / 2 ^ 16) / 2 ^ 8))), (1, .int (iZ (1 + 16 + 8)))]) hx hb d_jInt_numberOfTrailingZeros_48 rfl hl (by decide) rfl (fun ls hl => ?_)
        refine lv_iload_n hx hb d_jInt_numberOfTrailingZeros_49 rfl (lv_at hl 0 rfl) ?_
        refine lv_bipush (v := iZ (16)) hx hb d_jInt_numberOfTrailingZeros_50 (by decide +kernel) ?_
        refine zz_icmp_le (tgt := 62) hx hb d_jInt_numberOfTrailingZeros_52 (by decide) (by omega) (by omega) (fun c52 => ?_) (fun c52 => ?_)
        · refine lv_iload_n hx hb d_jInt_numberOfTrailingZeros_62 rfl (lv_at hl 0 rfl) ?_
          refine lv_iconst (v := iZ (4)) hx hb d_jInt_numberOfTrailingZeros_63 (by decide +kernel) ?_
          refine zz_icmp_le (tgt := 74) hx hb d_jInt_numberOfTrailingZeros_64 (by decide) (by omega) (by omega) (fun c64 => ?_) (fun c64 => ?_)
          · refine lv_iload_n hx hb d_jInt_numberOfTrailingZeros_74 rfl (lv_at hl 1 rfl) ?_
            refine lv_iload_n hx hb d_jInt_numberOfTrailingZeros_75 rfl (lv_at hl 0 rfl) ?_
            refine lv_iconst (v := iZ (1)) hx hb d_jInt_numberOfTrailingZeros_76 (by decide +kernel) ?_
            refine zz_iushr (n := 1) hx hb d_jInt_numberOfTrailingZeros_77 (by omega) (by omega) (by omega) ?_
            refine zz_iadd hx hb d_jInt_numberOfTrailingZeros_78 ?_
            have hP9 : va_P D cls0 [] H := hP.sub [] rfl
            have hD9 : va_D A [] := hD.sub [] (by decide) rfl
            rw [hQ, ← hAe]
            refine r_i (v := (iZ (1 + 16 + 8 + ((((mk : Int) / 2 ^ 16) / 2 ^ 8) / 2 ^ 1)))) K t hS d_jInt_numberOfTrailingZeros_79 ?_ (fun t ht hv => ?_)
            · have er : 1 + 16 + 8 + ((((mk : Int) / 2 ^ 16) / 2 ^ 8) / 2 ^ 1) = (t : Int) := by
                clear t1 t2 ent hP9 hD9
                rcases (show t = 0 ∨ t = 1 ∨ t = 2 ∨ t = 3 ∨ t = 4 ∨ t = 5 ∨ t = 6 ∨ t = 7 ∨ t = 8 ∨ t = 9 ∨ t = 10 ∨ t = 11 ∨ t = 12 ∨ t = 13 ∨ t = 14 ∨ t = 15 ∨ t = 16 ∨ t = 17 ∨ t = 18 ∨ t = 19 ∨ t = 20 ∨ t = 21 ∨ t = 22 ∨ t = 23 ∨ t = 24 ∨ t = 25 ∨ t = 26 ∨ t = 27 ∨ t = 28 ∨ t = 29 ∨ t = 30 ∨ t = 31 by omega) with rfl | rfl | rfl | rfl | rfl | rfl | rfl | rfl | rfl | rfl | rfl | rfl | rfl | rfl | rfl | rfl | rfl | rfl | rfl | rfl | rfl | rfl | rfl | rfl | rfl | rfl | rfl | rfl | rfl | rfl | rfl | rfl <;> (simp only [Nat.reducePow, Nat.reduceSub] at hmk; omega)
              exact ⟨by rw [er], ht, t1, t2⟩
            · exact ⟨by rw [ht]; exact hP9, va_K.moved hv hK, by rw [← hAe]; exact hD9⟩
          · refine lv_iinc (v := iZ (1 + 16 + 8 + 2)) (lv' := [(1, .int (iZ (1 + 16 + 8 + 2))), (0, .int (iZ (((mk : Int) / 2 ^ 16) / 2 ^ 8)))]) hx hb d_jInt_numberOfTrailingZeros_67 hl (k := 1) rfl (iZ_add _ _) (by decide) rfl (fun ls hl => ?_)
            refine lv_iload_n hx hb d_jInt_numberOfTrailingZeros_70 rfl (lv_at hl 1 rfl) ?_
            refine lv_iconst (v := iZ (2)) hx hb d_jInt_numberOfTrailingZeros_71 (by decide +kernel) ?_
            refine zz_iushr (n := 2) hx hb d_jInt_numberOfTrailingZeros_72 (by omega) (by omega) (by omega) ?_
            refine lv_istore_n (lv' := [(0, .int (iZ ((((mk : Int) / 2 ^ 16) / 2 ^ 8) / 2 ^ 2))), (1, .int (iZ (1 + 16 + 8 + 2)))]) hx hb d_jInt_numberOfTrailingZeros_73 rfl hl (by decide) rfl (fun ls hl => ?_)
            refine lv_iload_n hx hb d_jInt_numberOfTrailingZeros_74 rfl (lv_at hl 1 rfl) ?_
            refine lv_iload_n hx hb d_jInt_numberOfTrailingZeros_75 rfl (lv_at hl 0 rfl) ?_
            refine lv_iconst (v := iZ (1)) hx hb d_jInt_numberOfTrailingZeros_76 (by decide +kernel) ?_
            refine zz_iushr (n := 1) hx hb d_jInt_numberOfTrailingZeros_77 (by omega) (by omega) (by omega) ?_
            refine zz_iadd hx hb d_jInt_numberOfTrailingZeros_78 ?_
            have hP9 : va_P D cls0 [] H := hP.sub [] rfl
            have hD9 : va_D A [] := hD.sub [] (by decide) rfl
            rw [hQ, ← hAe]
            refine r_i (v := (iZ (1 + 16 + 8 + 2 + (((((mk : Int) / 2 ^ 16) / 2 ^ 8) / 2 ^ 2) / 2 ^ 1)))) K t hS d_jInt_numberOfTrailingZeros_79 ?_ (fun t ht hv => ?_)
            · have er : 1 + 16 + 8 + 2 + (((((mk : Int) / 2 ^ 16) / 2 ^ 8) / 2 ^ 2) / 2 ^ 1) = (t : Int) := by
                clear t1 t2 ent hP9 hD9
                rcases (show t = 0 ∨ t = 1 ∨ t = 2 ∨ t = 3 ∨ t = 4 ∨ t = 5 ∨ t = 6 ∨ t = 7 ∨ t = 8 ∨ t = 9 ∨ t = 10 ∨ t = 11 ∨ t = 12 ∨ t = 13 ∨ t = 14 ∨ t = 15 ∨ t = 16 ∨ t = 17 ∨ t = 18 ∨ t = 19 ∨ t = 20 ∨ t = 21 ∨ t = 22 ∨ t = 23 ∨ t = 24 ∨ t = 25 ∨ t = 26 ∨ t = 27 ∨ t = 28 ∨ t = 29 ∨ t = 30 ∨ t = 31 by omega) with rfl | rfl | rfl | rfl | rfl | rfl | rfl | rfl | rfl | rfl | rfl | rfl | rfl | rfl | rfl | rfl | rfl | rfl | rfl | rfl | rfl | rfl | rfl | rfl | rfl | rfl | rfl | rfl | rfl | rfl | rfl | rfl <;> (simp only [Nat.reducePow, Nat.reduceSub] at hmk; omega)
              exact ⟨by rw [er], ht, t1, t2⟩
            · exact ⟨by rw [ht]; exact hP9, va_K.moved hv hK, by rw [← hAe]; exact hD9⟩
        · refine lv_iinc (v := iZ (1 + 16 + 8 + 4)) (lv' := [(1, .int (iZ (1 + 16 + 8 + 4))), (0, .int (iZ (((mk : Int) / 2 ^ 16) / 2 ^ 8)))]) hx hb d_jInt_numberOfTrailingZeros_55 hl (k := 1) rfl (iZ_add _ _) (by decide) rfl (fun ls hl => ?_)
          refine lv_iload_n hx hb d_jInt_numberOfTrailingZeros_58 rfl (lv_at hl 1 rfl) ?_
          refine lv_iconst (v := iZ (4)) hx hb d_jInt_numberOfTrailingZeros_59 (by decide +kernel) ?_
          refine zz_iushr (n := 4) hx hb d_jInt_numberOfTrailingZeros_60 (by omega) (by omega) (by omega) ?_
          refine lv_istore_n (lv' := [(0, .int (iZ ((((mk : Int) / 2 ^ 16) / 2 ^ 8) / 2 ^ 4))), (1, .int (iZ (1 + 16 + 8 + 4)))]) hx hb d_jInt_numberOfTrailingZeros_61 rfl hl (by decide) rfl (fun ls hl => ?_)
          refine lv_iload_n hx hb d_jInt_numberOfTrailingZeros_62 rfl (lv_at hl 0 rfl) ?_
          refine lv_iconst (v := iZ (4)) hx hb d_jInt_numberOfTrailingZeros_63 (by decide +kernel) ?_
          refine zz_icmp_le (tgt := 74) hx hb d_jInt_numberOfTrailingZeros_64 (by decide) (by omega) (by omega) (fun c64 => ?_) (fun c64 => ?_)
          · refine lv_iload_n hx hb d_jInt_numberOfTrailingZeros_74 rfl (lv_at hl 1 rfl) ?_
            refine lv_iload_n hx hb d_jInt_numberOfTrailingZeros_75 rfl (lv_at hl 0 rfl) ?_
            refine lv_iconst (v := iZ (1)) hx hb d_jInt_numberOfTrailingZeros_76 (by decide +kernel) ?_
            refine zz_iushr (n := 1) hx hb d_jInt_numberOfTrailingZeros_77 (by omega) (by omega) (by omega) ?_
            refine zz_iadd hx hb d_jInt_numberOfTrailingZeros_78 ?_
            have hP9 : va_P D cls0 [] H := hP.sub [] rfl
            have hD9 : va_D A [] := hD.sub [] (by decide) rfl
            rw [hQ, ← hAe]
            refine r_i (v := (iZ (1 + 16 + 8 + 4 + (((((mk : Int) / 2 ^ 16) / 2 ^ 8) / 2 ^ 4) / 2 ^ 1)))) K t hS d_jInt_numberOfTrailingZeros_79 ?_ (fun t ht hv => ?_)
            · have er : 1 + 16 + 8 + 4 + (((((mk : Int) / 2 ^ 16) / 2 ^ 8) / 2 ^ 4) / 2 ^ 1) = (t : Int) := by
                clear t1 t2 ent hP9 hD9
                rcases (show t = 0 ∨ t = 1 ∨ t = 2 ∨ t = 3 ∨ t = 4 ∨ t = 5 ∨ t = 6 ∨ t = 7 ∨ t = 8 ∨ t = 9 ∨ t = 10 ∨ t = 11 ∨ t = 12 ∨ t = 13 ∨ t = 14 ∨ t = 15 ∨ t = 16 ∨ t = 17 ∨ t = 18 ∨ t = 19 ∨ t = 20 ∨ t = 21 ∨ t = 22 ∨ t = 23 ∨ t = 24 ∨ t = 25 ∨ t = 26 ∨ t = 27 ∨ t = 28 ∨ t = 29 ∨ t = 30 ∨ t = 31 by omega) with rfl | rfl | rfl | rfl | rfl | rfl | rfl | rfl | rfl | rfl | rfl | rfl | rfl | rfl | rfl | rfl | rfl | rfl | rfl | rfl | rfl | rfl | rfl | rfl | rfl | rfl | rfl | rfl | rfl | rfl | rfl | rfl <;> (simp only [Nat.reducePow, Nat.reduceSub] at hmk; omega)
              exact ⟨by rw [er], ht, t1, t2⟩
            · exact ⟨by rw [ht]; exact hP9, va_K.moved hv hK, by rw [← hAe]; exact hD9⟩
          · refine lv_iinc (v := iZ (1 + 16 + 8 + 4 + 2)) (lv' := [(1, .int (iZ (1 + 16 + 8 + 4 + 2))), (0, .int (iZ ((((mk : Int) / 2 ^ 16) / 2 ^ 8) / 2 ^ 4)))]) hx hb d_jInt_numberOfTrailingZeros_67 hl (k := 1) rfl (iZ_add _ _) (by decide) rfl (fun ls hl => ?_)
            refine lv_iload_n hx hb d_jInt_numberOfTrailingZeros_70 rfl (lv_at hl 1 rfl) ?_
            refine lv_iconst (v := iZ (2)) hx hb d_jInt_numberOfTrailingZeros_71 (by decide +kernel) ?_
            refine zz_iushr (n := 2) hx hb d_jInt_numberOfTrailingZeros_72 (by omega) (by omega) (by omega) ?_
            refine lv_istore_n (lv' := [(0, .int (iZ (((((mk : Int) / 2 ^ 16) / 2 ^ 8) / 2 ^ 4) / 2 ^ 2))), (1, .int (iZ (1 + 16 + 8 + 4 + 2)))]) hx hb d_jInt_numberOfTrailingZeros_73 rfl hl (by decide) rfl (fun ls hl => ?_)
            refine lv_iload_n hx hb d_jInt_numberOfTrailingZeros_74 rfl (lv_at hl 1 rfl) ?_
            refine lv_iload_n hx hb d_jInt_numberOfTrailingZeros_75 rfl (lv_at hl 0 rfl) ?_
            refine lv_iconst (v := iZ (1)) hx hb d_jInt_numberOfTrailingZeros_76 (by decide +kernel) ?_
            refine zz_iushr (n := 1) hx hb d_jInt_numberOfTrailingZeros_77 (by omega) (by omega) (by omega) ?_
            refine zz_iadd hx hb d_jInt_numberOfTrailingZeros_78 ?_
            have hP9 : va_P D cls0 [] H := hP.sub [] rfl
            have hD9 : va_D A [] := hD.sub [] (by decide) rfl
            rw [hQ, ← hAe]
            refine r_i (v := (iZ (1 + 16 + 8 + 4 + 2 + ((((((mk : Int) / 2 ^ 16) / 2 ^ 8) / 2 ^ 4) / 2 ^ 2) / 2 ^ 1)))) K t hS d_jInt_numberOfTrailingZeros_79 ?_ (fun t ht hv => ?_)
            · have er : 1 + 16 + 8 + 4 + 2 + ((((((mk : Int) / 2 ^ 16) / 2 ^ 8) / 2 ^ 4) / 2 ^ 2) / 2 ^ 1) = (t : Int) := by
                clear t1 t2 ent hP9 hD9
                rcases (show t = 0 ∨ t = 1 ∨ t = 2 ∨ t = 3 ∨ t = 4 ∨ t = 5 ∨ t = 6 ∨ t = 7 ∨ t = 8 ∨ t = 9 ∨ t = 10 ∨ t = 11 ∨ t = 12 ∨ t = 13 ∨ t = 14 ∨ t = 15 ∨ t = 16 ∨ t = 17 ∨ t = 18 ∨ t = 19 ∨ t = 20 ∨ t = 21 ∨ t = 22 ∨ t = 23 ∨ t = 24 ∨ t = 25 ∨ t = 26 ∨ t = 27 ∨ t = 28 ∨ t = 29 ∨ t = 30 ∨ t = 31 by omega) with rfl | rfl | rfl | rfl | rfl | rfl | rfl | rfl | rfl | rfl | rfl | rfl | rfl | rfl | rfl | rfl | rfl | rfl | rfl | rfl | rfl | rfl | rfl | rfl | rfl | rfl | rfl | rfl | rfl | rfl | rfl | rfl <;> (simp only [Nat.reducePow, Nat.reduceSub] at hmk; omega)
              exact ⟨by rw [er], ht, t1, t2⟩
            · exact ⟨by rw [ht]; exact hP9, va_K.moved hv hK, by rw [← hAe]; exact hD9⟩
  · refine lv_iload_n hx hb d_jInt_numberOfTrailingZeros_12 rfl (lv_at hl 0 rfl) ?_
    refine lv_bipush (v := iZ (32)) hx hb d_jInt_numberOfTrailingZeros_13 (by decide +kernel) ?_
    refine lv_iand hx hb d_jInt_numberOfTrailingZeros_15 ?_
    rw [show iZ (mk : Int) &&& iZ 32 = iZ 0 by rw [show mk = 0 by omega]; rfl]
    have hP9 : va_P D cls0 [] H := hP.sub [] rfl
    have hD9 : va_D A [] := hD.sub [] (by decide) rfl
    rw [hQ, ← hAe]
    refine r_i (v := (iZ 0)) K t hS d_jInt_numberOfTrailingZeros_16 ?_ (fun t ht hv => ?_)
    · have e0 : t = 0 := by
        rcases Nat.eq_zero_or_pos t with q | q
        · exact q
        · have := Nat.pow_le_pow_right (show 0 < 2 by decide) q; omega
      subst e0
      exact ⟨rfl, ht, t1, t2⟩
    · exact ⟨by rw [ht]; exact hP9, va_K.moved hv hK, by rw [← hAe]; exact hD9⟩
theorem lz_no {f : Nat → Int32} {k v i : Nat} (rv : Rp f k v) (hv : 0 < v) (iz : ∀ j, j < i → f j = 0) (h : k ≤ i) : False := by
  have h1 : vV f k = 0 := vV_zeros (n := 0) (Nat.zero_le _) (fun j _ h2 => iz j (by omega))
  have := rv.1
  omega
set_option maxHeartbeats 4000000 in
set_option maxRecDepth 100000 in
/-- lowZeros() -/
theorem c_Wh_lowZeros (l : Launch) (D : va_G) (h : Nat) (a : Nat) (k : Nat) (n : Nat) (f : Nat → Int32) (cI : ClassId) (v : Nat) (sz : Nat) (rv : Rp f k v) (hv : 0 < v) (hk : k ≤ n) (hn : n < 1000000) : Met l y_Wh_lowZeros (wsB y_Wh_lowZeros b_Wh_lowZeros 2 (some .int)) ({ frames := 1, cells := 0, slots := 0, locals := 21 }) (va_Pc [.ref h] (wPre D [(cI, .int)] [(h, .inr (0, [.ref a, .int (iZ (k : Int))])), (a, .inl (cI, n, .inl f))] sz)) (va_QV (fun (v9 : Option Value) (u9 : Nat) => v9 = some (.int (iZ (u9 : Int))) ∧ (u9 < 32 * k) ∧ (v % 2 ^ u9 = 0) ∧ (v / 2 ^ u9 % 2 = 1)) (fun u9 => wPost D [(cI, .int)] [(h, .inr (0, [.ref a, .int (iZ (k : Int))])), (a, .inl (cI, n, .inl f))] [(h, .inr (0, [.ref a, .int (iZ (k : Int))])), (a, .inl (cI, n, .inl f))] sz) (va_A [(h, .inr (0, [.ref a, .int (iZ (k : Int))])), (a, .inl (cI, n, .inl f))] sz)) 0 0 (va_A [(h, .inr (0, [.ref a, .int (iZ (k : Int))])), (a, .inl (cI, n, .inl f))] sz) := by
  refine met_enter (by decide +kernel) (Nat.le_of_ble_eq_true rfl) ?_
  intro p e s m args below meth c ls A R Q H locs K hin hAe hA hR hQ hP hK hD hS hl
  obtain ⟨hx, hb, hml, hrt, hlk, hts, hown, hno⟩ := id K
  have hl : lv_has ls 2 [(0, .ref h)] := hl
  refine lv_iconst (v := iZ (0)) hx hb d_Wh_lowZeros_0 (by decide +kernel) ?_
  refine lv_istore_n (lv' := [(1, .int (iZ 0)), (0, .ref h)]) hx hb d_Wh_lowZeros_1 rfl hl (by decide) rfl (fun ls hl => ?_)
  have L2 : ∀ (N : Nat) (i : Nat) (H : Heap) (locs : List Loc) (ls : Array Slot), k - i < N → (i ≤ k) → (∀ j, j < i → f j = 0) → va_P D cls0 [(h, .inr (0, [.ref a, .int (iZ (k : Int))])), (a, .inl (cI, n, .inl f))] H → va_D A [(h, .inr (0, [.ref a, .int (iZ (k : Int))])), (a, .inl (cI, n, .inl f))] → va_S A s.heap H locs → lv_has ls 2 [(0, .ref h), (1, .int (iZ (i : Int)))] → W p l e R s m args below meth c H locs 0 0 Q (F0 m 2 ls []) := by
    intro N
    induction N with
    | zero => intro i H locs ls hN; exact absurd hN (Nat.not_lt_zero _)
    | succ N ih =>
      intro i H locs ls hN ii iz hP hD hS hl
      refine lv_iload_n hx hb d_Wh_lowZeros_2 rfl (lv_at hl 1 rfl) ?_
      refine lv_aload_n hx hb d_Wh_lowZeros_3 rfl (lv_at hl 0 rfl) ?_
      refine va_get (D := D) (ci := 0) (v := .int (iZ (k : Int))) (C := R_Wh) (T := F_Wh) (N := 2) hx hb hts i_Wh hown hK hP 0 rfl rfl 1 (by decide) (hts _ (big_in mw_94 rfl)) (fun _ h9 => h9) rfl d_Wh_lowZeros_4 ?_
      refine zz_icmp_ge (tgt := 40) hx hb d_Wh_lowZeros_7 (by decide) (by omega) (by omega) (fun c7 => False.elim (by exact lz_no rv hv iz (by omega))) (fun c7 => ?_)
      refine lv_aload_n hx hb d_Wh_lowZeros_10 rfl (lv_at hl 0 rfl) ?_
      refine va_get (D := D) (ci := 0) (v := .ref a) (C := R_Wh) (T := F_Wh) (N := 2) hx hb hts i_Wh hown hK hP 0 rfl rfl 0 (by decide) (hts _ (big_in mw_90 rfl)) (fun _ h9 => h9) rfl d_Wh_lowZeros_11 ?_
      refine lv_iload_n hx hb d_Wh_lowZeros_14 rfl (lv_at hl 1 rfl) ?_
      refine zz_iald hx hb hK hP 1 0 rfl rfl (i) (by omega) (by omega) (by omega) d_Wh_lowZeros_15 ?_
      refine lv_if_eq (tgt := 34) hx hb d_Wh_lowZeros_16 (by decide) (fun c16 => ?_) (fun c16 => ?_)
      · refine lv_iinc (v := iZ ((i : Int) + 1)) (lv' := [(1, .int (iZ ((i : Int) + 1))), (0, .ref h)]) hx hb d_Wh_lowZeros_34 hl (k := 1) rfl (iZ_add _ _) (by decide) rfl (fun ls hl => ?_)
        refine lv_goto (tgt := 2) hx hb d_Wh_lowZeros_37 (by decide) ?_
        rw [show ((i : Int) + 1 : Int) = ((i + 1 : Nat) : Int) by omega] at hl
        exact ih (i + 1) _ _ _ (by omega) (by omega) (fun j h => by rcases Nat.lt_or_ge j i with q | q; exact iz j q; rw [show j = i by omega]; exact c16) (hP.sub (ws' := [(h, .inr (0, [.ref a, .int (iZ (k : Int))])), (a, .inl (cI, n, .inl f))]) [0, 1] rfl) (hD.sub (ws' := [(h, .inr (0, [.ref a, .int (iZ (k : Int))])), (a, .inl (cI, n, .inl f))]) [0, 1] (by decide) rfl) hS (lv_sub hl [1, 0] rfl)
      · refine lv_bipush (v := iZ (32)) hx hb d_Wh_lowZeros_19 (by decide +kernel) ?_
        refine lv_iload_n hx hb d_Wh_lowZeros_21 rfl (lv_at hl 1 rfl) ?_
        refine zz_imul hx hb d_Wh_lowZeros_22 ?_
        refine lv_aload_n hx hb d_Wh_lowZeros_23 rfl (lv_at hl 0 rfl) ?_
        refine va_get (D := D) (ci := 0) (v := .ref a) (C := R_Wh) (T := F_Wh) (N := 2) hx hb hts i_Wh hown hK hP 0 rfl rfl 0 (by decide) (hts _ (big_in mw_90 rfl)) (fun _ h9 => h9) rfl d_Wh_lowZeros_24 ?_
        refine lv_iload_n hx hb d_Wh_lowZeros_27 rfl (lv_at hl 1 rfl) ?_
        refine zz_iald hx hb hK hP 1 0 rfl rfl (i) (by omega) (by omega) (by omega) d_Wh_lowZeros_28 ?_
        refine cs (n := 1) (wr := [(h, .inr (0, [.ref a, .int (iZ (k : Int))])), (a, .inl (cI, n, .inl f))]) (w1 := (fun (u : Nat) => [])) (As := [.int (f i)]) (rest := [.int (iZ (32 * (i : Int)))]) K hP hD hK hS hA hl.1 (c_jInt_numberOfTrailingZeros l D (f i) H.size c16) [] [0, 1] [] rfl rfl rfl (by decide) (by decide) (by decide) (big_in mw_992 rfl) (big_in mw_18 rfl) (big_in mw_990 rfl) (big_in mw_991 rfl) rfl rfl (by decide +kernel) ⟨by rw [hR]; exact Nat.le_of_ble_eq_true rfl, by rw [hR]; exact Nat.le_of_ble_eq_true rfl⟩ rfl (Nat.le_of_ble_eq_true rfl) d_Wh_lowZeros_29 ⟨by rw [hR]; exact Nat.le_of_ble_eq_true rfl, by rw [hR]; exact Nat.le_of_ble_eq_true rfl⟩ rfl (fun v u H locs hp1 hP hD hS _ => ?_)
        obtain ⟨t, rfl⟩ : ∃ z, z = u := ⟨_, rfl⟩
        obtain ⟨rfl, g1, g2, g3⟩ := hp1
        have hP : va_P D cls0 [(h, .inr (0, [.ref a, .int (iZ (k : Int))])), (a, .inl (cI, n, .inl f))] H := hP
        have hD : va_D A [(h, .inr (0, [.ref a, .int (iZ (k : Int))])), (a, .inl (cI, n, .inl f))] := hD
        show W p l e R s m args below meth c H locs _ _ Q (F0 m 32 ls [.int (iZ (t : Int)), .int (iZ (32 * (i : Int)))])
        refine zz_iadd hx hb d_Wh_lowZeros_32 ?_
        have hP9 : va_P D cls0 [(h, .inr (0, [.ref a, .int (iZ (k : Int))])), (a, .inl (cI, n, .inl f))] H := hP.sub [0, 1] rfl
        have hD9 : va_D A [(h, .inr (0, [.ref a, .int (iZ (k : Int))])), (a, .inl (cI, n, .inl f))] := hD.sub [0, 1] (by decide) rfl
        rw [hQ, ← hAe]
        refine r_i (v := (iZ (32 * (i : Int) + (t : Int)))) K (32 * i + t) hS d_Wh_lowZeros_33 ?_ (fun t ht hv => ?_)
        · obtain ⟨z1, z2⟩ := lz_end rv.1 (by omega) iz g1 g2 g3
          exact ⟨by congr 2, by omega, z1, z2⟩
        · exact ⟨by rw [ht]; exact hP9, va_K.moved hv hK, by rw [← hAe]; exact hD9⟩
  exact L2 _ 0 _ _ _ (Nat.lt_succ_self _) (Nat.zero_le _) (fun j h => absurd h (Nat.not_lt_zero _)) (hP.sub (ws' := [(h, .inr (0, [.ref a, .int (iZ (k : Int))])), (a, .inl (cI, n, .inl f))]) [0, 1] rfl) (hD.sub (ws' := [(h, .inr (0, [.ref a, .int (iZ (k : Int))])), (a, .inl (cI, n, .inl f))]) [0, 1] (by decide) rfl) hS (lv_sub hl [1, 0] rfl)
set_option maxHeartbeats 4000000 in
set_option maxRecDepth 100000 in
/-- becomeZero() -/
theorem c_Ra_becomeZero (l : Launch) (D : va_G) (ra : Nat) (qs : Int32) (h1 : Nat) (a1 : Nat) (q1 : Int32) (n1 : Nat) (f1 : Nat → Int32) (h2 : Nat) (a2 : Nat) (q2 : Int32) (n2 : Nat) (f2 : Nat → Int32) (cI : ClassId) (sz : Nat) (w1 : 2 ≤ n1) (w2 : 2 ≤ n2) (hn1 : n1 < 1000000) (hn2 : n2 < 1000000) : Met l y_Ra_becomeZero (wsB y_Ra_becomeZero b_Ra_becomeZero 1 none) ({ frames := 2, cells := 0, slots := 0, locals := 42 }) (va_Pc [.ref ra] (wPre D [(cI, .int)] [(ra, .inr (1, [.int qs, .ref h1, .ref h2])), (h1, .inr (0, [.ref a1, .int q1])), (a1, .inl (cI, n1, .inl f1)), (h2, .inr (0, [.ref a2, .int q2])), (a2, .inl (cI, n2, .inl f2))] sz)) (va_QV (fun (v9 : Option Value) (u9 : Nat × (Nat → Int32) × Nat × (Nat → Int32)) => v9 = none ∧ (Rp u9.2.1 u9.1 0) ∧ (Rp u9.2.2.2 u9.2.2.1 1)) (fun u9 => wPost D [(cI, .int)] [(ra, .inr (1, [.int qs, .ref h1, .ref h2])), (h1, .inr (0, [.ref a1, .int q1])), (a1, .inl (cI, n1, .inl f1)), (h2, .inr (0, [.ref a2, .int q2])), (a2, .inl (cI, n2, .inl f2))] [(ra, .inr (1, [.int (iZ 0), .ref h1, .ref h2])), (h1, .inr (0, [.ref a1, .int (iZ (u9.1 : Int))])), (a1, .inl (cI, n1, .inl u9.2.1)), (h2, .inr (0, [.ref a2, .int (iZ (u9.2.2.1 : Int))])), (a2, .inl (cI, n2, .inl u9.2.2.2))] sz) (va_A [(ra, .inr (1, [.int qs, .ref h1, .ref h2])), (h1, .inr (0, [.ref a1, .int q1])), (a1, .inl (cI, n1, .inl f1)), (h2, .inr (0, [.ref a2, .int q2])), (a2, .inl (cI, n2, .inl f2))] sz)) 0 0 (va_A [(ra, .inr (1, [.int qs, .ref h1, .ref h2])), (h1, .inr (0, [.ref a1, .int q1])), (a1, .inl (cI, n1, .inl f1)), (h2, .inr (0, [.ref a2, .int q2])), (a2, .inl (cI, n2, .inl f2))] sz) := by
  refine met_enter (by decide +kernel) (Nat.le_of_ble_eq_true rfl) ?_
  intro p e s m args below meth c ls A R Q H locs K hin hAe hA hR hQ hP hK hD hS hl
  obtain ⟨hx, hb, hml, hrt, hlk, hts, hown, hno⟩ := id K
  have hl : lv_has ls 1 [(0, .ref ra)] := hl
  refine lv_aload_n hx hb d_Ra_becomeZero_0 rfl (lv_at hl 0 rfl) ?_
  refine lv_iconst (v := iZ (0)) hx hb d_Ra_becomeZero_1 (by decide +kernel) ?_
  refine va_put (D := D) (ci := 1) (v := .int (iZ 0)) (ty := .int) (C := R_Ra) (T := F_Ra) (N := 3) hx hb hts i_Ra t_Ra t_Ra_ok n_Ra hown hK hP hD hS 0 rfl rfl 0 (by decide) (hts _ (big_in mw_186 rfl)) (fun _ h9 => h9) rfl (by decide +kernel) rfl rfl (Nat.le_of_ble_eq_true rfl) d_Ra_becomeZero_2 (fun H locs hP hD hS => ?_)
  have hP : va_P D cls0 [(ra, .inr (1, [.int (iZ 0), .ref h1, .ref h2])), (h1, .inr (0, [.ref a1, .int q1])), (a1, .inl (cI, n1, .inl f1)), (h2, .inr (0, [.ref a2, .int q2])), (a2, .inl (cI, n2, .inl f2))] H := hP
  have hD : va_D A [(ra, .inr (1, [.int (iZ 0), .ref h1, .ref h2])), (h1, .inr (0, [.ref a1, .int q1])), (a1, .inl (cI, n1, .inl f1)), (h2, .inr (0, [.ref a2, .int q2])), (a2, .inl (cI, n2, .inl f2))] := hD
  refine lv_aload_n hx hb d_Ra_becomeZero_5 rfl (lv_at hl 0 rfl) ?_
  refine va_get (D := D) (ci := 1) (v := .ref h1) (C := R_Ra) (T := F_Ra) (N := 3) hx hb hts i_Ra hown hK hP 0 rfl rfl 1 (by decide) (hts _ (big_in mw_192 rfl)) (fun _ h9 => h9) rfl d_Ra_becomeZero_6 ?_
  refine lv_lconst (v := lZ (0)) hx hb d_Ra_becomeZero_9 (by decide +kernel) ?_
  refine cv (n := 1) (wr := [(ra, .inr (1, [.int (iZ 0), .ref h1, .ref h2])), (h2, .inr (0, [.ref a2, .int q2])), (a2, .inl (cI, n2, .inl f2))]) (w1 := (fun (u : Nat × (Nat → Int32)) => [(h1, .inr (0, [.ref a1, .int (iZ (u.1 : Int))])), (a1, .inl (cI, n1, .inl u.2))])) (As := [.long (lZ 0)]) (rest := []) K hP hD hK hS hA hl.1 (c_Wh_becomeLong l D h1 a1 q1 n1 f1 cI 0 H.size (by omega) (by omega) (by omega)) [1, 2] [0, 3, 4] [0] rfl rfl rfl (by decide) (by decide) (by decide) 0 rfl rfl (big_in mw_381 rfl) (big_in mw_6 rfl) (big_in mw_944 rfl) (big_in mw_379 rfl) (big_in mw_380 rfl) rfl rfl (by decide +kernel) ⟨by rw [hR]; exact Nat.le_of_ble_eq_true rfl, by rw [hR]; exact Nat.le_of_ble_eq_true rfl⟩ rfl (Nat.le_of_ble_eq_true rfl) d_Ra_becomeZero_10 ⟨by rw [hR]; exact Nat.le_of_ble_eq_true rfl, by rw [hR]; exact Nat.le_of_ble_eq_true rfl⟩ rfl (fun v u H locs hp1 hP hD hS _ => ?_)
  obtain ⟨u1, g1⟩ := u
  try dsimp only at hp1
  obtain ⟨rfl, b1, b2⟩ := hp1
  have hP : va_P D cls0 [(ra, .inr (1, [.int (iZ 0), .ref h1, .ref h2])), (h2, .inr (0, [.ref a2, .int q2])), (a2, .inl (cI, n2, .inl f2)), (h1, .inr (0, [.ref a1, .int (iZ (u1 : Int))])), (a1, .inl (cI, n1, .inl g1))] H := hP
  have hD : va_D A [(ra, .inr (1, [.int (iZ 0), .ref h1, .ref h2])), (h2, .inr (0, [.ref a2, .int q2])), (a2, .inl (cI, n2, .inl f2)), (h1, .inr (0, [.ref a1, .int (iZ (u1 : Int))])), (a1, .inl (cI, n1, .inl g1))] := hD
  show W p l e R s m args below meth c H locs _ _ Q (F0 m 13 ls [])
  refine lv_aload_n hx hb d_Ra_becomeZero_13 rfl (lv_at hl 0 rfl) ?_
  refine va_get (D := D) (ci := 1) (v := .ref h2) (C := R_Ra) (T := F_Ra) (N := 3) hx hb hts i_Ra hown hK hP 0 rfl rfl 2 (by decide) (hts _ (big_in mw_198 rfl)) (fun _ h9 => h9) rfl d_Ra_becomeZero_14 ?_
  refine lv_lconst (v := lZ (1)) hx hb d_Ra_becomeZero_17 (by decide +kernel) ?_
  refine cv (n := 1) (wr := [(ra, .inr (1, [.int (iZ 0), .ref h1, .ref h2])), (h1, .inr (0, [.ref a1, .int (iZ (u1 : Int))])), (a1, .inl (cI, n1, .inl g1))]) (w1 := (fun (u : Nat × (Nat → Int32)) => [(h2, .inr (0, [.ref a2, .int (iZ (u.1 : Int))])), (a2, .inl (cI, n2, .inl u.2))])) (As := [.long (lZ 1)]) (rest := []) K hP hD hK hS hA hl.1 (c_Wh_becomeLong l D h2 a2 q2 n2 f2 cI 1 H.size (by omega) (by omega) (by omega)) [1, 2] [0, 3, 4] [0] rfl rfl rfl (by decide) (by decide) (by decide) 0 rfl rfl (big_in mw_381 rfl) (big_in mw_6 rfl) (big_in mw_944 rfl) (big_in mw_379 rfl) (big_in mw_380 rfl) rfl rfl (by decide +kernel) ⟨by rw [hR]; exact Nat.le_of_ble_eq_true rfl, by rw [hR]; exact Nat.le_of_ble_eq_true rfl⟩ rfl (Nat.le_of_ble_eq_true rfl) d_Ra_becomeZero_18 ⟨by rw [hR]; exact Nat.le_of_ble_eq_true rfl, by rw [hR]; exact Nat.le_of_ble_eq_true rfl⟩ rfl (fun v u H locs hp2 hP hD hS _ => ?_)
  obtain ⟨u2, g2⟩ := u
  try dsimp only at hp2
  obtain ⟨rfl, b3, b4⟩ := hp2
  have hP : va_P D cls0 [(ra, .inr (1, [.int (iZ 0), .ref h1, .ref h2])), (h1, .inr (0, [.ref a1, .int (iZ (u1 : Int))])), (a1, .inl (cI, n1, .inl g1)), (h2, .inr (0, [.ref a2, .int (iZ (u2 : Int))])), (a2, .inl (cI, n2, .inl g2))] H := hP
  have hD : va_D A [(ra, .inr (1, [.int (iZ 0), .ref h1, .ref h2])), (h1, .inr (0, [.ref a1, .int (iZ (u1 : Int))])), (a1, .inl (cI, n1, .inl g1)), (h2, .inr (0, [.ref a2, .int (iZ (u2 : Int))])), (a2, .inl (cI, n2, .inl g2))] := hD
  show W p l e R s m args below meth c H locs _ _ Q (F0 m 21 ls [])
  have hP9 : va_P D cls0 [(ra, .inr (1, [.int (iZ 0), .ref h1, .ref h2])), (h1, .inr (0, [.ref a1, .int (iZ (u1 : Int))])), (a1, .inl (cI, n1, .inl g1)), (h2, .inr (0, [.ref a2, .int (iZ (u2 : Int))])), (a2, .inl (cI, n2, .inl g2))] H := hP.sub [0, 1, 2, 3, 4] rfl
  have hD9 : va_D A [(ra, .inr (1, [.int (iZ 0), .ref h1, .ref h2])), (h1, .inr (0, [.ref a1, .int (iZ (u1 : Int))])), (a1, .inl (cI, n1, .inl g1)), (h2, .inr (0, [.ref a2, .int (iZ (u2 : Int))])), (a2, .inl (cI, n2, .inl g2))] := hD.sub [0, 1, 2, 3, 4] (by decide) rfl
  rw [hQ, ← hAe]
  refine r_v K (u1, g1, u2, g2) hS d_Ra_becomeZero_21 ?_ (fun t ht hv => ?_)
  · exact ⟨rfl, b1, b3⟩
  · exact ⟨by rw [ht]; exact hP9, va_K.moved hv hK, by rw [← hAe]; exact hD9⟩
set_option maxHeartbeats 4000000 in
set_option maxRecDepth 100000 in
/-- turnOver() -/
theorem c_Ra_turnOver (l : Launch) (D : va_G) (ra : Nat) (qs : Int32) (h1 : Nat) (h2 : Nat) (sz : Nat) : Met l y_Ra_turnOver (wsB y_Ra_turnOver b_Ra_turnOver 2 none) ({ frames := 0, cells := 0, slots := 0, locals := 0 }) (va_Pc [.ref ra] (wPre D [] [(ra, .inr (1, [.int qs, .ref h1, .ref h2]))] sz)) (va_QV (fun (v9 : Option Value) (u9 : Unit) => v9 = none) (fun u9 => wPost D [] [(ra, .inr (1, [.int qs, .ref h1, .ref h2]))] [(ra, .inr (1, [.int qs, .ref h2, .ref h1]))] sz) (va_A [(ra, .inr (1, [.int qs, .ref h1, .ref h2]))] sz)) 0 0 (va_A [(ra, .inr (1, [.int qs, .ref h1, .ref h2]))] sz) := by
  refine met_enter (by decide +kernel) (Nat.le_of_ble_eq_true rfl) ?_
  intro p e s m args below meth c ls A R Q H locs K hin hAe hA hR hQ hP hK hD hS hl
  obtain ⟨hx, hb, hml, hrt, hlk, hts, hown, hno⟩ := id K
  have hl : lv_has ls 2 [(0, .ref ra)] := hl
  refine lv_aload_n hx hb d_Ra_turnOver_0 rfl (lv_at hl 0 rfl) ?_
  refine va_get (D := D) (ci := 1) (v := .ref h1) (C := R_Ra) (T := F_Ra) (N := 3) hx hb hts i_Ra hown hK hP 0 rfl rfl 1 (by decide) (hts _ (big_in mw_192 rfl)) (fun _ h9 => h9) rfl d_Ra_turnOver_1 ?_
  refine lv_astore_n (lv' := [(1, .ref h1), (0, .ref ra)]) hx hb d_Ra_turnOver_4 rfl hl (by decide) rfl (fun ls hl => ?_)
  refine lv_aload_n hx hb d_Ra_turnOver_5 rfl (lv_at hl 1 rfl) ?_
  refine lv_aload_n hx hb d_Ra_turnOver_6 rfl (lv_at hl 1 rfl) ?_
  refine va_get (D := D) (ci := 1) (v := .ref h2) (C := R_Ra) (T := F_Ra) (N := 3) hx hb hts i_Ra hown hK hP 0 rfl rfl 2 (by decide) (hts _ (big_in mw_198 rfl)) (fun _ h9 => h9) rfl d_Ra_turnOver_7 ?_
  refine va_put (D := D) (ci := 1) (v := .ref h2) (ty := .object "FractionPool$Whole") (C := R_Ra) (T := F_Ra) (N := 3) hx hb hts i_Ra t_Ra t_Ra_ok n_Ra hown hK hP hD hS 0 rfl rfl 1 (by decide) (hts _ (big_in mw_192 rfl)) (fun _ h9 => h9) rfl (by decide +kernel) rfl rfl (Nat.le_of_ble_eq_true rfl) d_Ra_turnOver_10 (fun H locs hP hD hS => ?_)
  have hP : va_P D cls0 [(ra, .inr (1, [.int qs, .ref h2, .ref h2]))] H := hP
  have hD : va_D A [(ra, .inr (1, [.int qs, .ref h2, .ref h2]))] := hD
  refine lv_aload_n hx hb d_Ra_turnOver_13 rfl (lv_at hl 1 rfl) ?_
  refine lv_aload_n hx hb d_Ra_turnOver_14 rfl (lv_at hl 0 rfl) ?_
  refine va_put (D := D) (ci := 1) (v := .ref h1) (ty := .object "FractionPool$Whole") (C := R_Ra) (T := F_Ra) (N := 3) hx hb hts i_Ra t_Ra t_Ra_ok n_Ra hown hK hP hD hS 0 rfl rfl 2 (by decide) (hts _ (big_in mw_198 rfl)) (fun _ h9 => h9) rfl (by decide +kernel) rfl rfl (Nat.le_of_ble_eq_true rfl) d_Ra_turnOver_15 (fun H locs hP hD hS => ?_)
  have hP : va_P D cls0 [(ra, .inr (1, [.int qs, .ref h2, .ref h1]))] H := hP
  have hD : va_D A [(ra, .inr (1, [.int qs, .ref h2, .ref h1]))] := hD
  have hP9 : va_P D cls0 [(ra, .inr (1, [.int qs, .ref h2, .ref h1]))] H := hP.sub [0] rfl
  have hD9 : va_D A [(ra, .inr (1, [.int qs, .ref h2, .ref h1]))] := hD.sub [0] (by decide) rfl
  rw [hQ, ← hAe]
  refine r_v K () hS d_Ra_turnOver_18 ?_ (fun t ht hv => ?_)
  · exact rfl
  · exact ⟨by rw [ht]; exact hP9, va_K.moved hv hK, by rw [← hAe]; exact hD9⟩
set_option maxHeartbeats 4000000 in
set_option maxRecDepth 100000 in
/-- becomeMultiple(times, e) -/
theorem c_Ra_becomeMultipleUp (l : Launch) (D : va_G) (ra : Nat) (qs : Int32) (h1 : Nat) (a1 : Nat) (q1 : Int32) (f1 : Nat → Int32) (h2 : Nat) (a2 : Nat) (q2 : Int32) (f2 : Nat → Int32) (n : Nat) (h4 : Nat) (a4 : Nat) (k4 : Nat) (f4 : Nat → Int32) (cI : ClassId) (v4 : Nat) (E : Nat) (sz : Nat) (r4 : Rp f4 k4 v4) (hE : E < 40000) (hk4 : k4 ≤ n) (hfit : k4 + E / 32 + 1 ≤ n) (hn2 : 2 ≤ n) (hn : n < 1000000) : Met l y_Ra_becomeMultiple (wsB y_Ra_becomeMultiple b_Ra_becomeMultiple 4 none) ({ frames := 3, cells := 0, slots := 0, locals := 121 }) (va_Pc [.ref ra, .ref h4, .int (iZ (E : Int))] (wPre D [(cI, .int)] [(ra, .inr (1, [.int qs, .ref h1, .ref h2])), (h1, .inr (0, [.ref a1, .int q1])), (a1, .inl (cI, n, .inl f1)), (h2, .inr (0, [.ref a2, .int q2])), (a2, .inl (cI, n, .inl f2)), (h4, .inr (0, [.ref a4, .int (iZ (k4 : Int))])), (a4, .inl (cI, n, .inl f4))] sz)) (va_QV (fun (v9 : Option Value) (u9 : Nat × (Nat → Int32) × Nat × (Nat → Int32)) => v9 = none ∧ (Rp u9.2.1 u9.1 (v4 * 2 ^ E)) ∧ (Rp u9.2.2.2 u9.2.2.1 1)) (fun u9 => wPost D [(cI, .int)] [(ra, .inr (1, [.int qs, .ref h1, .ref h2])), (h1, .inr (0, [.ref a1, .int q1])), (a1, .inl (cI, n, .inl f1)), (h2, .inr (0, [.ref a2, .int q2])), (a2, .inl (cI, n, .inl f2)), (h4, .inr (0, [.ref a4, .int (iZ (k4 : Int))])), (a4, .inl (cI, n, .inl f4))] [(ra, .inr (1, [.int qs, .ref h1, .ref h2])), (h1, .inr (0, [.ref a1, .int (iZ (u9.1 : Int))])), (a1, .inl (cI, n, .inl u9.2.1)), (h2, .inr (0, [.ref a2, .int (iZ (u9.2.2.1 : Int))])), (a2, .inl (cI, n, .inl u9.2.2.2)), (h4, .inr (0, [.ref a4, .int (iZ (k4 : Int))])), (a4, .inl (cI, n, .inl f4))] sz) (va_A [(ra, .inr (1, [.int qs, .ref h1, .ref h2])), (h1, .inr (0, [.ref a1, .int q1])), (a1, .inl (cI, n, .inl f1)), (h2, .inr (0, [.ref a2, .int q2])), (a2, .inl (cI, n, .inl f2)), (h4, .inr (0, [.ref a4, .int (iZ (k4 : Int))])), (a4, .inl (cI, n, .inl f4))] sz)) 0 0 (va_A [(ra, .inr (1, [.int qs, .ref h1, .ref h2])), (h1, .inr (0, [.ref a1, .int q1])), (a1, .inl (cI, n, .inl f1)), (h2, .inr (0, [.ref a2, .int q2])), (a2, .inl (cI, n, .inl f2)), (h4, .inr (0, [.ref a4, .int (iZ (k4 : Int))])), (a4, .inl (cI, n, .inl f4))] sz) := by
  refine met_enter (by decide +kernel) (Nat.le_of_ble_eq_true rfl) ?_
  intro p e s m args below meth c ls A R Q H locs K hin hAe hA hR hQ hP hK hD hS hl
  obtain ⟨hx, hb, hml, hrt, hlk, hts, hown, hno⟩ := id K
  have hl : lv_has ls 4 [(0, .ref ra), (1, .ref h4), (2, .int (iZ (E : Int)))] := hl
  refine lv_aload_n hx hb d_Ra_becomeMultiple_0 rfl (lv_at hl 0 rfl) ?_
  refine va_get (D := D) (ci := 1) (v := .ref h1) (C := R_Ra) (T := F_Ra) (N := 3) hx hb hts i_Ra hown hK hP 0 rfl rfl 1 (by decide) (hts _ (big_in mw_192 rfl)) (fun _ h9 => h9) rfl d_Ra_becomeMultiple_1 ?_
  refine lv_aload_n hx hb d_Ra_becomeMultiple_4 rfl (lv_at hl 1 rfl) ?_
  refine cv (n := 1) (wr := [(ra, .inr (1, [.int qs, .ref h1, .ref h2])), (h2, .inr (0, [.ref a2, .int q2])), (a2, .inl (cI, n, .inl f2))]) (w1 := (fun (u : (Nat → Int32)) => [(h1, .inr (0, [.ref a1, .int (iZ (k4 : Int))])), (a1, .inl (cI, n, .inl u)), (h4, .inr (0, [.ref a4, .int (iZ (k4 : Int))])), (a4, .inl (cI, n, .inl f4))])) (As := [.ref h4]) (rest := []) K hP hD hK hS hA hl.1 (c_Wh_become l D h1 a1 q1 n f1 h4 a4 k4 n f4 cI H.size (by omega) (by omega) (by omega) (by omega)) [1, 2, 5, 6] [0, 3, 4] [0] rfl rfl rfl (by decide) (by decide) (by decide) 0 rfl rfl (big_in mw_402 rfl) (big_in mw_6 rfl) (big_in mw_984 rfl) (big_in mw_400 rfl) (big_in mw_401 rfl) rfl rfl (by decide +kernel) ⟨by rw [hR]; exact Nat.le_of_ble_eq_true rfl, by rw [hR]; exact Nat.le_of_ble_eq_true rfl⟩ rfl (Nat.le_of_ble_eq_true rfl) d_Ra_becomeMultiple_5 ⟨by rw [hR]; exact Nat.le_of_ble_eq_true rfl, by rw [hR]; exact Nat.le_of_ble_eq_true rfl⟩ rfl (fun v u H locs hp1 hP hD hS _ => ?_)
  obtain ⟨gb, rfl⟩ : ∃ z, z = u := ⟨_, rfl⟩
  obtain ⟨rfl, pb⟩ := hp1
  have hP : va_P D cls0 [(ra, .inr (1, [.int qs, .ref h1, .ref h2])), (h2, .inr (0, [.ref a2, .int q2])), (a2, .inl (cI, n, .inl f2)), (h1, .inr (0, [.ref a1, .int (iZ (k4 : Int))])), (a1, .inl (cI, n, .inl gb)), (h4, .inr (0, [.ref a4, .int (iZ (k4 : Int))])), (a4, .inl (cI, n, .inl f4))] H := hP
  have hD : va_D A [(ra, .inr (1, [.int qs, .ref h1, .ref h2])), (h2, .inr (0, [.ref a2, .int q2])), (a2, .inl (cI, n, .inl f2)), (h1, .inr (0, [.ref a1, .int (iZ (k4 : Int))])), (a1, .inl (cI, n, .inl gb)), (h4, .inr (0, [.ref a4, .int (iZ (k4 : Int))])), (a4, .inl (cI, n, .inl f4))] := hD
  show W p l e R s m args below meth c H locs _ _ Q (F0 m 8 ls [])
  refine lv_aload_n hx hb d_Ra_becomeMultiple_8 rfl (lv_at hl 0 rfl) ?_
  refine va_get (D := D) (ci := 1) (v := .ref h2) (C := R_Ra) (T := F_Ra) (N := 3) hx hb hts i_Ra hown hK hP 0 rfl rfl 2 (by decide) (hts _ (big_in mw_198 rfl)) (fun _ h9 => h9) rfl d_Ra_becomeMultiple_9 ?_
  refine lv_lconst (v := lZ (1)) hx hb d_Ra_becomeMultiple_12 (by decide +kernel) ?_
  refine cv (n := 1) (wr := [(ra, .inr (1, [.int qs, .ref h1, .ref h2])), (h1, .inr (0, [.ref a1, .int (iZ (k4 : Int))])), (a1, .inl (cI, n, .inl gb)), (h4, .inr (0, [.ref a4, .int (iZ (k4 : Int))])), (a4, .inl (cI, n, .inl f4))]) (w1 := (fun (u : Nat × (Nat → Int32)) => [(h2, .inr (0, [.ref a2, .int (iZ (u.1 : Int))])), (a2, .inl (cI, n, .inl u.2))])) (As := [.long (lZ 1)]) (rest := []) K hP hD hK hS hA hl.1 (c_Wh_becomeLong l D h2 a2 q2 n f2 cI 1 H.size (by omega) (by omega) (by omega)) [1, 2] [0, 3, 4, 5, 6] [0] rfl rfl rfl (by decide) (by decide) (by decide) 0 rfl rfl (big_in mw_381 rfl) (big_in mw_6 rfl) (big_in mw_944 rfl) (big_in mw_379 rfl) (big_in mw_380 rfl) rfl rfl (by decide +kernel) ⟨by rw [hR]; exact Nat.le_of_ble_eq_true rfl, by rw [hR]; exact Nat.le_of_ble_eq_true rfl⟩ rfl (Nat.le_of_ble_eq_true rfl) d_Ra_becomeMultiple_13 ⟨by rw [hR]; exact Nat.le_of_ble_eq_true rfl, by rw [hR]; exact Nat.le_of_ble_eq_true rfl⟩ rfl (fun v u H locs hp2 hP hD hS _ => ?_)
  obtain ⟨ub, gc⟩ := u
  try dsimp only at hp2
  obtain ⟨rfl, b1, b2⟩ := hp2
  have hP : va_P D cls0 [(ra, .inr (1, [.int qs, .ref h1, .ref h2])), (h1, .inr (0, [.ref a1, .int (iZ (k4 : Int))])), (a1, .inl (cI, n, .inl gb)), (h4, .inr (0, [.ref a4, .int (iZ (k4 : Int))])), (a4, .inl (cI, n, .inl f4)), (h2, .inr (0, [.ref a2, .int (iZ (ub : Int))])), (a2, .inl (cI, n, .inl gc))] H := hP
  have hD : va_D A [(ra, .inr (1, [.int qs, .ref h1, .ref h2])), (h1, .inr (0, [.ref a1, .int (iZ (k4 : Int))])), (a1, .inl (cI, n, .inl gb)), (h4, .inr (0, [.ref a4, .int (iZ (k4 : Int))])), (a4, .inl (cI, n, .inl f4)), (h2, .inr (0, [.ref a2, .int (iZ (ub : Int))])), (a2, .inl (cI, n, .inl gc))] := hD
  show W p l e R s m args below meth c H locs _ _ Q (F0 m 16 ls [])
  have ub1 : ub = 1 := by rw [b1.size]; decide
  refine lv_iload_n hx hb d_Ra_becomeMultiple_16 rfl (lv_at hl 2 rfl) ?_
  refine zz_if_lt (tgt := 31) hx hb d_Ra_becomeMultiple_17 (by decide) (by omega) (fun c17 => False.elim (by omega)) (fun c17 => ?_)
  refine lv_aload_n hx hb d_Ra_becomeMultiple_20 rfl (lv_at hl 0 rfl) ?_
  refine va_get (D := D) (ci := 1) (v := .ref h1) (C := R_Ra) (T := F_Ra) (N := 3) hx hb hts i_Ra hown hK hP 0 rfl rfl 1 (by decide) (hts _ (big_in mw_192 rfl)) (fun _ h9 => h9) rfl d_Ra_becomeMultiple_21 ?_
  refine lv_iload_n hx hb d_Ra_becomeMultiple_24 rfl (lv_at hl 2 rfl) ?_
  refine cv (n := 1) (wr := [(ra, .inr (1, [.int qs, .ref h1, .ref h2])), (h4, .inr (0, [.ref a4, .int (iZ (k4 : Int))])), (a4, .inl (cI, n, .inl f4)), (h2, .inr (0, [.ref a2, .int (iZ (ub : Int))])), (a2, .inl (cI, n, .inl gc))]) (w1 := (fun (u : Nat × (Nat → Int32)) => [(h1, .inr (0, [.ref a1, .int (iZ (u.1 : Int))])), (a1, .inl (cI, n, .inl u.2))])) (As := [.int (iZ (E : Int))]) (rest := []) K hP hD hK hS hA hl.1 (c_Wh_shiftUp l D h1 a1 k4 n gb cI v4 E H.size (r4.congr pb) (by omega) (by omega) (by omega) (by omega)) [1, 2] [0, 3, 4, 5, 6] [0] rfl rfl rfl (by decide) (by decide) (by decide) 0 rfl rfl (big_in mw_753 rfl) (big_in mw_6 rfl) (big_in mw_985 rfl) (big_in mw_751 rfl) (big_in mw_752 rfl) rfl rfl (by decide +kernel) ⟨by rw [hR]; exact Nat.le_of_ble_eq_true rfl, by rw [hR]; exact Nat.le_of_ble_eq_true rfl⟩ rfl (Nat.le_of_ble_eq_true rfl) d_Ra_becomeMultiple_25 ⟨by rw [hR]; exact Nat.le_of_ble_eq_true rfl, by rw [hR]; exact Nat.le_of_ble_eq_true rfl⟩ rfl (fun v u H locs hp3 hP hD hS _ => ?_)
  obtain ⟨us, gs⟩ := u
  try dsimp only at hp3
  obtain ⟨rfl, e1, e2⟩ := hp3
  have hP : va_P D cls0 [(ra, .inr (1, [.int qs, .ref h1, .ref h2])), (h4, .inr (0, [.ref a4, .int (iZ (k4 : Int))])), (a4, .inl (cI, n, .inl f4)), (h2, .inr (0, [.ref a2, .int (iZ (ub : Int))])), (a2, .inl (cI, n, .inl gc)), (h1, .inr (0, [.ref a1, .int (iZ (us : Int))])), (a1, .inl (cI, n, .inl gs))] H := hP
  have hD : va_D A [(ra, .inr (1, [.int qs, .ref h1, .ref h2])), (h4, .inr (0, [.ref a4, .int (iZ (k4 : Int))])), (a4, .inl (cI, n, .inl f4)), (h2, .inr (0, [.ref a2, .int (iZ (ub : Int))])), (a2, .inl (cI, n, .inl gc)), (h1, .inr (0, [.ref a1, .int (iZ (us : Int))])), (a1, .inl (cI, n, .inl gs))] := hD
  show W p l e R s m args below meth c H locs _ _ Q (F0 m 28 ls [])
  refine lv_goto (tgt := 67) hx hb d_Ra_becomeMultiple_28 (by decide) ?_
  have hP9 : va_P D cls0 [(ra, .inr (1, [.int qs, .ref h1, .ref h2])), (h1, .inr (0, [.ref a1, .int (iZ (us : Int))])), (a1, .inl (cI, n, .inl gs)), (h2, .inr (0, [.ref a2, .int (iZ (ub : Int))])), (a2, .inl (cI, n, .inl gc)), (h4, .inr (0, [.ref a4, .int (iZ (k4 : Int))])), (a4, .inl (cI, n, .inl f4))] H := hP.sub [0, 5, 6, 3, 4, 1, 2] rfl
  have hD9 : va_D A [(ra, .inr (1, [.int qs, .ref h1, .ref h2])), (h1, .inr (0, [.ref a1, .int (iZ (us : Int))])), (a1, .inl (cI, n, .inl gs)), (h2, .inr (0, [.ref a2, .int (iZ (ub : Int))])), (a2, .inl (cI, n, .inl gc)), (h4, .inr (0, [.ref a4, .int (iZ (k4 : Int))])), (a4, .inl (cI, n, .inl f4))] := hD.sub [0, 5, 6, 3, 4, 1, 2] (by decide) rfl
  rw [hQ, ← hAe]
  refine r_v K (us, gs, ub, gc) hS d_Ra_becomeMultiple_67 ?_ (fun t ht hv => ?_)
  · exact ⟨rfl, e1, b1⟩
  · exact ⟨by rw [ht]; exact hP9, va_K.moved hv hK, by rw [← hAe]; exact hD9⟩
set_option maxHeartbeats 4000000 in
set_option maxRecDepth 100000 in
/-- becomeMultiple(times, e) -/
theorem c_Ra_becomeMultipleDn (l : Launch) (D : va_G) (ra : Nat) (qs : Int32) (h1 : Nat) (a1 : Nat) (q1 : Int32) (f1 : Nat → Int32) (h2 : Nat) (a2 : Nat) (q2 : Int32) (f2 : Nat → Int32) (n : Nat) (h4 : Nat) (a4 : Nat) (k4 : Nat) (f4 : Nat → Int32) (cI : ClassId) (v4 : Nat) (E : Nat) (sz : Nat) (r4 : Rp f4 k4 v4) (hE : E < 40000) (hk4 : k4 ≤ n) (hfit : E / 32 + 3 ≤ n) (hn2 : 2 ≤ n) (hn : n < 1000000) (hE0 : 0 < E) : Met l y_Ra_becomeMultiple (wsB y_Ra_becomeMultiple b_Ra_becomeMultiple 4 none) ({ frames := 3, cells := 0, slots := 0, locals := 121 }) (va_Pc [.ref ra, .ref h4, .int (iZ (-(E : Int)))] (wPre D [(cI, .int)] [(ra, .inr (1, [.int qs, .ref h1, .ref h2])), (h1, .inr (0, [.ref a1, .int q1])), (a1, .inl (cI, n, .inl f1)), (h2, .inr (0, [.ref a2, .int q2])), (a2, .inl (cI, n, .inl f2)), (h4, .inr (0, [.ref a4, .int (iZ (k4 : Int))])), (a4, .inl (cI, n, .inl f4))] sz)) (va_QV (fun (v9 : Option Value) (u9 : Nat × (Nat → Int32) × Nat × (Nat → Int32)) => v9 = none ∧ (Rp u9.2.1 u9.1 (rdN v4 (2 ^ E))) ∧ (Rp u9.2.2.2 u9.2.2.1 (rdD v4 (2 ^ E)))) (fun u9 => wPost D [(cI, .int)] [(ra, .inr (1, [.int qs, .ref h1, .ref h2])), (h1, .inr (0, [.ref a1, .int q1])), (a1, .inl (cI, n, .inl f1)), (h2, .inr (0, [.ref a2, .int q2])), (a2, .inl (cI, n, .inl f2)), (h4, .inr (0, [.ref a4, .int (iZ (k4 : Int))])), (a4, .inl (cI, n, .inl f4))] [(ra, .inr (1, [.int qs, .ref h1, .ref h2])), (h1, .inr (0, [.ref a1, .int (iZ (u9.1 : Int))])), (a1, .inl (cI, n, .inl u9.2.1)), (h2, .inr (0, [.ref a2, .int (iZ (u9.2.2.1 : Int))])), (a2, .inl (cI, n, .inl u9.2.2.2)), (h4, .inr (0, [.ref a4, .int (iZ (k4 : Int))])), (a4, .inl (cI, n, .inl f4))] sz) (va_A [(ra, .inr (1, [.int qs, .ref h1, .ref h2])), (h1, .inr (0, [.ref a1, .int q1])), (a1, .inl (cI, n, .inl f1)), (h2, .inr (0, [.ref a2, .int q2])), (a2, .inl (cI, n, .inl f2)), (h4, .inr (0, [.ref a4, .int (iZ (k4 : Int))])), (a4, .inl (cI, n, .inl f4))] sz)) 0 0 (va_A [(ra, .inr (1, [.int qs, .ref h1, .ref h2])), (h1, .inr (0, [.ref a1, .int q1])), (a1, .inl (cI, n, .inl f1)), (h2, .inr (0, [.ref a2, .int q2])), (a2, .inl (cI, n, .inl f2)), (h4, .inr (0, [.ref a4, .int (iZ (k4 : Int))])), (a4, .inl (cI, n, .inl f4))] sz) := by
  refine met_enter (by decide +kernel) (Nat.le_of_ble_eq_true rfl) ?_
  intro p e s m args below meth c ls A R Q H locs K hin hAe hA hR hQ hP hK hD hS hl
  obtain ⟨hx, hb, hml, hrt, hlk, hts, hown, hno⟩ := id K
  have hl : lv_has ls 4 [(0, .ref ra), (1, .ref h4), (2, .int (iZ (-(E : Int))))] := hl
  refine lv_aload_n hx hb d_Ra_becomeMultiple_0 rfl (lv_at hl 0 rfl) ?_
  refine va_get (D := D) (ci := 1) (v := .ref h1) (C := R_Ra) (T := F_Ra) (N := 3) hx hb hts i_Ra hown hK hP 0 rfl rfl 1 (by decide) (hts _ (big_in mw_192 rfl)) (fun _ h9 => h9) rfl d_Ra_becomeMultiple_1 ?_
  refine lv_aload_n hx hb d_Ra_becomeMultiple_4 rfl (lv_at hl 1 rfl) ?_
  refine cv (n := 1) (wr := [(ra, .inr (1, [.int qs, .ref h1, .ref h2])), (h2, .inr (0, [.ref a2, .int q2])), (a2, .inl (cI, n, .inl f2))]) (w1 := (fun (u : (Nat → Int32)) => [(h1, .inr (0, [.ref a1, .int (iZ (k4 : Int))])), (a1, .inl (cI, n, .inl u)), (h4, .inr (0, [.ref a4, .int (iZ (k4 : Int))])), (a4, .inl (cI, n, .inl f4))])) (As := [.ref h4]) (rest := []) K hP hD hK hS hA hl.1 (c_Wh_become l D h1 a1 q1 n f1 h4 a4 k4 n f4 cI H.size (by omega) (by omega) (by omega) (by omega)) [1, 2, 5, 6] [0, 3, 4] [0] rfl rfl rfl (by decide) (by decide) (by decide) 0 rfl rfl (big_in mw_402 rfl) (big_in mw_6 rfl) (big_in mw_984 rfl) (big_in mw_400 rfl) (big_in mw_401 rfl) rfl rfl (by decide +kernel) ⟨by rw [hR]; exact Nat.le_of_ble_eq_true rfl, by rw [hR]; exact Nat.le_of_ble_eq_true rfl⟩ rfl (Nat.le_of_ble_eq_true rfl) d_Ra_becomeMultiple_5 ⟨by rw [hR]; exact Nat.le_of_ble_eq_true rfl, by rw [hR]; exact Nat.le_of_ble_eq_true rfl⟩ rfl (fun v u H locs hp1 hP hD hS _ => ?_)
  obtain ⟨gb, rfl⟩ : ∃ z, z = u := ⟨_, rfl⟩
  obtain ⟨rfl, pb⟩ := hp1
  have hP : va_P D cls0 [(ra, .inr (1, [.int qs, .ref h1, .ref h2])), (h2, .inr (0, [.ref a2, .int q2])), (a2, .inl (cI, n, .inl f2)), (h1, .inr (0, [.ref a1, .int (iZ (k4 : Int))])), (a1, .inl (cI, n, .inl gb)), (h4, .inr (0, [.ref a4, .int (iZ (k4 : Int))])), (a4, .inl (cI, n, .inl f4))] H := hP
  have hD : va_D A [(ra, .inr (1, [.int qs, .ref h1, .ref h2])), (h2, .inr (0, [.ref a2, .int q2])), (a2, .inl (cI, n, .inl f2)), (h1, .inr (0, [.ref a1, .int (iZ (k4 : Int))])), (a1, .inl (cI, n, .inl gb)), (h4, .inr (0, [.ref a4, .int (iZ (k4 : Int))])), (a4, .inl (cI, n, .inl f4))] := hD
  show W p l e R s m args below meth c H locs _ _ Q (F0 m 8 ls [])
  refine lv_aload_n hx hb d_Ra_becomeMultiple_8 rfl (lv_at hl 0 rfl) ?_
  refine va_get (D := D) (ci := 1) (v := .ref h2) (C := R_Ra) (T := F_Ra) (N := 3) hx hb hts i_Ra hown hK hP 0 rfl rfl 2 (by decide) (hts _ (big_in mw_198 rfl)) (fun _ h9 => h9) rfl d_Ra_becomeMultiple_9 ?_
  refine lv_lconst (v := lZ (1)) hx hb d_Ra_becomeMultiple_12 (by decide +kernel) ?_
  refine cv (n := 1) (wr := [(ra, .inr (1, [.int qs, .ref h1, .ref h2])), (h1, .inr (0, [.ref a1, .int (iZ (k4 : Int))])), (a1, .inl (cI, n, .inl gb)), (h4, .inr (0, [.ref a4, .int (iZ (k4 : Int))])), (a4, .inl (cI, n, .inl f4))]) (w1 := (fun (u : Nat × (Nat → Int32)) => [(h2, .inr (0, [.ref a2, .int (iZ (u.1 : Int))])), (a2, .inl (cI, n, .inl u.2))])) (As := [.long (lZ 1)]) (rest := []) K hP hD hK hS hA hl.1 (c_Wh_becomeLong l D h2 a2 q2 n f2 cI 1 H.size (by omega) (by omega) (by omega)) [1, 2] [0, 3, 4, 5, 6] [0] rfl rfl rfl (by decide) (by decide) (by decide) 0 rfl rfl (big_in mw_381 rfl) (big_in mw_6 rfl) (big_in mw_944 rfl) (big_in mw_379 rfl) (big_in mw_380 rfl) rfl rfl (by decide +kernel) ⟨by rw [hR]; exact Nat.le_of_ble_eq_true rfl, by rw [hR]; exact Nat.le_of_ble_eq_true rfl⟩ rfl (Nat.le_of_ble_eq_true rfl) d_Ra_becomeMultiple_13 ⟨by rw [hR]; exact Nat.le_of_ble_eq_true rfl, by rw [hR]; exact Nat.le_of_ble_eq_true rfl⟩ rfl (fun v u H locs hp2 hP hD hS _ => ?_)
  obtain ⟨ub, gc⟩ := u
  try dsimp only at hp2
  obtain ⟨rfl, b1, b2⟩ := hp2
  have hP : va_P D cls0 [(ra, .inr (1, [.int qs, .ref h1, .ref h2])), (h1, .inr (0, [.ref a1, .int (iZ (k4 : Int))])), (a1, .inl (cI, n, .inl gb)), (h4, .inr (0, [.ref a4, .int (iZ (k4 : Int))])), (a4, .inl (cI, n, .inl f4)), (h2, .inr (0, [.ref a2, .int (iZ (ub : Int))])), (a2, .inl (cI, n, .inl gc))] H := hP
  have hD : va_D A [(ra, .inr (1, [.int qs, .ref h1, .ref h2])), (h1, .inr (0, [.ref a1, .int (iZ (k4 : Int))])), (a1, .inl (cI, n, .inl gb)), (h4, .inr (0, [.ref a4, .int (iZ (k4 : Int))])), (a4, .inl (cI, n, .inl f4)), (h2, .inr (0, [.ref a2, .int (iZ (ub : Int))])), (a2, .inl (cI, n, .inl gc))] := hD
  show W p l e R s m args below meth c H locs _ _ Q (F0 m 16 ls [])
  have ub1 : ub = 1 := by rw [b1.size]; decide
  refine lv_iload_n hx hb d_Ra_becomeMultiple_16 rfl (lv_at hl 2 rfl) ?_
  refine zz_if_lt (tgt := 31) hx hb d_Ra_becomeMultiple_17 (by decide) (by omega) (fun c17 => ?_) (fun c17 => False.elim (by omega))
  refine lv_aload_n hx hb d_Ra_becomeMultiple_31 rfl (lv_at hl 1 rfl) ?_
  refine va_get (D := D) (ci := 0) (v := .int (iZ (k4 : Int))) (C := R_Wh) (T := F_Wh) (N := 2) hx hb hts i_Wh hown hK hP 3 rfl rfl 1 (by decide) (hts _ (big_in mw_95 rfl)) (fun _ h9 => h9) rfl d_Ra_becomeMultiple_32 ?_
  refine zz_if_le (tgt := 67) hx hb d_Ra_becomeMultiple_35 (by decide) (by omega) (fun c35 => ?_) (fun c35 => ?_)
  · have hP9 : va_P D cls0 [(ra, .inr (1, [.int qs, .ref h1, .ref h2])), (h1, .inr (0, [.ref a1, .int (iZ (k4 : Int))])), (a1, .inl (cI, n, .inl gb)), (h2, .inr (0, [.ref a2, .int (iZ (ub : Int))])), (a2, .inl (cI, n, .inl gc)), (h4, .inr (0, [.ref a4, .int (iZ (k4 : Int))])), (a4, .inl (cI, n, .inl f4))] H := hP.sub [0, 1, 2, 5, 6, 3, 4] rfl
    have hD9 : va_D A [(ra, .inr (1, [.int qs, .ref h1, .ref h2])), (h1, .inr (0, [.ref a1, .int (iZ (k4 : Int))])), (a1, .inl (cI, n, .inl gb)), (h2, .inr (0, [.ref a2, .int (iZ (ub : Int))])), (a2, .inl (cI, n, .inl gc)), (h4, .inr (0, [.ref a4, .int (iZ (k4 : Int))])), (a4, .inl (cI, n, .inl f4))] := hD.sub [0, 1, 2, 5, 6, 3, 4] (by decide) rfl
    rw [hQ, ← hAe]
    refine r_v K (k4, gb, ub, gc) hS d_Ra_becomeMultiple_67 ?_ (fun t ht hv => ?_)
    · try dsimp only
      have h0 : v4 = 0 := by have := r4.pos; omega
      subst h0
      exact ⟨rfl, by rw [rdN_zero]; exact r4.congr pb, by unfold rdD; rw [Nat.gcd_zero_left, Nat.div_self (Nat.two_pow_pos _)]; exact b1⟩
    · exact ⟨by rw [ht]; exact hP9, va_K.moved hv hK, by rw [← hAe]; exact hD9⟩
  · refine lv_iload_n hx hb d_Ra_becomeMultiple_38 rfl (lv_at hl 2 rfl) ?_
    refine zz_ineg hx hb d_Ra_becomeMultiple_39 ?_
    refine lv_aload_n hx hb d_Ra_becomeMultiple_40 rfl (lv_at hl 1 rfl) ?_
    refine cv (n := 0) (wr := [(ra, .inr (1, [.int qs, .ref h1, .ref h2])), (h1, .inr (0, [.ref a1, .int (iZ (k4 : Int))])), (a1, .inl (cI, n, .inl gb)), (h2, .inr (0, [.ref a2, .int (iZ (ub : Int))])), (a2, .inl (cI, n, .inl gc))]) (w1 := (fun (u : Nat) => [(h4, .inr (0, [.ref a4, .int (iZ (k4 : Int))])), (a4, .inl (cI, n, .inl f4))])) (As := []) (rest := [.int (iZ (-(-(E : Int))))]) K hP hD hK hS hA hl.1 (c_Wh_lowZeros l D h4 a4 k4 n f4 cI v4 H.size r4 (by have := r4.pos; omega) (by omega) (by omega)) [3, 4] [0, 1, 2, 5, 6] [0] rfl rfl rfl (by decide) (by decide) (by decide) 0 rfl rfl (big_in mw_989 rfl) (big_in mw_6 rfl) (big_in mw_986 rfl) (big_in mw_987 rfl) (big_in mw_988 rfl) rfl rfl (by decide +kernel) ⟨by rw [hR]; exact Nat.le_of_ble_eq_true rfl, by rw [hR]; exact Nat.le_of_ble_eq_true rfl⟩ rfl (Nat.le_of_ble_eq_true rfl) d_Ra_becomeMultiple_41 ⟨by rw [hR]; exact Nat.le_of_ble_eq_true rfl, by rw [hR]; exact Nat.le_of_ble_eq_true rfl⟩ rfl (fun v u H locs hp3 hP hD hS _ => ?_)
    obtain ⟨r, rfl⟩ : ∃ z, z = u := ⟨_, rfl⟩
    obtain ⟨rfl, z0, z1, z2⟩ := hp3
    have hP : va_P D cls0 [(ra, .inr (1, [.int qs, .ref h1, .ref h2])), (h1, .inr (0, [.ref a1, .int (iZ (k4 : Int))])), (a1, .inl (cI, n, .inl gb)), (h2, .inr (0, [.ref a2, .int (iZ (ub : Int))])), (a2, .inl (cI, n, .inl gc)), (h4, .inr (0, [.ref a4, .int (iZ (k4 : Int))])), (a4, .inl (cI, n, .inl f4))] H := hP
    have hD : va_D A [(ra, .inr (1, [.int qs, .ref h1, .ref h2])), (h1, .inr (0, [.ref a1, .int (iZ (k4 : Int))])), (a1, .inl (cI, n, .inl gb)), (h2, .inr (0, [.ref a2, .int (iZ (ub : Int))])), (a2, .inl (cI, n, .inl gc)), (h4, .inr (0, [.ref a4, .int (iZ (k4 : Int))])), (a4, .inl (cI, n, .inl f4))] := hD
    show W p l e R s m args below meth c H locs _ _ Q (F0 m 44 ls [.int (iZ (r : Int)), .int (iZ (-(-(E : Int))))])
    rw [show (-(-(E : Int)) : Int) = (E : Int) by omega]
    refine cs (n := 2) (wr := [(ra, .inr (1, [.int qs, .ref h1, .ref h2])), (h1, .inr (0, [.ref a1, .int (iZ (k4 : Int))])), (a1, .inl (cI, n, .inl gb)), (h2, .inr (0, [.ref a2, .int (iZ (ub : Int))])), (a2, .inl (cI, n, .inl gc)), (h4, .inr (0, [.ref a4, .int (iZ (k4 : Int))])), (a4, .inl (cI, n, .inl f4))]) (w1 := (fun (u : Int) => [])) (As := [.int (iZ (E : Int)), .int (iZ (r : Int))]) (rest := []) K hP hD hK hS hA hl.1 (c_jMath_min l D (E : Int) (r : Int) H.size (by omega) (by omega)) [] [0, 1, 2, 3, 4, 5, 6] [] rfl rfl rfl (by decide) (by decide) (by decide) (big_in mw_545 rfl) (big_in mw_3 rfl) (big_in mw_993 rfl) (big_in mw_544 rfl) rfl rfl (by decide +kernel) ⟨by rw [hR]; exact Nat.le_of_ble_eq_true rfl, by rw [hR]; exact Nat.le_of_ble_eq_true rfl⟩ rfl (Nat.le_of_ble_eq_true rfl) d_Ra_becomeMultiple_44 ⟨by rw [hR]; exact Nat.le_of_ble_eq_true rfl, by rw [hR]; exact Nat.le_of_ble_eq_true rfl⟩ rfl (fun v u H locs hp4 hP hD hS _ => ?_)
    obtain ⟨rm, rfl⟩ : ∃ z, z = u := ⟨_, rfl⟩
    obtain ⟨rfl, gm⟩ := hp4
    have hP : va_P D cls0 [(ra, .inr (1, [.int qs, .ref h1, .ref h2])), (h1, .inr (0, [.ref a1, .int (iZ (k4 : Int))])), (a1, .inl (cI, n, .inl gb)), (h2, .inr (0, [.ref a2, .int (iZ (ub : Int))])), (a2, .inl (cI, n, .inl gc)), (h4, .inr (0, [.ref a4, .int (iZ (k4 : Int))])), (a4, .inl (cI, n, .inl f4))] H := hP
    have hD : va_D A [(ra, .inr (1, [.int qs, .ref h1, .ref h2])), (h1, .inr (0, [.ref a1, .int (iZ (k4 : Int))])), (a1, .inl (cI, n, .inl gb)), (h2, .inr (0, [.ref a2, .int (iZ (ub : Int))])), (a2, .inl (cI, n, .inl gc)), (h4, .inr (0, [.ref a4, .int (iZ (k4 : Int))])), (a4, .inl (cI, n, .inl f4))] := hD
    show W p l e R s m args below meth c H locs _ _ Q (F0 m 47 ls [.int (iZ rm)])
    obtain ⟨M, hM, rfl⟩ : ∃ x : Nat, x = min E r ∧ rm = (x : Int) := ⟨_, rfl, by rw [gm, Nat.min_def]; split <;> split <;> omega⟩
    have hME : M ≤ E := by rw [hM]; exact Nat.min_le_left _ _
    refine lv_istore_n (lv' := [(3, .int (iZ (M : Int))), (0, .ref ra), (1, .ref h4), (2, .int (iZ (-(E : Int))))]) hx hb d_Ra_becomeMultiple_47 rfl hl (by decide) rfl (fun ls hl => ?_)
    refine lv_aload_n hx hb d_Ra_becomeMultiple_48 rfl (lv_at hl 1 rfl) ?_
    refine va_get (D := D) (ci := 1) (v := .ref h1) (C := R_Ra) (T := F_Ra) (N := 3) hx hb hts i_Ra hown hK hP 0 rfl rfl 1 (by decide) (hts _ (big_in mw_192 rfl)) (fun _ h9 => h9) rfl d_Ra_becomeMultiple_49 ?_
    refine lv_iload_n hx hb d_Ra_becomeMultiple_52 rfl (lv_at hl 0 rfl) ?_
    refine cv (n := 1) (wr := [(ra, .inr (1, [.int qs, .ref h1, .ref h2])), (h2, .inr (0, [.ref a2, .int (iZ (ub : Int))])), (a2, .inl (cI, n, .inl gc)), (h4, .inr (0, [.ref a4, .int (iZ (k4 : Int))])), (a4, .inl (cI, n, .inl f4))]) (w1 := (fun (u : Nat × (Nat → Int32)) => [(h1, .inr (0, [.ref a1, .int (iZ (u.1 : Int))])), (a1, .inl (cI, n, .inl u.2))])) (As := [.int (iZ (M : Int))]) (rest := []) K hP hD hK hS hA hl.1 (c_Wh_shiftDown l D h1 a1 k4 n gb cI v4 M H.size (r4.congr pb) (by omega) (by omega) (by omega)) [1, 2] [0, 3, 4, 5, 6] [0] rfl rfl rfl (by decide) (by decide) (by decide) 0 rfl rfl (big_in mw_776 rfl) (big_in mw_6 rfl) (big_in mw_994 rfl) (big_in mw_774 rfl) (big_in mw_775 rfl) rfl rfl (by decide +kernel) ⟨by rw [hR]; exact Nat.le_of_ble_eq_true rfl, by rw [hR]; exact Nat.le_of_ble_eq_true rfl⟩ rfl (Nat.le_of_ble_eq_true rfl) d_Ra_becomeMultiple_53 ⟨by rw [hR]; exact Nat.le_of_ble_eq_true rfl, by rw [hR]; exact Nat.le_of_ble_eq_true rfl⟩ rfl (fun v u H locs hp5 hP hD hS _ => ?_)
    obtain ⟨us, gs⟩ := u
    try dsimp only at hp5
    obtain ⟨rfl, e1, e2⟩ := hp5
    have hP : va_P D cls0 [(ra, .inr (1, [.int qs, .ref h1, .ref h2])), (h2, .inr (0, [.ref a2, .int (iZ (ub : Int))])), (a2, .inl (cI, n, .inl gc)), (h4, .inr (0, [.ref a4, .int (iZ (k4 : Int))])), (a4, .inl (cI, n, .inl f4)), (h1, .inr (0, [.ref a1, .int (iZ (us : Int))])), (a1, .inl (cI, n, .inl gs))] H := hP
    have hD : va_D A [(ra, .inr (1, [.int qs, .ref h1, .ref h2])), (h2, .inr (0, [.ref a2, .int (iZ (ub : Int))])), (a2, .inl (cI, n, .inl gc)), (h4, .inr (0, [.ref a4, .int (iZ (k4 : Int))])), (a4, .inl (cI, n, .inl f4)), (h1, .inr (0, [.ref a1, .int (iZ (us : Int))])), (a1, .inl (cI, n, .inl gs))] := hD
    show W p l e R s m args below meth c H locs _ _ Q (F0 m 56 ls [])
    refine lv_aload_n hx hb d_Ra_becomeMultiple_56 rfl (lv_at hl 1 rfl) ?_
    refine va_get (D := D) (ci := 1) (v := .ref h2) (C := R_Ra) (T := F_Ra) (N := 3) hx hb hts i_Ra hown hK hP 0 rfl rfl 2 (by decide) (hts _ (big_in mw_198 rfl)) (fun _ h9 => h9) rfl d_Ra_becomeMultiple_57 ?_
    refine lv_iload_n hx hb d_Ra_becomeMultiple_60 rfl (lv_at hl 3 rfl) ?_
    refine zz_ineg hx hb d_Ra_becomeMultiple_61 ?_
    refine lv_iload_n hx hb d_Ra_becomeMultiple_62 rfl (lv_at hl 0 rfl) ?_
    refine zz_isub hx hb d_Ra_becomeMultiple_63 ?_
    rw [show (-(-(E : Int)) - (M : Int) : Int) = ((E - M : Nat) : Int) by omega]
    refine cv (n := 1) (wr := [(ra, .inr (1, [.int qs, .ref h1, .ref h2])), (h4, .inr (0, [.ref a4, .int (iZ (k4 : Int))])), (a4, .inl (cI, n, .inl f4)), (h1, .inr (0, [.ref a1, .int (iZ (us : Int))])), (a1, .inl (cI, n, .inl gs))]) (w1 := (fun (u : Nat × (Nat → Int32)) => [(h2, .inr (0, [.ref a2, .int (iZ (u.1 : Int))])), (a2, .inl (cI, n, .inl u.2))])) (As := [.int (iZ ((E - M : Nat) : Int))]) (rest := []) K hP hD hK hS hA hl.1 (c_Wh_shiftUp l D h2 a2 ub n gc cI 1 (E - M) H.size b1 (by omega) (by omega) (by omega) (by omega)) [1, 2] [0, 3, 4, 5, 6] [0] rfl rfl rfl (by decide) (by decide) (by decide) 0 rfl rfl (big_in mw_753 rfl) (big_in mw_6 rfl) (big_in mw_985 rfl) (big_in mw_751 rfl) (big_in mw_752 rfl) rfl rfl (by decide +kernel) ⟨by rw [hR]; exact Nat.le_of_ble_eq_true rfl, by rw [hR]; exact Nat.le_of_ble_eq_true rfl⟩ rfl (Nat.le_of_ble_eq_true rfl) d_Ra_becomeMultiple_64 ⟨by rw [hR]; exact Nat.le_of_ble_eq_true rfl, by rw [hR]; exact Nat.le_of_ble_eq_true rfl⟩ rfl (fun v u H locs hp6 hP hD hS _ => ?_)
    obtain ⟨ut, gt⟩ := u
    try dsimp only at hp6
    obtain ⟨rfl, e3, e4⟩ := hp6
    have hP : va_P D cls0 [(ra, .inr (1, [.int qs, .ref h1, .ref h2])), (h4, .inr (0, [.ref a4, .int (iZ (k4 : Int))])), (a4, .inl (cI, n, .inl f4)), (h1, .inr (0, [.ref a1, .int (iZ (us : Int))])), (a1, .inl (cI, n, .inl gs)), (h2, .inr (0, [.ref a2, .int (iZ (ut : Int))])), (a2, .inl (cI, n, .inl gt))] H := hP
    have hD : va_D A [(ra, .inr (1, [.int qs, .ref h1, .ref h2])), (h4, .inr (0, [.ref a4, .int (iZ (k4 : Int))])), (a4, .inl (cI, n, .inl f4)), (h1, .inr (0, [.ref a1, .int (iZ (us : Int))])), (a1, .inl (cI, n, .inl gs)), (h2, .inr (0, [.ref a2, .int (iZ (ut : Int))])), (a2, .inl (cI, n, .inl gt))] := hD
    show W p l e R s m args below meth c H locs _ _ Q (F0 m 67 ls [])
    have hP9 : va_P D cls0 [(ra, .inr (1, [.int qs, .ref h1, .ref h2])), (h1, .inr (0, [.ref a1, .int (iZ (us : Int))])), (a1, .inl (cI, n, .inl gs)), (h2, .inr (0, [.ref a2, .int (iZ (ut : Int))])), (a2, .inl (cI, n, .inl gt)), (h4, .inr (0, [.ref a4, .int (iZ (k4 : Int))])), (a4, .inl (cI, n, .inl f4))] H := hP.sub [0, 3, 4, 5, 6, 1, 2] rfl
    have hD9 : va_D A [(ra, .inr (1, [.int qs, .ref h1, .ref h2])), (h1, .inr (0, [.ref a1, .int (iZ (us : Int))])), (a1, .inl (cI, n, .inl gs)), (h2, .inr (0, [.ref a2, .int (iZ (ut : Int))])), (a2, .inl (cI, n, .inl gt)), (h4, .inr (0, [.ref a4, .int (iZ (k4 : Int))])), (a4, .inl (cI, n, .inl f4))] := hD.sub [0, 3, 4, 5, 6, 1, 2] (by decide) rfl
    rw [hQ, ← hAe]
    refine r_v K (us, gs, ut, gt) hS d_Ra_becomeMultiple_67 ?_ (fun t ht hv => ?_)
    · try dsimp only
      obtain ⟨d1, d2⟩ := rd_tz (E := E) z1 z2
      exact ⟨rfl, by rw [d1, ← hM]; exact e1, by rw [d2, ← hM]; rw [Nat.one_mul] at e3; exact e3⟩
    · exact ⟨by rw [ht]; exact hP9, va_K.moved hv hK, by rw [← hAe]; exact hD9⟩
