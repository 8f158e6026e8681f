/-! WHOLE: the long division -/
theorem dv_norm {f2 : Nat → Int32} {k2 v2 sb : Nat} (r : Rp f2 k2 v2) (hk : 0 < k2) (hsb : sb = 32 - bl (uw (f2 (k2 - 1)))) : sb < 32 ∧ 2 ^ (32 * k2 - 1) ≤ v2 * 2 ^ sb ∧ v2 * 2 ^ sb < 2 ^ (32 * k2) := by
  have hb := r.bits hk
  have hv : 0 < v2 := r.pos.mpr hk
  have ht : f2 (k2 - 1) ≠ 0 := by
    rcases r.2 with q | q
    · omega
    · exact q
  have hp : 0 < uw (f2 (k2 - 1)) := Nat.pos_of_ne_zero (fun z => ht (uw_eq0.mp z))
  have h1 := bl_pos hp
  have h2 : bl (uw (f2 (k2 - 1))) ≤ 32 := bl_lt.mpr (uw_lt _)
  have h3 := bl_self v2
  have h4 := bl_ge hv
  refine ⟨by omega, ?_, ?_⟩
  · have e : 32 * k2 - 1 = (bl v2 - 1) + sb := by omega
    rw [e, Nat.pow_add]
    exact Nat.mul_le_mul_right _ h4
  · have e : 32 * k2 = bl v2 + sb := by omega
    rw [e, Nat.pow_add]
    exact Nat.mul_lt_mul_of_pos_right h3 (Nat.two_pow_pos _)
theorem dv_size {g : Nat → Int32} {u k D : Nat} (r : Rp g u D) (hk : 0 < k) (h1 : 2 ^ (32 * k - 1) ≤ D) (h2 : D < 2 ^ (32 * k)) : u = k ∧ 2147483648 ≤ uw (g (k - 1)) := by
  obtain ⟨m, rfl⟩ : ∃ m, k = m + 1 := ⟨k - 1, by omega⟩
  rw [show m + 1 - 1 = m by omega]
  have hu : u = m + 1 := by
    rw [r.size]
    have a1 : lm D ≤ m + 1 := lm_le.mpr (by rw [pB_two]; exact h2)
    have a2 : m < lm D := lm_lt.mpr (by rw [pB_two]; exact Nat.le_trans (Nat.pow_le_pow_right (by decide) (by omega)) h1)
    omega
  subst hu
  refine ⟨rfl, ?_⟩
  have hv := r.1
  rw [vV_s] at hv
  have hl := vV_lt g m
  rw [pB_two] at hl hv
  have e : 32 * (m + 1) - 1 = 32 * m + 31 := by omega
  rw [e, Nat.pow_add, ← hv] at h1
  have h3 : 2 ^ (32 * m) * 2 ^ 31 < 2 ^ (32 * m) * (uw (g m) + 1) := by rw [Nat.mul_add, Nat.mul_one, Nat.mul_comm _ (uw (g m))]; omega
  have := Nat.lt_of_mul_lt_mul_left h3
  omega
theorem dv_take {U D w Pn V1 : Nat} {r : Int} (hD : 0 < D) (hDP : D ≤ Pn) (h1 : U / D ≤ w) (h2 : w ≤ U / D + 1) (hr : r = 0 ∨ r = 1) (hV : V1 < Pn) (he : (V1 : Int) = U - w * D + r * Pn) :
    (r = 0 → w = U / D ∧ V1 = U % D) ∧ (r = 1 → w = U / D + 1 ∧ (V1 + D) % Pn = U % D) := by
  have d := Nat.div_add_mod U D
  have m := Nat.mod_lt U hD
  have e1 : (D : Int) * (U / D : Nat) + (U % D : Nat) = U := by rw [← Int.natCast_mul, ← Int.natCast_add, d]
  rcases (show w = U / D ∨ w = U / D + 1 by omega) with q | q
  · have e2 : (w : Int) * D = D * (U / D : Nat) := by rw [q, Int.mul_comm]
    rw [e2] at he
    generalize (D : Int) * (U / D : Nat) = z at *
    rcases hr with h | h
    · subst h
      refine ⟨fun _ => ⟨q, by omega⟩, fun h => by omega⟩
    · subst h; omega
  · have e2 : (w : Int) * D = D * (U / D : Nat) + D := by rw [q, Int.natCast_add, Int.add_mul, Int.mul_comm]; simp
    rw [e2] at he
    generalize (D : Int) * (U / D : Nat) = z at *
    rcases hr with h | h
    · subst h; omega
    · subst h
      refine ⟨fun h => by omega, fun _ => ⟨q, ?_⟩⟩
      have : V1 + D = U % D + Pn := by omega
      rw [this, Nat.add_mod_right, Nat.mod_eq_of_lt (by omega)]
theorem dv_step {g g2 qf : Nat → Int32} {i u2 D VA cnt U : Nat} (hD : 0 < D) (hDP : D < pB u2) (hi : i < cnt) (hU : U = vV (sh g i) (u2 + 1)) (hX : vV g (i + 1 + u2) < D * pB (i + 1)) (hA : VA = vV g (i + 1 + u2) + D * pB (i + 1) * vV (sh qf (i + 1)) (cnt - (i + 1))) (hlo : ∀ x, x < i → g2 x = g x) (hw : vV (sh g2 i) (u2 + 1) = U % D) :
    vV g2 (i + u2) < D * pB i ∧ VA = vV g2 (i + u2) + D * pB i * vV (sh (upd qf i (iZ ((U / D : Nat) : Int))) i) (cnt - i) := by
  have hUB : U < 4294967296 * D := by
    refine kd_window (X := vV g (i + 1 + u2)) (lo := vV g i) (pj := pB i) ?_ (pB_pos i) (by rw [← pB_s]; exact hX)
    rw [show i + 1 + u2 = i + (u2 + 1) by omega, vV_sh, hU]
  have hq : U / D < 4294967296 := Nat.div_lt_of_lt_mul (by rw [Nat.mul_comm]; exact hUB)
  have hm := Nat.mod_lt U hD
  have hw2 : vV (sh g2 i) u2 = U % D := by
    have h1 := hw
    rw [vV_s] at h1
    have h2 : uw (sh g2 i u2) = 0 := by
      rcases Nat.eq_zero_or_pos (uw (sh g2 i u2)) with z | z
      · exact z
      · have : 1 * pB u2 ≤ uw (sh g2 i u2) * pB u2 := Nat.mul_le_mul_right _ z
        omega
    rw [h2] at h1
    omega
  have eX : vV g (i + 1 + u2) = vV g i + pB i * U := by rw [show i + 1 + u2 = i + (u2 + 1) by omega, vV_sh, hU]
  have eX2 : vV g2 (i + u2) = vV g i + pB i * (U % D) := by rw [vV_sh, hw2, vV_congr hlo]
  obtain ⟨k1, k2⟩ := kd_step eX (vV_lt g i) hD
  rw [eX2]
  refine ⟨k2, ?_⟩
  have e1 : cnt - i = (cnt - (i + 1)) + 1 := by omega
  have e2 : sh (upd qf i (iZ ((U / D : Nat) : Int))) i 0 = iZ ((U / D : Nat) : Int) := by unfold sh; exact pk_us
  have e3 : vV (fun x => sh (upd qf i (iZ ((U / D : Nat) : Int))) i (x + 1)) (cnt - (i + 1)) = vV (sh qf (i + 1)) (cnt - (i + 1)) := vV_congr (fun x _ => by
    unfold sh
    rw [pk_un (by omega)]
    congr 1; omega)
  rw [e1, vV_low, e2, uw_of_nat hq, e3, hA, k1, pB_s]
  generalize vV (sh qf (i + 1)) (cnt - (i + 1)) = Z
  have a1 : D * (pB i * 4294967296) * Z = D * pB i * (4294967296 * Z) := by rw [← Nat.mul_assoc D, Nat.mul_assoc (D * pB i)]
  rw [a1, Nat.mul_add]
  omega
theorem dv_init {g : Nat → Int32} {u1 u2 VA D : Nat} (r1 : Rp g u1 VA) (hle : u2 ≤ u1) (h2 : 0 < u2) (hD : pB (u2 - 1) ≤ D) : vV (upd g u1 (iZ 0)) (u1 - u2 + 1 + u2) = VA ∧ VA < D * pB (u1 - u2 + 1) := by
  have e : u1 - u2 + 1 + u2 = u1 + 1 := by omega
  have hz : uw (iZ 0) = 0 := by decide
  refine ⟨by rw [e, vV_updS, hz, r1.1, Nat.zero_mul, Nat.add_zero], ?_⟩
  refine Nat.lt_of_lt_of_le r1.lt ?_
  have : pB u1 = pB (u2 - 1) * pB (u1 - u2 + 1) := by rw [← pB_add]; congr 1; omega
  rw [this]
  exact Nat.mul_le_mul_right _ hD
theorem dv_fin {g qf : Nat → Int32} {u2 cnt VA D : Nat} (hX : vV g (0 + u2) < D * pB 0) (hA : VA = vV g (0 + u2) + D * pB 0 * vV (sh qf 0) (cnt - 0)) : vV g u2 = VA % D ∧ vV qf cnt = VA / D := by
  have e0 : sh qf 0 = qf := by funext x; unfold sh; rw [Nat.zero_add]
  rw [e0, pB_0, Nat.mul_one, Nat.zero_add, Nat.sub_zero] at hA
  rw [pB_0, Nat.mul_one, Nat.zero_add] at hX
  have hD : 0 < D := by omega
  refine ⟨by rw [hA, Nat.add_mul_mod_self_left, Nat.mod_eq_of_lt hX], by rw [hA, Nat.add_mul_div_left _ _ hD, Nat.div_eq_of_lt hX, Nat.zero_add]⟩
