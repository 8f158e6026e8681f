/-! WHOLE: shifts -/
theorem su_q {p : Nat} (hp : p < 32) : 2 ^ p * 2 ^ (32 - p) = 4294967296 := by rw [← Nat.pow_add]; rw [show p + (32 - p) = 32 by omega]
theorem su_limb {y1 y0 p T : Nat} (h1 : y1 < 4294967296) (h0 : y0 < 4294967296) (hp : p < 32) (hT : T = ((y1 * 4294967296 + y0) * 2 ^ p) % 18446744073709551616) : T / 4294967296 = y1 * 2 ^ p % 4294967296 + y0 * 2 ^ p / 4294967296 ∧ T / 4294967296 < 4294967296 := by
  have hq := su_q hp
  have hq0 := Nat.two_pow_pos p
  have he0 := Nat.two_pow_pos (32 - p)
  generalize 2 ^ p = q at *
  generalize 2 ^ (32 - p) = e at *
  have a0 : y0 * q / 4294967296 < q := Nat.div_lt_of_lt_mul (Nat.mul_lt_mul_of_pos_right h0 hq0)
  have c1 : y1 * q % 4294967296 + q ≤ 4294967296 := by
    have e1 : y1 * q % 4294967296 = q * (y1 % e) := by rw [← hq, Nat.mul_comm y1 q, Nat.mul_mod_mul_left]
    have e2 : y1 % e + 1 ≤ e := Nat.mod_lt _ he0
    have e3 : q * (y1 % e + 1) ≤ q * e := Nat.mul_le_mul_left _ e2
    rw [Nat.mul_add, Nat.mul_one, hq] at e3
    rw [e1]; exact e3
  have d1 := Nat.div_add_mod (y1 * q) 4294967296
  have d0 := Nat.div_add_mod (y0 * q) 4294967296
  have m0 := Nat.mod_lt (y0 * q) (show 0 < 4294967296 by decide)
  have ex : (y1 * 4294967296 + y0) * q = 4294967296 * (y1 * q) + y0 * q := by rw [Nat.add_mul, Nat.mul_comm y1, Nat.mul_assoc]
  rw [ex] at hT
  generalize y1 * q = Y1 at *
  generalize y0 * q = Y0 at *
  omega
/-- what the limb below pushes up -/
def su_A (f : Nat → Int32) (k j q : Nat) : Nat := (if j = 0 then 0 else at0 f k (j - 1)) * q / 4294967296
theorem su_step {g f : Nat → Int32} {k w i q v S X : Nat} (hk : i ≤ k) (hX : X = vV (sh g (i + 1 + w)) (k + 1 - (i + 1))) (hI : pB (i + 1) * X + q * vZ f k (i + 1) = q * v + su_A f k (i + 1) q * pB (i + 1)) (hS : S = at0 f k i * q % 4294967296 + su_A f k i q) (hSb : S < 4294967296) :
    pB i * vV (sh (upd g (i + w) (iZ (S : Int))) (i + w)) (k + 1 - i) + q * vZ f k i = q * v + su_A f k i q * pB i := by
  have e1 : k + 1 - i = (k + 1 - (i + 1)) + 1 := by omega
  have e2 : sh (upd g (i + w) (iZ (S : Int))) (i + w) 0 = iZ (S : Int) := by unfold sh; exact pk_us
  have e3 : vV (fun x => sh (upd g (i + w) (iZ (S : Int))) (i + w) (x + 1)) (k + 1 - (i + 1)) = X := by
    rw [hX]
    refine vV_congr (fun x _ => ?_)
    unfold sh
    rw [pk_un (by omega)]
    congr 1; omega
  rw [e1, vV_low, e2, uw_of_nat hSb, e3]
  have hA : su_A f k (i + 1) q = at0 f k i * q / 4294967296 := by unfold su_A; rw [if_neg (by omega), show i + 1 - 1 = i by omega]
  rw [hA, vZ_s, pB_s] at hI
  have d := Nat.div_add_mod (at0 f k i * q) 4294967296
  generalize at0 f k i * q / 4294967296 = A1 at *
  generalize hC : at0 f k i * q % 4294967296 = C1 at *
  have f1 : q * (vZ f k i + at0 f k i * pB i) = q * vZ f k i + (4294967296 * A1 + C1) * pB i := by rw [Nat.mul_add, ← Nat.mul_assoc, Nat.mul_comm q (at0 f k i), ← d]
  rw [f1, Nat.add_mul] at hI
  have f2 : 4294967296 * A1 * pB i = A1 * (pB i * 4294967296) := by rw [Nat.mul_comm 4294967296 A1, Nat.mul_assoc, Nat.mul_comm 4294967296 (pB i)]
  have f3 : pB i * (S + 4294967296 * X) = S * pB i + pB i * 4294967296 * X := by rw [Nat.mul_add, Nat.mul_comm (pB i) S, Nat.mul_assoc]
  rw [f3, hS, Nat.add_mul]
  omega
theorem su_back {g f : Nat → Int32} {k w pp v j T y1 y0 : Nat} (hj : 0 < j) (hjk : j ≤ k + 1) (iv : pB j * vV (sh g (j + w)) (k + 1 - j) + 2 ^ pp * vZ f k j = 2 ^ pp * v + su_A f k j (2 ^ pp) * pB j) (hy1 : y1 = at0 f k (j - 1)) (hy0 : y0 = if j - 1 = 0 then 0 else at0 f k (j - 1 - 1)) (t1 : T / 4294967296 = y1 * 2 ^ pp % 4294967296 + y0 * 2 ^ pp / 4294967296) (t2 : T / 4294967296 < 4294967296) :
    pB (j - 1) * vV (sh (upd g (j - 1 + w) (iZ ((T : Int) / 4294967296))) (j - 1 + w)) (k + 1 - (j - 1)) + 2 ^ pp * vZ f k (j - 1) = 2 ^ pp * v + su_A f k (j - 1) (2 ^ pp) * pB (j - 1) := by
  obtain ⟨i, rfl⟩ : ∃ i, j = i + 1 := ⟨j - 1, by omega⟩
  have e0 : i + 1 - 1 = i := by omega
  rw [e0] at *
  rw [show (T : Int) / 4294967296 = ((T / 4294967296 : Nat) : Int) by omega]
  exact su_step (by omega) rfl iv (by rw [t1, hy1, hy0]; rfl) t2
theorem atZ_pred {f g : Nat → Int32} {k j : Nat} (hj : 0 < j) (hg : ∀ x, x < j → g x = f x) : atZ g k ((j : Int) - 1 - 1) = ((if j - 1 = 0 then 0 else at0 f k (j - 1 - 1) : Nat) : Int) := by
  by_cases h : j - 1 = 0
  · rw [if_pos h, atZ_neg (by omega)]; rfl
  · rw [if_neg h, show (j : Int) - 1 - 1 = ((j - 1 - 1 : Nat) : Int) by omega, atZ_n]
    exact congrArg _ (at0_c (hg _ (by omega)))
theorem atZ_p {f g : Nat → Int32} {k j : Nat} (hj : 0 < j) (hg : ∀ x, x < j → g x = f x) : atZ g k ((j : Int) - 1) = ((at0 f k (j - 1) : Nat) : Int) := by
  rw [show (j : Int) - 1 = ((j - 1 : Nat) : Int) by omega, atZ_n]
  exact congrArg _ (at0_c (hg _ (by omega)))
theorem pred_lt (f : Nat → Int32) (k j : Nat) : (if j - 1 = 0 then 0 else at0 f k (j - 1 - 1)) < 4294967296 := by split; decide; exact at0_lt _ _ _
theorem su_end {g f : Nat → Int32} {k w pp b v : Nat} (rv : vV f k = v) (hb : b = 32 * w + pp) (hI : pB 0 * vV (sh g (0 + w)) (k + 1 - 0) + 2 ^ pp * vZ f k 0 = 2 ^ pp * v + su_A f k 0 (2 ^ pp) * pB 0) : vV (fillF g 0 w (iZ 0)) (k + (w + 1)) = v * 2 ^ b := by
  have e0 : su_A f k 0 (2 ^ pp) = 0 := by unfold su_A; rw [if_pos rfl, Nat.zero_mul]
  rw [e0, vZ_0, pB_0, Nat.one_mul, Nat.zero_add, Nat.sub_zero, Nat.mul_zero, Nat.zero_mul] at hI
  have e1 : k + (w + 1) = w + (k + 1) := by omega
  have z : vV (fillF g 0 w (iZ 0)) w = 0 := (vV_zeros (n := 0) (Nat.zero_le _) (fun i h1 h2 => by rw [fillF_in h1 h2]; rfl))
  have e2 : vV (sh (fillF g 0 w (iZ 0)) w) (k + 1) = vV (sh g w) (k + 1) := vV_congr (fun i _ => by unfold sh; exact fillF_out (Or.inr (by omega)))
  have h3 : vV (sh g w) (k + 1) = 2 ^ pp * v := by omega
  rw [e1, vV_sh, z, e2, h3, pB_two, hb, Nat.pow_add, Nat.zero_add, Nat.mul_comm v, Nat.mul_assoc]
/-- a limb out of a number -/
theorem limb_of {f : Nat → Int32} {k v : Nat} (h : vV f k = v) (m : Nat) : v / pB m % 4294967296 = at0 f k m := by
  by_cases hm : m < k
  · rw [at0_in hm]
    have e : k = m + ((k - m - 1) + 1) := by omega
    rw [← h]
    conv => lhs; rw [e, vV_cat, vV_low]
    rw [Nat.add_mul_div_left _ _ (pB_pos m), Nat.div_eq_of_lt (vV_lt f m), Nat.zero_add, Nat.add_mul_mod_self_left, Nat.mod_eq_of_lt (uw_lt _), Nat.add_zero]
  · rw [at0_out (by omega), ← h, Nat.div_eq_of_lt (Nat.lt_of_lt_of_le (vV_lt f k) (pB_le (by omega)))]
theorem sd_step {g f : Nat → Int32} {k w pp b v i T : Nat} (rv : vV f k = v) (hb : b = 32 * w + pp) (hp : pp < 32) (hI : vV g i = v / 2 ^ b % pB i) (hT : T = at0 f k (i + w + 1) * 4294967296 + at0 f k (i + w)) : vV (upd g i (iZ ((T : Int) / 2 ^ pp))) (i + 1) = v / 2 ^ b % pB (i + 1) := by
  have hq := su_q hp
  have hq0 := Nat.two_pow_pos pp
  have eu : uw (iZ ((T : Int) / 2 ^ pp)) = T / 2 ^ pp % 4294967296 := by
    have : (T : Int) / 2 ^ pp = ((T / 2 ^ pp : Nat) : Int) := by simp
    rw [this, uw_iZ]; omega
  have e1 : v / 2 ^ b / pB i = v / pB (i + w) / 2 ^ pp := by
    rw [Nat.div_div_eq_div_mul, Nat.div_div_eq_div_mul, hb, Nat.pow_add, pB_add, ← pB_two w]
    congr 1
    rw [Nat.mul_comm (pB w), Nat.mul_assoc, Nat.mul_comm, Nat.mul_comm (pB w)]
  have l0 := limb_of rv (i + w)
  have l1 := limb_of rv (i + w + 1)
  have e2 : v / pB (i + w + 1) = v / pB (i + w) / 4294967296 := by rw [pB_s, Nat.div_div_eq_div_mul]
  rw [e2] at l1
  have e3 : v / pB (i + w) / 2 ^ pp % 4294967296 = T / 2 ^ pp % 4294967296 := by
    rw [← Nat.mod_mul_right_div_self, ← Nat.mod_mul_right_div_self T]
    congr 1
    have hY : v / pB (i + w) = T + 18446744073709551616 * (v / pB (i + w) / 4294967296 / 4294967296) := by omega
    rw [hY]
    have h64 : 18446744073709551616 = 2 ^ pp * 4294967296 * 2 ^ (32 - pp) := by
      rw [Nat.mul_right_comm, hq]
    generalize v / pB (i + w) / 4294967296 / 4294967296 = r
    rw [h64, Nat.mul_assoc (2 ^ pp * 4294967296), Nat.add_mul_mod_self_left]
  rw [vV_updS, eu, hI, pB_s, Nat.mod_mul, e1, e3, Nat.mul_comm (pB i)]
theorem sd_end {k w pp b v M : Nat} (hv : v < pB k) (hb : b = 32 * w + pp) (hM : M = k - w) : v / 2 ^ b % pB M = v / 2 ^ b := by
  apply Nat.mod_eq_of_lt
  have h1 : v / 2 ^ b ≤ v / pB w := by
    rw [pB_two]
    exact Nat.div_le_div_left (Nat.pow_le_pow_right (by decide) (by omega)) (Nat.two_pow_pos _)
  refine Nat.lt_of_le_of_lt h1 (Nat.div_lt_of_lt_mul ?_)
  rw [← pB_add]
  exact Nat.lt_of_lt_of_le hv (pB_le (by omega))
