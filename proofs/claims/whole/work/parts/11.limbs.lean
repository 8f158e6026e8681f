/-! ROWS OF LIMBS: vV f n, the number that the first n ints of f are; Rp f n v: they are v, and n is as few as hold it; lm v: how many those are -/
def pB (n : Nat) : Nat := 4294967296 ^ n
theorem pB_0 : pB 0 = 1 := rfl
theorem pB_s (n : Nat) : pB (n + 1) = pB n * 4294967296 := Nat.pow_succ ..
theorem pB_pos (n : Nat) : 0 < pB n := Nat.pow_pos (by decide)
theorem pB_add (a b : Nat) : pB (a + b) = pB a * pB b := Nat.pow_add ..
theorem pB_le {a b : Nat} (h : a ≤ b) : pB a ≤ pB b := Nat.pow_le_pow_right (by decide) h
theorem pB_lt {a b : Nat} (h : a < b) : pB a < pB b := Nat.pow_lt_pow_right (by decide) h
theorem pB_two (n : Nat) : pB n = 2 ^ (32 * n) := by
  show (2 ^ 32) ^ n = _
  rw [← Nat.pow_mul]
def vV (f : Nat → Int32) : Nat → Nat
  | 0 => 0
  | n + 1 => vV f n + uw (f n) * pB n
theorem vV_0 (f : Nat → Int32) : vV f 0 = 0 := rfl
theorem vV_s (f : Nat → Int32) (n : Nat) : vV f (n + 1) = vV f n + uw (f n) * pB n := rfl
theorem vV_lt (f : Nat → Int32) : ∀ n, vV f n < pB n
  | 0 => by rw [vV_0]; exact pB_pos 0
  | n + 1 => by
    have h1 := vV_lt f n
    have h2 : uw (f n) * pB n ≤ 4294967295 * pB n := Nat.mul_le_mul_right _ (by have := uw_lt (f n); omega)
    rw [vV_s, pB_s]
    omega
theorem vV_congr {f g : Nat → Int32} : ∀ {n : Nat}, (∀ i, i < n → f i = g i) → vV f n = vV g n
  | 0, _ => rfl
  | n + 1, h => by rw [vV_s, vV_s, vV_congr (n := n) (fun i hi => h i (by omega)), h n (by omega)]
theorem vV_upd {f : Nat → Int32} {k n : Nat} {x : Int32} (h : n ≤ k) : vV (upd f k x) n = vV f n := vV_congr (fun i hi => pk_un (by omega))
theorem vV_updS {f : Nat → Int32} {n : Nat} {x : Int32} : vV (upd f n x) (n + 1) = vV f n + uw x * pB n := by rw [vV_s, vV_upd (Nat.le_refl n), pk_us]
theorem vV_cat (f : Nat → Int32) (a : Nat) : ∀ b, vV f (a + b) = vV f a + pB a * vV (fun i => f (a + i)) b
  | 0 => by rw [Nat.add_zero, vV_0, Nat.mul_zero, Nat.add_zero]
  | b + 1 => by
    rw [← Nat.add_assoc, vV_s, vV_cat f a b, vV_s, pB_add, Nat.mul_add, Nat.add_assoc]
    congr 2
    rw [Nat.mul_left_comm]
theorem vV_low (f : Nat → Int32) (n : Nat) : vV f (n + 1) = uw (f 0) + 4294967296 * vV (fun i => f (i + 1)) n := by
  have h := vV_cat f 1 n
  rw [Nat.add_comm 1 n] at h
  rw [h, vV_s, vV_0, pB_0]
  have : pB 1 = 4294967296 := by decide
  rw [this, Nat.zero_add, Nat.mul_one]
  congr 2
  exact vV_congr (fun i _ => by rw [Nat.add_comm])
/-- zeros on top add nothing -/
theorem vV_zeros {f : Nat → Int32} {n m : Nat} (h : n ≤ m) (hz : ∀ i, n ≤ i → i < m → f i = 0) : vV f m = vV f n := by
  induction m with
  | zero => have : n = 0 := by omega
            rw [this]
  | succ m ih =>
    rcases Nat.lt_or_ge m n with q | q
    · have : n = m + 1 := by omega
      rw [this]
    · rw [vV_s, ih q (fun i h1 h2 => hz i h1 (by omega)), hz m q (by omega), uw_zero, Nat.zero_mul, Nat.add_zero]
theorem vV_cmp {f g : Nat → Int32} {i n : Nat} (hi : i < n) (he : ∀ j, i < j → j < n → f j = g j) (hl : uw (f i) < uw (g i)) : vV f n < vV g n := by
  induction n with
  | zero => omega
  | succ n ih =>
    rcases Nat.lt_or_ge i n with q | q
    · rw [vV_s, vV_s, he n q (by omega)]
      have := ih q (fun j h1 h2 => he j h1 (by omega))
      omega
    · have : i = n := by omega
      subst this
      have h1 := vV_lt f i
      have h2 : (uw (f i) + 1) * pB i ≤ uw (g i) * pB i := Nat.mul_le_mul_right _ hl
      rw [vV_s, vV_s]
      rw [Nat.add_mul, Nat.one_mul] at h2
      omega
/-- how many limbs -/
def lm (v : Nat) : Nat := if v = 0 then 0 else v.log2 / 32 + 1
theorem lm_0 : lm 0 = 0 := rfl
theorem lm_le {v n : Nat} : lm v ≤ n ↔ v < pB n := by
  unfold lm
  by_cases h : v = 0
  · subst h; simp [pB_pos]
  · rw [if_neg h, pB_two, ← Nat.log2_lt h]
    omega
theorem lm_lt {v n : Nat} : n < lm v ↔ pB n ≤ v := by
  have := @lm_le v n
  constructor
  · intro h; exact Nat.le_of_not_lt (fun q => by have := this.mpr q; omega)
  · intro h; exact Nat.lt_of_not_le (fun q => by have := this.mp q; omega)
theorem lm_self (v : Nat) : v < pB (lm v) := lm_le.mp (Nat.le_refl _)
theorem lm_mono {a b : Nat} (h : a ≤ b) : lm a ≤ lm b := lm_le.mpr (Nat.lt_of_le_of_lt h (lm_self b))
theorem lm_pos {v : Nat} (h : 0 < v) : 0 < lm v := lm_lt.mpr (by rw [pB_0]; exact h)
theorem lm_eq0 {v : Nat} : lm v = 0 ↔ v = 0 := by
  constructor
  · intro h
    have := lm_le.mp (Nat.le_of_eq h)
    rw [pB_0] at this; omega
  · intro h; rw [h]; rfl
theorem lm_mul (a b : Nat) : lm (a * b) ≤ lm a + lm b := lm_le.mpr (by
  rw [pB_add]
  exact Nat.mul_lt_mul'' (lm_self a) (lm_self b))
theorem lm_add (a b : Nat) : lm (a + b) ≤ max (lm a) (lm b) + 1 := lm_le.mpr (by
  have h1 : a < pB (max (lm a) (lm b)) := Nat.lt_of_lt_of_le (lm_self a) (pB_le (Nat.le_max_left _ _))
  have h2 : b < pB (max (lm a) (lm b)) := Nat.lt_of_lt_of_le (lm_self b) (pB_le (Nat.le_max_right _ _))
  rw [pB_s]; omega)
/-- the first n ints of f are v, and the highest of them is not 0 -/
def Rp (f : Nat → Int32) (n v : Nat) : Prop := vV f n = v ∧ (n = 0 ∨ f (n - 1) ≠ 0)
theorem Rp.val {f : Nat → Int32} {n v : Nat} (h : Rp f n v) : vV f n = v := h.1
theorem Rp.lt {f : Nat → Int32} {n v : Nat} (h : Rp f n v) : v < pB n := by rw [← h.1]; exact vV_lt f n
theorem Rp.ge {f : Nat → Int32} {n v : Nat} (h : Rp f (n + 1) v) : pB n ≤ v := by
  have h2 : f n ≠ 0 := by
    rcases h.2 with q | q
    · omega
    · simpa using q
  have h3 : 1 ≤ uw (f n) := Nat.pos_of_ne_zero (fun e => h2 (uw_eq0.mp e))
  have h4 : 1 * pB n ≤ uw (f n) * pB n := Nat.mul_le_mul_right _ h3
  rw [← h.1, vV_s]
  omega
theorem Rp.size {f : Nat → Int32} {n v : Nat} (h : Rp f n v) : n = lm v := by
  have h1 : lm v ≤ n := lm_le.mpr h.lt
  cases n with
  | zero => omega
  | succ n =>
    have := lm_lt.mpr h.ge
    omega
theorem Rp.congr {f g : Nat → Int32} {n v : Nat} (h : Rp f n v) (he : ∀ i, i < n → g i = f i) : Rp g n v := by
  refine ⟨by rw [← h.1]; exact vV_congr he, ?_⟩
  rcases h.2 with q | q
  · exact Or.inl q
  · rcases Nat.eq_zero_or_pos n with z | z
    · exact Or.inl z
    · exact Or.inr (by rw [he (n - 1) (by omega)]; exact q)
theorem Rp.zero {f : Nat → Int32} : Rp f 0 0 := ⟨rfl, Or.inl rfl⟩
theorem Rp.inj {f g : Nat → Int32} {n m v : Nat} (h : Rp f n v) (k : Rp g m v) : n = m := h.size.trans k.size.symm
theorem Rp.pos {f : Nat → Int32} {n v : Nat} (h : Rp f n v) : 0 < v ↔ 0 < n := by
  have := h.size
  constructor
  · intro q; rw [this]; exact lm_pos q
  · intro q; rcases Nat.eq_zero_or_pos v with z | z
    · subst z; rw [lm_0] at this; omega
    · exact z
theorem Rp.sizeLt {f g : Nat → Int32} {n m v w : Nat} (h : Rp f n v) (k : Rp g m w) (hl : n < m) : v < w := by
  cases m with
  | zero => omega
  | succ m => exact Nat.lt_of_lt_of_le h.lt (Nat.le_trans (pB_le (by omega)) k.ge)
/-- what trim leaves: the highest limb that is not 0 -/
theorem Rp.trimmed {f : Nat → Int32} {n m v : Nat} (h : vV f n = v) (hm : m ≤ n) (hz : ∀ i, m ≤ i → i < n → f i = 0) (ht : m = 0 ∨ f (m - 1) ≠ 0) : Rp f m v := ⟨by rw [← h]; exact (vV_zeros hm hz).symm, ht⟩
/-- a limb, or 0 where there is none -/
def at0 (f : Nat → Int32) (n i : Nat) : Nat := if i < n then uw (f i) else 0
theorem at0_lt (f : Nat → Int32) (n i : Nat) : at0 f n i < 4294967296 := by unfold at0; split; exact uw_lt _; decide
theorem at0_in {f : Nat → Int32} {n i : Nat} (h : i < n) : at0 f n i = uw (f i) := if_pos h
theorem at0_out {f : Nat → Int32} {n i : Nat} (h : n ≤ i) : at0 f n i = 0 := if_neg (by omega)
/-- the value of the first k places, zeros where there are none -/
def vZ (f : Nat → Int32) (n : Nat) : Nat → Nat
  | 0 => 0
  | k + 1 => vZ f n k + at0 f n k * pB k
theorem vZ_0 (f : Nat → Int32) (n : Nat) : vZ f n 0 = 0 := rfl
theorem vZ_s (f : Nat → Int32) (n k : Nat) : vZ f n (k + 1) = vZ f n k + at0 f n k * pB k := rfl
theorem vZ_le {f : Nat → Int32} {n : Nat} : ∀ {k : Nat}, k ≤ n → vZ f n k = vV f k
  | 0, _ => rfl
  | k + 1, h => by rw [vZ_s, vV_s, vZ_le (k := k) (by omega), at0_in (by omega)]
theorem vZ_ge {f : Nat → Int32} {n : Nat} : ∀ {k : Nat}, n ≤ k → vZ f n k = vV f n
  | 0, h => by have : n = 0 := by omega
               subst this; rfl
  | k + 1, h => by
    rcases Nat.lt_or_ge k n with q | q
    · have : n = k + 1 := by omega
      subst this; exact vZ_le (Nat.le_refl _)
    · rw [vZ_s, vZ_ge (k := k) q, at0_out q, Nat.zero_mul, Nat.add_zero]
