/-! LEHMER: steps of Euclid foreseen from the highest bits. X, Y: the numbers; P: the power of two below which nothing is seen; x, y: where Euclid is after the steps so far -/
def le_I (X Y P : Nat) (a b c d high low : Int) (x y : Nat) : Prop :=
  ((x : Int) = a * X + b * Y ∧ (y : Int) = c * X + d * Y) ∧ (high = a * (X / P : Nat) + b * (Y / P : Nat) ∧ low = c * (X / P : Nat) + d * (Y / P : Nat)) ∧
  ((0 ≤ a ∧ b ≤ 0 ∧ c ≤ 0 ∧ 0 ≤ d) ∨ (a ≤ 0 ∧ 0 ≤ b ∧ 0 ≤ c ∧ d ≤ 0)) ∧ (0 ≤ high + a ∧ 0 ≤ high + b) ∧
  ((-1073741824 ≤ a ∧ a ≤ 1073741824) ∧ (-1073741824 ≤ b ∧ b ≤ 1073741824) ∧ (-1073741824 ≤ c ∧ c ≤ 1073741824) ∧ (-1073741824 ≤ d ∧ d ≤ 1073741824)) ∧
  (y ≤ x ∧ 0 < x ∧ x ≤ X) ∧ Nat.gcd x y = Nat.gcd X Y ∧ x * y ≤ X * Y ∧ (b = 0 ∨ 2 * (x * y) ≤ X * Y)
theorem le_start {X Y P : Nat} (hXY : Y ≤ X) (hX : 0 < X) : le_I X Y P 1 0 0 1 (X / P : Nat) (Y / P : Nat) X Y := by
  unfold le_I
  generalize X / P = q
  generalize Y / P = r
  refine ⟨⟨by omega, by omega⟩, ⟨by omega, by omega⟩, Or.inl ⟨by omega, by omega, by omega, by omega⟩, ⟨by omega, by omega⟩, ⟨by omega, by omega, by omega, by omega⟩, ⟨hXY, hX, Nat.le_refl _⟩, rfl, Nat.le_refl _, Or.inl rfl⟩
theorem le_quot {x y t : Int} (hy : 0 < y) (h1 : t * y ≤ x) (h2 : x < (t + 1) * y) : x / y = t :=
  Int.le_antisymm (Int.le_of_lt_add_one (Int.ediv_lt_of_lt_mul hy h2)) (Int.le_ediv_of_mul_le hy h1)
theorem le_mod2 {x y : Nat} (hy : 0 < y) (h : y ≤ x) : 2 * (x % y) ≤ x := by
  have h1 := Nat.mod_lt x hy
  have h2 := Nat.div_add_mod x y
  have h3 : 1 ≤ x / y := (Nat.le_div_iff_mul_le hy).mpr (by omega)
  have h4 : y * 1 ≤ y * (x / y) := Nat.mul_le_mul_left _ h3
  omega
/-- the true quotient is the one that both ends give -/
theorem le_true {x y high low a b c d P r s t : Int} (hx : x = P * high + (a * r + b * s)) (hy : y = P * low + (c * r + d * s)) (hP : 0 < P) (hr : 0 ≤ r ∧ r < P) (hs : 0 ≤ s ∧ s < P)
    (sg : (0 ≤ a ∧ b ≤ 0 ∧ c ≤ 0 ∧ 0 ≤ d) ∨ (a ≤ 0 ∧ 0 ≤ b ∧ 0 ≤ c ∧ d ≤ 0)) (h0 : 0 ≤ high + a ∧ 0 ≤ high + b) (hc : 0 < low + c) (hd : 0 < low + d) (ht : t = (high + a) / (low + c)) (ht2 : t = (high + b) / (low + d)) :
    0 ≤ t ∧ 0 < y ∧ t * y ≤ x ∧ x < (t + 1) * y := by
  have t0 : 0 ≤ t := by rw [ht]; exact Int.ediv_nonneg h0.1 (Int.le_of_lt hc)
  have up : ∀ {u v : Int}, 0 ≤ u → 0 ≤ v → v < P → 0 ≤ u * v ∧ u * v ≤ P * u := fun {u v} hu hv hp => ⟨Int.mul_nonneg hu hv, by rw [Int.mul_comm P]; exact Int.mul_le_mul_of_nonneg_left (Int.le_of_lt hp) hu⟩
  have dn : ∀ {u v : Int}, u ≤ 0 → 0 ≤ v → v < P → P * u ≤ u * v ∧ u * v ≤ 0 := fun {u v} hu hv hp => by
    have := up (u := -u) (v := v) (by omega) hv hp
    rw [Int.neg_mul, Int.mul_neg] at this
    omega
  have e1 : high + a < (t + 1) * (low + c) := by
    have := Int.lt_ediv_add_one_mul_self (high + a) hc
    rw [← ht] at this; exact this
  have e2 : t * (low + c) ≤ high + a := by rw [ht]; exact Int.ediv_mul_le _ (by omega)
  have f1 : high + b < (t + 1) * (low + d) := by
    have := Int.lt_ediv_add_one_mul_self (high + b) hd
    rw [← ht2] at this; exact this
  have f2 : t * (low + d) ≤ high + b := by rw [ht2]; exact Int.ediv_mul_le _ (by omega)
  rcases sg with ⟨ha, hb, hcc, hdd⟩ | ⟨ha, hb, hcc, hdd⟩
  · obtain ⟨p1, p2⟩ := up ha hr.1 hr.2
    obtain ⟨p3, p4⟩ := dn hb hs.1 hs.2
    obtain ⟨p5, p6⟩ := dn hcc hr.1 hr.2
    obtain ⟨p7, p8⟩ := up hdd hs.1 hs.2
    have y1 : P * (low + c) ≤ y := by rw [Int.mul_add]; omega
    have y2 : y ≤ P * (low + d) := by rw [Int.mul_add]; omega
    have x1 : P * (high + b) ≤ x := by rw [Int.mul_add]; omega
    have x2 : x ≤ P * (high + a) := by rw [Int.mul_add]; omega
    have y0 : 0 < P * (low + c) := Int.mul_pos hP hc
    refine ⟨t0, by omega, ?_, ?_⟩
    · have g1 : t * y ≤ t * (P * (low + d)) := Int.mul_le_mul_of_nonneg_left y2 t0
      have g2 : P * (t * (low + d)) ≤ P * (high + b) := Int.mul_le_mul_of_nonneg_left f2 (Int.le_of_lt hP)
      rw [Int.mul_left_comm] at g1
      omega
    · have g1 : (t + 1) * (P * (low + c)) ≤ (t + 1) * y := Int.mul_le_mul_of_nonneg_left y1 (by omega)
      have g2 : P * (high + a) < P * ((t + 1) * (low + c)) := Int.mul_lt_mul_of_pos_left e1 hP
      rw [Int.mul_left_comm] at g1
      omega
  · obtain ⟨p1, p2⟩ := dn ha hr.1 hr.2
    obtain ⟨p3, p4⟩ := up hb hs.1 hs.2
    obtain ⟨p5, p6⟩ := up hcc hr.1 hr.2
    obtain ⟨p7, p8⟩ := dn hdd hs.1 hs.2
    have y1 : P * (low + d) ≤ y := by rw [Int.mul_add]; omega
    have y2 : y ≤ P * (low + c) := by rw [Int.mul_add]; omega
    have x1 : P * (high + a) ≤ x := by rw [Int.mul_add]; omega
    have x2 : x ≤ P * (high + b) := by rw [Int.mul_add]; omega
    have y0 : 0 < P * (low + d) := Int.mul_pos hP hd
    refine ⟨t0, by omega, ?_, ?_⟩
    · have g1 : t * y ≤ t * (P * (low + c)) := Int.mul_le_mul_of_nonneg_left y2 t0
      have g2 : P * (t * (low + c)) ≤ P * (high + a) := Int.mul_le_mul_of_nonneg_left e2 (Int.le_of_lt hP)
      rw [Int.mul_left_comm] at g1
      omega
    · have g1 : (t + 1) * (P * (low + d)) ≤ (t + 1) * y := Int.mul_le_mul_of_nonneg_left y1 (by omega)
      have g2 : P * (high + b) < P * ((t + 1) * (low + d)) := Int.mul_lt_mul_of_pos_left f1 hP
      rw [Int.mul_left_comm] at g1
      omega
theorem le_step {X Y P : Nat} {a b c d high low : Int} {x y : Nat} (hP : 0 < P) (h : le_I X Y P a b c d high low x y) (hc : 0 < low + c) (hd : 0 < low + d) {t : Int} (ht : t = (high + a) / (low + c)) (ht2 : t = (high + b) / (low + d))
    (b1 : -1073741824 ≤ a - t * c ∧ a - t * c ≤ 1073741824) (b2 : -1073741824 ≤ b - t * d ∧ b - t * d ≤ 1073741824) : le_I X Y P c d (a - t * c) (b - t * d) low (high - t * low) y (x % y) := by
  obtain ⟨⟨ex, ey⟩, ⟨eh, el⟩, sg, h0, ⟨-, -, bc, bd⟩, ⟨hyx, hx0, hxX⟩, hg, hm, -⟩ := h
  have dX : ((P * (X / P) + X % P : Nat) : Int) = X := by rw [Nat.div_add_mod]
  have dY : ((P * (Y / P) + Y % P : Nat) : Int) = Y := by rw [Nat.div_add_mod]
  rw [Int.natCast_add, Int.natCast_mul] at dX dY
  have lX := Nat.mod_lt X hP
  have lY := Nat.mod_lt Y hP
  have qx : (x : Int) = P * high + (a * (X % P : Nat) + b * (Y % P : Nat)) := by
    rw [ex, eh, ← dX, ← dY]; grind
  have qy : (y : Int) = P * low + (c * (X % P : Nat) + d * (Y % P : Nat)) := by
    rw [ey, el, ← dX, ← dY]; grind
  obtain ⟨t0, y0, k1, k2⟩ := le_true qx qy (by omega) ⟨by omega, by omega⟩ ⟨by omega, by omega⟩ sg h0 hc hd ht ht2
  have hq : (x : Int) / y = t := le_quot y0 k1 k2
  have hr : ((x % y : Nat) : Int) = x - t * y := by
    rw [Int.natCast_emod, Int.emod_def, hq, Int.mul_comm]
  have y0' : 0 < y := by omega
  have hl := Nat.mod_lt x y0'
  have h2 := le_mod2 y0' hyx
  have m2 : 2 * (y * (x % y)) ≤ X * Y := by
    have : y * (2 * (x % y)) ≤ y * x := Nat.mul_le_mul_left _ h2
    rw [Nat.mul_left_comm, Nat.mul_comm y x] at this
    omega
  have tc : ∀ u : Int, 0 ≤ u → 0 ≤ t * u := fun u hu => Int.mul_nonneg t0 hu
  have tn : ∀ u : Int, u ≤ 0 → t * u ≤ 0 := fun u hu => by
    have := tc (-u) (by omega)
    rw [Int.mul_neg] at this; omega
  refine ⟨⟨ey, ?_⟩, ⟨el, ?_⟩, ?_, ⟨by omega, by omega⟩, ⟨bc, bd, b1, b2⟩, ⟨by omega, y0', by omega⟩, ?_, by omega, Or.inr m2⟩
  · rw [hr, ex, ey]; grind
  · rw [eh, el]; grind
  · rcases sg with ⟨ha, hb, hcc, hdd⟩ | ⟨ha, hb, hcc, hdd⟩
    · exact Or.inr ⟨hcc, hdd, by have := tn c hcc; omega, by have := tc d hdd; omega⟩
    · exact Or.inl ⟨hcc, hdd, by have := tc c hcc; omega, by have := tn d hdd; omega⟩
  · rw [← hg, Nat.gcd_comm x y, Nat.gcd_rec y x, Nat.gcd_comm]
/-- a product of a limb by a factor, and a carry -/
theorem le_mul {u v : Int} (hu : -1073741824 ≤ u ∧ u ≤ 1073741824) (hv : 0 ≤ v ∧ v < 4294967296) : -4611686018427387904 ≤ u * v ∧ u * v ≤ 4611686018427387904 := by
  rcases Int.le_total 0 u with h | h
  · have h1 : u * v ≤ 1073741824 * 4294967296 := Int.mul_le_mul hu.2 (by omega) hv.1 (by decide)
    have h2 := Int.mul_nonneg h hv.1
    omega
  · have h1 : -u * v ≤ 1073741824 * 4294967296 := Int.mul_le_mul (by omega) (by omega) hv.1 (by decide)
    have h2 : 0 ≤ -u * v := Int.mul_nonneg (by omega) hv.1
    rw [Int.neg_mul] at h1 h2
    omega
