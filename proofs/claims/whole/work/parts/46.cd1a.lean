/-! COMMON DIVISOR: steps foreseen, steps made -/
theorem le_bnd {X Y P : Nat} {a b c d high low : Int} {x y : Nat} (hP : 0 < P) (h : le_I X Y P a b c d high low x y) (hX : X / P < 4611686018427387904) : (-1073741824 ≤ high ∧ high < 4611686019501129728) ∧ (-1073741824 ≤ low ∧ low < 4611686019501129728) := by
  obtain ⟨⟨ex, ey⟩, ⟨eh, el⟩, sg, h0, ⟨ba, bb, bc, bd⟩, ⟨hyx, hx0, hxX⟩, -, -, -⟩ := h
  have dX : ((P * (X / P) + X % P : Nat) : Int) = X := by rw [Nat.div_add_mod]
  have dY : ((P * (Y / P) + Y % P : Nat) : Int) = Y := by rw [Nat.div_add_mod]
  have lX := Nat.mod_lt X hP
  have lY := Nat.mod_lt Y hP
  have hXP : X < P * 4611686018427387904 := by
    have h1 := Nat.div_add_mod X P
    have h2 : P * (X / P + 1) ≤ P * 4611686018427387904 := Nat.mul_le_mul_left _ hX
    rw [Nat.mul_add, Nat.mul_one] at h2
    omega
  rw [Int.natCast_add, Int.natCast_mul] at dX dY
  have qx : (x : Int) = P * high + (a * (X % P : Nat) + b * (Y % P : Nat)) := by
    rw [ex, eh, ← dX, ← dY]; grind
  have qy : (y : Int) = P * low + (c * (X % P : Nat) + d * (Y % P : Nat)) := by
    rw [ey, el, ← dX, ← dY]; grind
  have hPi : (0 : Int) < P := by omega
  have up : ∀ {u v : Int}, 0 ≤ u → 0 ≤ v → v < P → 0 ≤ u * v ∧ u * v ≤ P * u := fun {u v} hu hv hp => ⟨Int.mul_nonneg hu hv, by rw [Int.mul_comm (P : Int)]; exact Int.mul_le_mul_of_nonneg_left (Int.le_of_lt hp) hu⟩
  have dn : ∀ {u v : Int}, u ≤ 0 → 0 ≤ v → v < P → P * u ≤ u * v ∧ u * v ≤ 0 := fun {u v} hu hv hp => by
    have := up (u := -u) (v := v) (by omega) hv hp
    rw [Int.neg_mul, Int.mul_neg] at this
    omega
  have lt : ∀ z : Int, (P : Int) * z < P * 4611686018427387904 → z < 4611686018427387904 := fun z hz => Int.lt_of_mul_lt_mul_left hz (Int.le_of_lt hPi)
  have nn : ∀ z : Int, 0 ≤ (P : Int) * z → 0 ≤ z := fun z hz => Int.nonneg_of_mul_nonneg_right hz hPi
  have hXI : (X : Int) < (P : Int) * 4611686018427387904 := by omega
  rcases sg with ⟨ha, hb, hc, hd⟩ | ⟨ha, hb, hc, hd⟩
  · obtain ⟨p1, p2⟩ := up ha (v := (X % P : Nat)) (by omega) (by omega)
    obtain ⟨p3, p4⟩ := dn hb (v := (Y % P : Nat)) (by omega) (by omega)
    obtain ⟨p5, p6⟩ := dn hc (v := (X % P : Nat)) (by omega) (by omega)
    obtain ⟨p7, p8⟩ := up hd (v := (Y % P : Nat)) (by omega) (by omega)
    have g1 := lt (high + b) (by rw [Int.mul_add]; omega)
    have g2 := lt (low + c) (by rw [Int.mul_add]; omega)
    have g3 := nn (low + d) (by rw [Int.mul_add]; omega)
    omega
  · obtain ⟨p1, p2⟩ := dn ha (v := (X % P : Nat)) (by omega) (by omega)
    obtain ⟨p3, p4⟩ := up hb (v := (Y % P : Nat)) (by omega) (by omega)
    obtain ⟨p5, p6⟩ := up hc (v := (X % P : Nat)) (by omega) (by omega)
    obtain ⟨p7, p8⟩ := dn hd (v := (Y % P : Nat)) (by omega) (by omega)
    have g1 := lt (high + a) (by rw [Int.mul_add]; omega)
    have g2 := lt (low + d) (by rw [Int.mul_add]; omega)
    have g3 := nn (low + c) (by rw [Int.mul_add]; omega)
    omega
theorem mulS {t u : Int} (ht : 0 ≤ t ∧ t ≤ 1073741824) (hu : -1073741824 ≤ u ∧ u ≤ 1073741824) : -1152921504606846976 ≤ t * u ∧ t * u ≤ 1152921504606846976 := by
  rcases Int.le_total 0 u with h | h
  · have h1 : t * u ≤ 1073741824 * 1073741824 := Int.mul_le_mul ht.2 hu.2 h (by decide)
    have h2 := Int.mul_nonneg ht.1 h
    omega
  · have h1 : t * -u ≤ 1073741824 * 1073741824 := Int.mul_le_mul ht.2 (by omega) (by omega) (by decide)
    have h2 : 0 ≤ t * -u := Int.mul_nonneg ht.1 (by omega)
    rw [Int.mul_neg] at h1 h2
    omega
theorem le_sum {a b x y : Int} (sg : (0 ≤ a ∧ b ≤ 0) ∨ (a ≤ 0 ∧ 0 ≤ b)) (ba : -1073741824 ≤ a ∧ a ≤ 1073741824) (bb : -1073741824 ≤ b ∧ b ≤ 1073741824) (hx : 0 ≤ x ∧ x < 4294967296) (hy : 0 ≤ y ∧ y < 4294967296) : -4611686018427387904 ≤ a * x + b * y ∧ a * x + b * y ≤ 4611686018427387904 := by
  have h1 := le_mul ba hx
  have h2 := le_mul bb hy
  have pp : ∀ u v : Int, 0 ≤ u → 0 ≤ v → 0 ≤ u * v := fun u v a b => Int.mul_nonneg a b
  rcases sg with ⟨p, q⟩ | ⟨p, q⟩
  · have e1 := pp a x p hx.1
    have e2 := pp (-b) y (by omega) hy.1
    rw [Int.neg_mul] at e2
    omega
  · have e1 := pp (-a) x (by omega) hx.1
    have e2 := pp b y q hy.1
    rw [Int.neg_mul] at e1
    omega
theorem ms_step {g f w : Nat → Int32} {i : Nat} {a b fi F x y : Int} (hI : (vV g i : Int) + fi * pB i = a * vV f i + b * vV w i) (hx : x = uw (f i)) (hy : y = uw (w i)) (hF : F = fi + (a * x + b * y)) :
    (vV (upd g i (iZ F)) (i + 1) : Int) + F / 4294967296 * pB (i + 1) = a * vV f (i + 1) + b * vV w (i + 1) := by
  rw [vV_updS, vV_s, vV_s, pB_s, uw_iZ]
  have e2 : ((F % 4294967296).toNat : Int) = F % 4294967296 := Int.toNat_of_nonneg (Int.emod_nonneg _ (by decide))
  have hd : F % 4294967296 = F - 4294967296 * (F / 4294967296) := by omega
  have k1 : F * (pB i : Int) = fi * pB i + (a * (x * pB i) + b * (y * pB i)) := by rw [hF, Int.add_mul, Int.add_mul, Int.mul_assoc, Int.mul_assoc]
  have k2 : F % 4294967296 * (pB i : Int) = F * pB i - F / 4294967296 * ((pB i : Int) * 4294967296) := by rw [hd, Int.sub_mul, Int.mul_comm 4294967296 (F / 4294967296), Int.mul_assoc, Int.mul_comm 4294967296 (pB i : Int)]
  simp only [Int.natCast_add, Int.natCast_mul, e2, ← hx, ← hy]
  have k4 : a * ((vV f i : Int) + x * (pB i : Int)) = a * vV f i + a * (x * pB i) := Int.mul_add ..
  have k5 : b * ((vV w i : Int) + y * (pB i : Int)) = b * vV w i + b * (y * pB i) := Int.mul_add ..
  have k6 : ((4294967296 : Nat) : Int) = 4294967296 := rfl
  rw [k4, k5, k6, k2]
  omega
theorem ms_end {g : Nat → Int32} {k x : Nat} {fi : Int} (hI : (vV g k : Int) + fi * pB k = x) (hx : x < pB k) : vV g k = x := by
  have h1 := vV_lt g k
  have hp : (0 : Int) < pB k := by have := pB_pos k; omega
  have h2 : fi = 0 := by
    rcases Int.lt_trichotomy fi 0 with h | h | h
    · have : fi * (pB k : Int) ≤ -1 * pB k := Int.mul_le_mul_of_nonneg_right (by omega) (Int.le_of_lt hp)
      omega
    · exact h
    · have : 1 * (pB k : Int) ≤ fi * pB k := Int.mul_le_mul_of_nonneg_right (by omega) (Int.le_of_lt hp)
      omega
  rw [h2] at hI
  omega
