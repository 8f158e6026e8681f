/-! LONG DIVISION: the guess of a limb. D = (d1 * B + d2) * P + dr, the dividend's window U = ((u0 * B + u1) * B + u2) * P + ur -/
/-- what is known of the window and the divisor -/
def kd_W (D U P d1 d2 dr u0 u1 u2 ur : Nat) : Prop :=
  D = (d1 * 4294967296 + d2) * P + dr ∧ U = ((u0 * 4294967296 + u1) * 4294967296 + u2) * P + ur ∧ dr < P ∧ ur < P ∧ d1 < 4294967296 ∧ d2 < 4294967296 ∧ 2147483648 ≤ d1 ∧ u1 < 4294967296 ∧ u2 < 4294967296 ∧ U < 4294967296 * D
theorem kd_W.pos {D U P d1 d2 dr u0 u1 u2 ur : Nat} (h : kd_W D U P d1 d2 dr u0 u1 u2 ur) : 0 < P ∧ d1 * (4294967296 * P) ≤ D ∧ D < (d1 + 1) * (4294967296 * P) ∧ (u0 * 4294967296 + u1) * (4294967296 * P) ≤ U ∧ U < (u0 * 4294967296 + u1 + 1) * (4294967296 * P) := by
  obtain ⟨hD, hU, h1, h2, h3, h4, h5, h6, h7, h8⟩ := h
  have a1 : (d1 * 4294967296 + d2) * P = d1 * (4294967296 * P) + d2 * P := by rw [Nat.add_mul, Nat.mul_assoc]
  have a2 : ((u0 * 4294967296 + u1) * 4294967296 + u2) * P = (u0 * 4294967296 + u1) * (4294967296 * P) + u2 * P := by rw [Nat.add_mul, Nat.mul_assoc]
  have a3 : d2 * P ≤ 4294967295 * P := Nat.mul_le_mul_right _ (by omega)
  have a4 : u2 * P ≤ 4294967295 * P := Nat.mul_le_mul_right _ (by omega)
  have a5 : (d1 + 1) * (4294967296 * P) = d1 * (4294967296 * P) + 4294967296 * P := by rw [Nat.add_mul, Nat.one_mul]
  have a6 : (u0 * 4294967296 + u1 + 1) * (4294967296 * P) = (u0 * 4294967296 + u1) * (4294967296 * P) + 4294967296 * P := by rw [Nat.add_mul, Nat.one_mul]
  rw [hD, hU, a1, a2, a5, a6]
  generalize d1 * (4294967296 * P) = x
  generalize (u0 * 4294967296 + u1) * (4294967296 * P) = y
  generalize d2 * P = z at *
  generalize u2 * P = w at *
  omega
theorem kd_div {U D q : Nat} (hD : 0 < D) (h : q * D ≤ U) : q ≤ U / D := (Nat.le_div_iff_mul_le hD).mpr h
theorem kd_lt {U D : Nat} (hD : 0 < D) : U < (U / D + 1) * D := by
  have h1 := Nat.div_add_mod U D
  have h2 := Nat.mod_lt U hD
  rw [Nat.add_mul, Nat.one_mul, Nat.mul_comm]; omega
theorem kd_W.Dpos {D U P d1 d2 dr u0 u1 u2 ur : Nat} (h : kd_W D U P d1 d2 dr u0 u1 u2 ur) : 0 < D := by
  obtain ⟨h1, h2, -, -, -⟩ := h.pos
  have h3 : 2147483648 * (4294967296 * P) ≤ d1 * (4294967296 * P) := Nat.mul_le_mul_right _ h.2.2.2.2.2.2.1
  omega
theorem kd_W.top {D U P d1 d2 dr u0 u1 u2 ur : Nat} (h : kd_W D U P d1 d2 dr u0 u1 u2 ur) : u0 ≤ d1 := by
  obtain ⟨h1, -, h2, h3, -⟩ := h.pos
  have h4 := h.2.2.2.2.2.2.2.2.2
  have h5 : u0 * 4294967296 * (4294967296 * P) ≤ (u0 * 4294967296 + u1) * (4294967296 * P) := Nat.mul_le_mul_right _ (by omega)
  have h6 : 4294967296 * D < 4294967296 * ((d1 + 1) * (4294967296 * P)) := Nat.mul_lt_mul_of_pos_left h2 (by decide)
  have e1 : u0 * 4294967296 * (4294967296 * P) = u0 * (4294967296 * (4294967296 * P)) := Nat.mul_assoc ..
  have e2 : 4294967296 * ((d1 + 1) * (4294967296 * P)) = (d1 + 1) * (4294967296 * (4294967296 * P)) := Nat.mul_left_comm ..
  rw [e1] at h5
  rw [e2] at h6
  have h7 : u0 * (4294967296 * (4294967296 * P)) < (d1 + 1) * (4294967296 * (4294967296 * P)) := by omega
  have := Nat.lt_of_mul_lt_mul_right h7
  omega
/-- every quotient times the divisor's first limb stays within the window's first two -/
theorem kd_W.low {D U P d1 d2 dr u0 u1 u2 ur : Nat} (h : kd_W D U P d1 d2 dr u0 u1 u2 ur) : U / D * d1 ≤ u0 * 4294967296 + u1 := by
  obtain ⟨h1, h2, -, -, h3⟩ := h.pos
  have h4 : U / D * D ≤ U := Nat.div_mul_le_self U D
  have h5 : U / D * (d1 * (4294967296 * P)) ≤ U / D * D := Nat.mul_le_mul_left _ h2
  have h6 : U / D * d1 * (4294967296 * P) < (u0 * 4294967296 + u1 + 1) * (4294967296 * P) := by rw [Nat.mul_assoc]; omega
  have := Nat.lt_of_mul_lt_mul_right h6
  omega
theorem kd_W.small {D U P d1 d2 dr u0 u1 u2 ur : Nat} (h : kd_W D U P d1 d2 dr u0 u1 u2 ur) : U / D ≤ 4294967295 := by
  have h1 := h.2.2.2.2.2.2.2.2.2
  have := Nat.div_lt_of_lt_mul (m := U) (n := D) (k := 4294967296) (by rw [Nat.mul_comm]; exact h1)
  omega
/-- a guess whose product stays within the window's first two limbs is at the most 2 too great -/
theorem kd_W.two {D U P d1 d2 dr u0 u1 u2 ur : Nat} (h : kd_W D U P d1 d2 dr u0 u1 u2 ur) {g : Nat} (hg : g * d1 ≤ u0 * 4294967296 + u1) (hg2 : g ≤ 4294967295) : g ≤ U / D + 2 := by
  obtain ⟨h1, -, h2, h3, -⟩ := h.pos
  have hd := h.2.2.2.2.2.2.1
  rcases Nat.lt_or_ge (U / D + 2) g with q | q
  · exfalso
    have a1 : (U / D + 3) * d1 ≤ g * d1 := Nat.mul_le_mul_right _ q
    have a2 : (U / D + 3) * d1 * (4294967296 * P) ≤ (u0 * 4294967296 + u1) * (4294967296 * P) := Nat.mul_le_mul_right _ (by omega)
    have a3 : U < (U / D + 1) * D := kd_lt h.Dpos
    have a4 : (U / D + 1) * D ≤ (U / D + 1) * ((d1 + 1) * (4294967296 * P)) := Nat.mul_le_mul_left _ (Nat.le_of_lt h2)
    rw [← Nat.mul_assoc] at a4
    have a5 : (U / D + 3) * d1 * (4294967296 * P) < (U / D + 1) * (d1 + 1) * (4294967296 * P) := by omega
    have a6 := Nat.lt_of_mul_lt_mul_right a5
    generalize U / D = k at *
    have e1 : (k + 3) * d1 = k * d1 + 3 * d1 := Nat.add_mul ..
    have e2 : (k + 1) * (d1 + 1) = k * d1 + k + d1 + 1 := by rw [Nat.add_mul, Nat.mul_add]; omega
    rw [e1, e2] at a6
    omega
  · exact q
theorem kd_x1 {U x y z ur P : Nat} (hU : U = x + ur) (a1 : y + z ≤ U) (a3 : x + P ≤ y) (h2 : ur < P) : False := by omega
theorem kd_x2 {U D x y z w t ur P : Nat} (hU : U = z + ur) (hlo : t ≤ D) (a3 : x ≤ z) (a5 : w ≤ 4294967295 * P) (a6 : 2147483648 * (4294967296 * P) ≤ t) (a7 : y + D ≤ x + w) (a8 : U < y) (hp : 0 < P) : False := by omega
/-- the test says that the guess is too great -/
theorem kd_W.less {D U P d1 d2 dr u0 u1 u2 ur : Nat} (h : kd_W D U P d1 d2 dr u0 u1 u2 ur) {g : Nat} (hg : g * d1 ≤ u0 * 4294967296 + u1) (ht : (u0 * 4294967296 + u1 - g * d1) * 4294967296 + u2 < g * d2) : U / D < g := by
  obtain ⟨hD, hU, h1, h2, -⟩ := id h
  rcases Nat.lt_or_ge (U / D) g with q | q
  · exact q
  · exfalso
    have a1 : g * D ≤ U := Nat.le_trans (Nat.mul_le_mul_right D q) (Nat.div_mul_le_self U D)
    have a2 : (u0 * 4294967296 + u1) * 4294967296 + u2 + 1 ≤ g * (d1 * 4294967296 + d2) := by
      rw [Nat.mul_add, ← Nat.mul_assoc]
      generalize g * d1 = x at *
      generalize g * d2 = y at *
      omega
    have a3 : ((u0 * 4294967296 + u1) * 4294967296 + u2 + 1) * P ≤ g * (d1 * 4294967296 + d2) * P := Nat.mul_le_mul_right _ a2
    have a4 : g * D = g * (d1 * 4294967296 + d2) * P + g * dr := by rw [hD, Nat.mul_add, Nat.mul_assoc]
    rw [Nat.add_mul, Nat.one_mul] at a3
    rw [a4] at a1
    exact kd_x1 hU a1 a3 h2
/-- where the test no longer says so, the guess is at the most 1 too great -/
theorem kd_W.more {D U P d1 d2 dr u0 u1 u2 ur : Nat} (h : kd_W D U P d1 d2 dr u0 u1 u2 ur) {g : Nat} (hg : g * d1 ≤ u0 * 4294967296 + u1) (hg2 : g ≤ 4294967295) (ht : g * d2 ≤ (u0 * 4294967296 + u1 - g * d1) * 4294967296 + u2) : g ≤ U / D + 1 := by
  obtain ⟨hp, hlo, -, -, -⟩ := h.pos
  obtain ⟨hD, hU, h1, h2, -, -, hd1, -⟩ := id h
  rcases Nat.lt_or_ge (U / D + 1) g with q | q
  · exfalso
    have a2 : g * (d1 * 4294967296 + d2) ≤ (u0 * 4294967296 + u1) * 4294967296 + u2 := by
      rw [Nat.mul_add, ← Nat.mul_assoc]
      generalize g * d1 = x at *
      generalize g * d2 = y at *
      omega
    have a3 : g * (d1 * 4294967296 + d2) * P ≤ ((u0 * 4294967296 + u1) * 4294967296 + u2) * P := Nat.mul_le_mul_right _ a2
    have a4 : g * D = g * (d1 * 4294967296 + d2) * P + g * dr := by rw [hD, Nat.mul_add, Nat.mul_assoc]
    have a5 : g * dr ≤ 4294967295 * P := Nat.mul_le_mul hg2 (Nat.le_of_lt h1)
    have a6 : 2147483648 * (4294967296 * P) ≤ d1 * (4294967296 * P) := Nat.mul_le_mul_right _ hd1
    have a7 : (U / D + 2) * D ≤ g * D := Nat.mul_le_mul_right _ q
    have a8 : U < (U / D + 1) * D := kd_lt h.Dpos
    have e1 : (U / D + 2) * D = (U / D + 1) * D + D := by rw [Nat.add_mul, Nat.add_mul]; omega
    rw [e1, a4] at a7
    exact kd_x2 hU hlo a3 a5 a6 a7 a8 hp
  · exact q
/-- the test can't say so once the rest has grown beyond a limb -/
theorem kd_big {g d2 r u2 : Nat} (hg : g ≤ 4294967295) (hd : d2 < 4294967296) (hr : 4294967296 ≤ r) : g * d2 ≤ r * 4294967296 + u2 := by
  have h1 : g * d2 ≤ 4294967295 * 4294967295 := Nat.mul_le_mul hg (by omega)
  have h2 : 4294967296 * 4294967296 ≤ r * 4294967296 := Nat.mul_le_mul_right _ hr
  omega
/-- one place of the long division: X over D * pB j is the quotient's limb, what is left is below D * pB j -/
theorem kd_step {X D lo U pj : Nat} (hX : X = lo + pj * U) (hlo : lo < pj) (hD : 0 < D) : X = lo + pj * (U % D) + D * pj * (U / D) ∧ lo + pj * (U % D) < D * pj := by
  have h1 := Nat.div_add_mod U D
  have h2 := Nat.mod_lt U hD
  have h3 : pj * U = pj * (D * (U / D)) + pj * (U % D) := by rw [← Nat.mul_add, h1]
  have h4 : pj * (D * (U / D)) = D * pj * (U / D) := by rw [← Nat.mul_assoc, Nat.mul_comm pj D]
  have h5 : pj * (U % D + 1) ≤ pj * D := Nat.mul_le_mul_left _ h2
  rw [Nat.mul_add, Nat.mul_one] at h5
  rw [Nat.mul_comm D pj]
  rw [Nat.mul_comm D pj] at h4
  constructor
  · rw [hX, h3, h4]; omega
  · omega
theorem kd_window {X D lo U pj : Nat} (hX : X = lo + pj * U) (hp : 0 < pj) (h : X < D * (pj * 4294967296)) : U < 4294967296 * D := by
  have h1 : pj * U < pj * (4294967296 * D) := by
    have : D * (pj * 4294967296) = pj * (4294967296 * D) := by rw [Nat.mul_left_comm, Nat.mul_comm D]
    omega
  exact Nat.lt_of_mul_lt_mul_left h1
/-- one limb of 'take a multiple': what is taken, the new limb, the new carry -/
theorem kd_take {q d c u pr lf c' nw : Int} (hq : 0 ≤ q ∧ q ≤ 4294967295) (hd : 0 ≤ d ∧ d ≤ 4294967295) (hc : 0 ≤ c ∧ c ≤ 4294967295) (hu : 0 ≤ u ∧ u ≤ 4294967295) (hpr : pr = q * d + c) (hlf : lf = u - pr % 4294967296) (hc' : c' = pr / 4294967296 + (if lf < 0 then 1 else 0)) (hnw : nw = lf % 4294967296) :
    (0 ≤ pr ∧ pr < 18446744073709551616) ∧ (0 ≤ c' ∧ c' ≤ 4294967295) ∧ (0 ≤ nw ∧ nw ≤ 4294967295) ∧ u - q * d - c = nw - c' * 4294967296 := by
  have h1 : q * d ≤ 4294967295 * 4294967295 := Int.mul_le_mul hq.2 hd.2 hd.1 (by decide)
  have h2 : 0 ≤ q * d := Int.mul_nonneg hq.1 hd.1
  generalize q * d = x at *
  split at hc' <;> omega
