/-! TYPED: the number of the text -/
def dva (t : Nat → Nat) (acc a : Nat) : Nat → Nat
  | 0 => acc
  | k + 1 => dva t acc a k * 10 + (t (a + k) - 48)
theorem dva_s {t : Nat → Nat} {acc a i : Nat} (h : a ≤ i) : dva t acc a (i + 1 - a) = dva t acc a (i - a) * 10 + (t i - 48) := by
  rw [show i + 1 - a = (i - a) + 1 by omega]
  show dva t acc a (i - a) * 10 + (t (a + (i - a)) - 48) = _
  rw [show a + (i - a) = i by omega]
theorem dva_z {t : Nat → Nat} {acc a i : Nat} (h : i ≤ a) : dva t acc a (i - a) = acc := by rw [show i - a = 0 by omega]; rfl
theorem dva_lt {t : Nat → Nat} {acc a : Nat} : ∀ {k : Nat}, digs t a (a + k) → dva t acc a k < (acc + 1) * 10 ^ k
  | 0, _ => by show acc < (acc + 1) * 1; omega
  | k + 1, h => by
    have ih := dva_lt (t := t) (acc := acc) (a := a) (k := k) (fun j h1 h2 => h j h1 (by omega))
    have h1 := h (a + k) (by omega) (by omega)
    have h2 := h1.2
    show dva t acc a k * 10 + (t (a + k) - 48) < _
    rw [Nat.pow_succ, ← Nat.mul_assoc]
    omega
theorem dva_pos {t : Nat → Nat} {a : Nat} : ∀ {k : Nat}, digs t a (a + k) → ¬ zrs t a (a + k) → 0 < dva t 0 a k
  | 0, _, h => absurd (fun j h1 h2 => by omega) h
  | k + 1, hd, h => by
    show 0 < dva t 0 a k * 10 + (t (a + k) - 48)
    by_cases z : t (a + k) = 48
    · have := dva_pos (t := t) (a := a) (k := k) (fun j h1 h2 => hd j h1 (by omega)) (fun q => h (fun j h1 h2 => by
        rcases Nat.lt_or_ge j (a + k) with y | y
        · exact q j h1 y
        · rw [show j = a + k by omega]; exact z))
      omega
    · have h1 := (hd (a + k) (by omega) (by omega)).1
      omega
/-- the text is the number A / B, the figures before the point or the stroke end at 'to' -/
def NUM (t : Nat → Nat) (n to A B : Nat) : Prop := Bh t n (frm t n) to ∧ frm t n < to ∧
  ((to = n ∧ A = dva t 0 (frm t n) (n - frm t n) ∧ B = 1) ∨ (to < n ∧ t to = 46 ∧ to + 1 < n ∧ digs t (to + 1) n ∧ A = dva t (dva t 0 (frm t n) (to - frm t n)) (to + 1) (n - (to + 1)) ∧ B = 10 ^ (n - (to + 1))) ∨
   (to < n ∧ t to = 47 ∧ to + 1 < n ∧ digs t (to + 1) n ∧ ¬ zrs t (to + 1) n ∧ A = dva t 0 (frm t n) (to - frm t n) ∧ B = dva t 0 (to + 1) (n - (to + 1))))
theorem NUM.of {t : Nat → Nat} {n : Nat} (h : WR t n (-1)) : ∃ to A B, NUM t n to A B := by
  obtain ⟨to, hb, h⟩ := h
  rcases h with h | h | h | ⟨h1, h2, h3, en, he, h⟩
  · omega
  · exact ⟨to, _, _, hb, h.1, Or.inl ⟨h.2.1, rfl, rfl⟩⟩
  · omega
  · rcases h with h | ⟨h4, h5, h⟩
    · omega
    · rcases h with h | ⟨h6, -⟩
      · omega
      · subst h5
        by_cases q : t to = 47
        · exact ⟨to, _, _, hb, h1, Or.inr (Or.inr ⟨h2, q, h4, he.2.2.1, fun z => h6 ⟨q, z⟩, rfl, rfl⟩)⟩
        · exact ⟨to, _, _, hb, h1, Or.inr (Or.inl ⟨h2, by omega, h4, he.2.2.1, rfl, rfl⟩)⟩
theorem NUM.uniq {t : Nat → Nat} {n to A B to2 A2 B2 : Nat} (h : NUM t n to A B) (k : NUM t n to2 A2 B2) : to = to2 ∧ A = A2 ∧ B = B2 := by
  obtain ⟨h1, h2, h3⟩ := h
  obtain ⟨k1, k2, k3⟩ := k
  have := h1.uniq k1
  subst this
  refine ⟨rfl, ?_⟩
  rcases h3 with h | h | h <;> rcases k3 with k | k | k <;> first | (exfalso; omega) | skip
  · exact ⟨h.2.1.trans k.2.1.symm, h.2.2.trans k.2.2.symm⟩
  · exact ⟨h.2.2.2.2.1.trans k.2.2.2.2.1.symm, h.2.2.2.2.2.trans k.2.2.2.2.2.symm⟩
  · exact ⟨h.2.2.2.2.2.1.trans k.2.2.2.2.2.1.symm, h.2.2.2.2.2.2.trans k.2.2.2.2.2.2.symm⟩
theorem NUM.pos {t : Nat → Nat} {n to A B : Nat} (h : NUM t n to A B) : 0 < B := by
  rcases h.2.2 with h | h | h
  · omega
  · rw [h.2.2.2.2.2]; exact Nat.pow_pos (by decide)
  · rw [h.2.2.2.2.2.2]
    have e : to + 1 + (n - (to + 1)) = n := by omega
    exact dva_pos (by rw [e]; exact h.2.2.2.1) (by rw [e]; exact h.2.2.2.2.1)
theorem NUM.ch {t : Nat → Nat} {n to A B i : Nat} (h : NUM t n to A B) (hi : i < n) : (i < frm t n ∧ i = 0 ∧ t i = 45) ∨ (frm t n ≤ i ∧ i < to ∧ 48 ≤ t i ∧ t i ≤ 57) ∨ (i = to ∧ (t i = 46 ∨ t i = 47)) ∨ (to < i ∧ 48 ≤ t i ∧ t i ≤ 57) := by
  obtain ⟨h1, h2, h3⟩ := h
  rcases Nat.lt_or_ge i (frm t n) with q | q
  · left
    have h0 : i = 0 := by have := frm_r t n; omega
    refine ⟨q, h0, ?_⟩
    subst h0
    unfold frm at q
    by_cases z : 0 < n ∧ t 0 = 45
    · exact z.2
    · rw [if_neg z] at q; omega
  · rcases Nat.lt_trichotomy i to with y | y | y
    · exact Or.inr (Or.inl ⟨q, y, h1.2.2.1 i q y⟩)
    · subst y
      refine Or.inr (Or.inr (Or.inl ⟨rfl, ?_⟩))
      rcases h3 with z | z | z
      · omega
      · exact Or.inl z.2.1
      · exact Or.inr z.2.1
    · refine Or.inr (Or.inr (Or.inr ⟨y, ?_⟩))
      rcases h3 with z | z | z
      · omega
      · exact z.2.2.2.1 i y hi
      · exact z.2.2.2.1 i y hi
/-- the numbers as they stand before character i -/
def NI (t : Nat → Nat) (n to i : Nat) (po : Int) (VA VB : Nat) : Prop :=
  (po = 0 ∧ i ≤ to ∧ VA = dva t 0 (frm t n) (i - frm t n) ∧ VB = 1) ∨ (po = 1 ∧ to < i ∧ t to = 46 ∧ VA = dva t (dva t 0 (frm t n) (to - frm t n)) (to + 1) (i - (to + 1)) ∧ VB = 10 ^ (i - (to + 1)))
def NJ (t : Nat → Nat) (n to i : Nat) (VA VB : Nat) : Prop := to < i ∧ t to = 47 ∧ VA = dva t 0 (frm t n) (to - frm t n) ∧ VB = dva t 0 (to + 1) (i - (to + 1))
theorem p10_400 : 10 ^ 400 < pB 42 := by decide +kernel
theorem lm_400 {v : Nat} (h : v ≤ 10 ^ 400) : lm v ≤ 42 := lm_le.mpr (Nat.lt_of_le_of_lt h p10_400)
theorem dva_b {t : Nat → Nat} {n a i acc d : Nat} (hd : digs t a i) (hai : a ≤ i) (hacc : acc + 1 ≤ 10 ^ d) (hn : d + (i - a) ≤ 400) : dva t acc a (i - a) ≤ 10 ^ 400 := by
  have h := dva_lt (t := t) (acc := acc) (a := a) (k := i - a) (by rw [show a + (i - a) = i by omega]; exact hd)
  refine Nat.le_trans (Nat.le_of_lt h) (Nat.le_trans (Nat.mul_le_mul_right _ hacc) ?_)
  rw [← Nat.pow_add]
  exact Nat.pow_le_pow_right (by decide) hn
theorem NUM.bd {t : Nat → Nat} {n to A B : Nat} (h : NUM t n to A B) (hn : n ≤ 400) : A ≤ 10 ^ 400 ∧ B ≤ 10 ^ 400 := by
  obtain ⟨h1, h2, h3⟩ := h
  have d1 := h1.2.2.1
  have d2 := h1.2.1
  rcases h3 with z | z | z
  · refine ⟨?_, by rw [z.2.2]; exact Nat.pow_pos (by decide)⟩
    rw [z.2.1]
    rw [z.1] at d1 h2
    exact dva_b (n := n) (d := 0) d1 (by omega) (by decide) (by omega)
  · refine ⟨?_, by rw [z.2.2.2.2.2]; exact Nat.pow_le_pow_right (by decide) (by omega)⟩
    rw [z.2.2.2.2.1]
    exact dva_b (n := n) (d := to - frm t n) z.2.2.2.1 (by omega) (by have := dva_lt (t := t) (acc := 0) (a := frm t n) (k := to - frm t n) (by rw [show frm t n + (to - frm t n) = to by omega]; exact d1); omega) (by omega)
  · rw [z.2.2.2.2.2.1, z.2.2.2.2.2.2]
    exact ⟨dva_b (n := n) (d := 0) d1 (by omega) (by decide) (by omega), dva_b (n := n) (d := 0) z.2.2.2.1 (by omega) (by decide) (by omega)⟩
theorem NI.bd {t : Nat → Nat} {n to A B i VA VB : Nat} {po : Int} (h : NUM t n to A B) (hn : n ≤ 400) (hi : i ≤ n) (k : NI t n to i po VA VB) : lm VA ≤ 42 ∧ lm VB ≤ 42 := by
  obtain ⟨h1, h2, h3⟩ := h
  have d1 := h1.2.2.1
  have d2 := h1.2.1
  have f2 := frm_r t n
  rcases k with z | z
  · refine ⟨lm_400 ?_, by rw [z.2.2.2]; decide⟩
    rw [z.2.2.1]
    rcases Nat.le_total (frm t n) i with q | q
    · exact dva_b (n := n) (d := 0) (fun j j1 j2 => d1 j j1 (by omega)) q (by decide) (by omega)
    · rw [dva_z q]; exact Nat.zero_le _
  · refine ⟨lm_400 ?_, lm_400 (by rw [z.2.2.2.2]; exact Nat.pow_le_pow_right (by decide) (by omega))⟩
    rw [z.2.2.2.1]
    have dd : digs t (to + 1) n := by
      rcases h3 with y | y | y
      · omega
      · exact y.2.2.2.1
      · exact y.2.2.2.1
    exact dva_b (n := n) (d := to - frm t n) (fun j j1 j2 => dd j j1 (by omega)) (by omega) (by have := dva_lt (t := t) (acc := 0) (a := frm t n) (k := to - frm t n) (by rw [show frm t n + (to - frm t n) = to by omega]; exact d1); omega) (by omega)
theorem NJ.bd {t : Nat → Nat} {n to A B i VA VB : Nat} (h : NUM t n to A B) (hn : n ≤ 400) (hi : i ≤ n) (k : NJ t n to i VA VB) : lm VA ≤ 42 ∧ lm VB ≤ 42 := by
  obtain ⟨h1, h2, h3⟩ := h
  have d1 := h1.2.2.1
  have d2 := h1.2.1
  obtain ⟨k1, k2, k3, k4⟩ := k
  have dd : digs t (to + 1) n := by
    rcases h3 with y | y | y
    · omega
    · exact y.2.2.2.1
    · exact y.2.2.2.1
  refine ⟨lm_400 ?_, lm_400 ?_⟩
  · rw [k3]; exact dva_b (n := n) (d := 0) d1 (by omega) (by decide) (by omega)
  · rw [k4]; exact dva_b (n := n) (d := 0) (fun j j1 j2 => dd j j1 (by omega)) (by omega) (by decide) (by omega)
theorem NI.fig {t : Nat → Nat} {n to A B i VA VB : Nat} {po : Int} (h : NUM t n to A B) (hd : 48 ≤ t i ∧ t i ≤ 57) (k : NI t n to i po VA VB) (hi : i < n) : (po = 0 → NI t n to (i + 1) po (VA * 10 + (t i - 48)) (VB * 1 + 0)) ∧ (po ≠ 0 → NI t n to (i + 1) po (VA * 10 + (t i - 48)) (VB * 10 + 0)) := by
  have hc := h.ch hi
  rcases k with z | z
  · refine ⟨fun _ => Or.inl ⟨z.1, by omega, ?_, by omega⟩, fun q => absurd z.1 q⟩
    rw [dva_s (by omega), z.2.2.1]
  · refine ⟨fun q => by omega, fun _ => Or.inr ⟨z.1, by omega, z.2.2.1, ?_, ?_⟩⟩
    · rw [dva_s (by omega), z.2.2.2.1]
    · rw [z.2.2.2.2, show i + 1 - (to + 1) = (i - (to + 1)) + 1 by omega, Nat.pow_succ]; rfl
theorem NI.minus {t : Nat → Nat} {n to A B i VA VB : Nat} {po : Int} (h : NUM t n to A B) (hm : t i = 45) (k : NI t n to i po VA VB) (hi : i < n) : NI t n to (i + 1) po VA VB := by
  have hc := h.ch hi
  have f2 := frm_r t n
  have h2 := h.2.1
  rcases k with z | z
  · refine Or.inl ⟨z.1, by omega, ?_, z.2.2.2⟩
    rw [dva_z (by omega), z.2.2.1, dva_z (by omega)]
  · omega
theorem NI.point {t : Nat → Nat} {n to A B i VA VB : Nat} {po : Int} (h : NUM t n to A B) (hm : t i = 46) (k : NI t n to i po VA VB) (hi : i < n) : NI t n to (i + 1) 1 VA VB := by
  have hc := h.ch hi
  rcases k with z | z
  · have e : i = to := by omega
    subst e
    exact Or.inr ⟨rfl, by omega, hm, by rw [z.2.2.1, dva_z (Nat.le_refl _)], by rw [z.2.2.2, Nat.sub_self]⟩
  · omega
theorem NI.stroke {t : Nat → Nat} {n to A B i VA VB : Nat} {po : Int} (h : NUM t n to A B) (hm : t i = 47) (k : NI t n to i po VA VB) (hi : i < n) : po = 0 ∧ NJ t n to (i + 1) VA 0 := by
  have hc := h.ch hi
  rcases k with z | z
  · have e : i = to := by omega
    subst e
    exact ⟨z.1, by omega, hm, z.2.2.1, (dva_z (Nat.le_refl _)).symm⟩
  · omega
theorem NJ.fig {t : Nat → Nat} {n to i VA VB : Nat} (k : NJ t n to i VA VB) : NJ t n to (i + 1) VA ((VB * 10 + (t i - 48)) * 1 + 0) := by
  obtain ⟨k1, k2, k3, k4⟩ := k
  exact ⟨by omega, k2, k3, by rw [dva_s (by omega), k4]; omega⟩
theorem NI.fin {t : Nat → Nat} {n to A B VA VB : Nat} {po : Int} (h : NUM t n to A B) (k : NI t n to n po VA VB) : VA = A ∧ VB = B := by
  obtain ⟨h1, h2, h3⟩ := h
  rcases k with z | z <;> rcases h3 with y | y | y <;> first | (exfalso; omega) | skip
  · exact ⟨by rw [z.2.2.1, y.2.1], by rw [z.2.2.2, y.2.2]⟩
  · exact ⟨by rw [z.2.2.2.1, y.2.2.2.2.1], by rw [z.2.2.2.2, y.2.2.2.2.2]⟩
theorem NJ.fin {t : Nat → Nat} {n to A B VA VB : Nat} (h : NUM t n to A B) (k : NJ t n to n VA VB) : VA = A ∧ VB = B := by
  obtain ⟨h1, h2, h3⟩ := h
  obtain ⟨k1, k2, k3, k4⟩ := k
  rcases h3 with y | y | y <;> first | (exfalso; omega) | skip
  exact ⟨by rw [k3, y.2.2.2.2.2.1], by rw [k4, y.2.2.2.2.2.2]⟩
set_option maxHeartbeats 4000000 in
set_option maxRecDepth 100000 in
/-- numberInto(number) -/
theorem c_Ty_numberInto (l : Launch) (D : va_G) (hy : Nat) (ay : Nat) (fy : Nat → Int32) (ql : Int32) (cC : ClassId) (qc : Int32) (ra : Nat) (qs : Int32) (h1 : Nat) (a1 : Nat) (q1 : Int32) (f1 : Nat → Int32) (h2 : Nat) (a2 : Nat) (q2 : Int32) (f2 : Nat → Int32) (n : Nat) (cI : ClassId) (tx : Nat → Nat) (jd : Nat) (to : Nat) (A_ : Nat) (B_ : Nat) (sz : Nat) (hjd : jd ≤ 400) (htx : ∀ j, j < jd → fy j = iZ (tx j : Int) ∧ tx j < 65536) (hU : NUM tx jd to A_ B_) (hn44 : 44 ≤ n) (hn : n ≤ 2240) : Met l y_Ty_numberInto (wsB y_Ty_numberInto b_Ty_numberInto 6 none) ({ frames := 3, cells := 0, slots := 0, locals := 62 }) (va_Pc [.ref hy, .ref ra] (wPre D [(cC, .char), (cI, .int)] [(hy, .inr (5, [.ref ay, .int qc, .int (iZ (jd : Int)), .int ql])), (ay, .inl (cC, 400, .inl fy)), (ra, .inr (1, [.int qs, .ref h1, .ref h2])), (h1, .inr (0, [.ref a1, .int q1])), (a1, .inl (cI, n, .inl f1)), (h2, .inr (0, [.ref a2, .int q2])), (a2, .inl (cI, n, .inl f2))] sz)) (va_QV (fun (v_9 : Option Value) (u_9 : Int × Nat × (Nat → Int32) × Nat × (Nat → Int32)) => v_9 = none ∧ (Rp u_9.2.2.1 u_9.2.1 A_) ∧ (Rp u_9.2.2.2.2 u_9.2.2.2.1 B_) ∧ (u_9.1 = if A_ = 0 then 0 else if frm tx jd = 1 then -1 else 1)) (fun u_9 => wPost D [(cC, .char), (cI, .int)] [(hy, .inr (5, [.ref ay, .int qc, .int (iZ (jd : Int)), .int ql])), (ay, .inl (cC, 400, .inl fy)), (ra, .inr (1, [.int qs, .ref h1, .ref h2])), (h1, .inr (0, [.ref a1, .int q1])), (a1, .inl (cI, n, .inl f1)), (h2, .inr (0, [.ref a2, .int q2])), (a2, .inl (cI, n, .inl f2))] [(hy, .inr (5, [.ref ay, .int qc, .int (iZ (jd : Int)), .int ql])), (ay, .inl (cC, 400, .inl fy)), (ra, .inr (1, [.int (iZ u_9.1), .ref h1, .ref h2])), (h1, .inr (0, [.ref a1, .int (iZ (u_9.2.1 : Int))])), (a1, .inl (cI, n, .inl u_9.2.2.1)), (h2, .inr (0, [.ref a2, .int (iZ (u_9.2.2.2.1 : Int))])), (a2, .inl (cI, n, .inl u_9.2.2.2.2))] sz) (va_A [(hy, .inr (5, [.ref ay, .int qc, .int (iZ (jd : Int)), .int ql])), (ay, .inl (cC, 400, .inl fy)), (ra, .inr (1, [.int qs, .ref h1, .ref h2])), (h1, .inr (0, [.ref a1, .int q1])), (a1, .inl (cI, n, .inl f1)), (h2, .inr (0, [.ref a2, .int q2])), (a2, .inl (cI, n, .inl f2))] sz)) 0 0 (va_A [(hy, .inr (5, [.ref ay, .int qc, .int (iZ (jd : Int)), .int ql])), (ay, .inl (cC, 400, .inl fy)), (ra, .inr (1, [.int qs, .ref h1, .ref h2])), (h1, .inr (0, [.ref a1, .int q1])), (a1, .inl (cI, n, .inl f1)), (h2, .inr (0, [.ref a2, .int q2])), (a2, .inl (cI, n, .inl f2))] sz) := by
  refine met_enter (by decide +kernel) (Nat.le_of_ble_eq_true rfl) ?_
  intro p e s m args below meth c ls A R Q H locs K hin hAe hA hR hQ hP hK hD hS hl
  obtain ⟨hx, hb, hml, hrt, hlk, hts, hown, hno⟩ := id K
  have hl : lv_has ls 6 [(0, .ref hy), (1, .ref ra)] := hl
  refine lv_aload_n hx hb d_Ty_numberInto_0 rfl (lv_at hl 1 rfl) ?_
  refine cv (n := 0) (wr := [(hy, .inr (5, [.ref ay, .int qc, .int (iZ (jd : Int)), .int ql])), (ay, .inl (cC, 400, .inl fy))]) (w1 := (fun (u : Nat × (Nat → Int32) × Nat × (Nat → Int32)) => [(ra, .inr (1, [.int (iZ 0), .ref h1, .ref h2])), (h1, .inr (0, [.ref a1, .int (iZ (u.1 : Int))])), (a1, .inl (cI, n, .inl u.2.1)), (h2, .inr (0, [.ref a2, .int (iZ (u.2.2.1 : Int))])), (a2, .inl (cI, n, .inl u.2.2.2))])) (As := []) (rest := []) K hP hD hK hS hA hl.1 (c_Ra_becomeZero l D ra qs h1 a1 q1 n f1 h2 a2 q2 n f2 cI H.size (by omega) (by omega) (by omega) (by omega)) [2, 3, 4, 5, 6] [0, 1] [1] rfl rfl rfl (by decide) (by decide) (by decide) 0 rfl rfl (big_in mw_943 rfl) (big_in mw_9 rfl) (big_in mw_1077 rfl) (big_in mw_941 rfl) (big_in mw_942 rfl) rfl rfl (by decide +kernel) ⟨by rw [hR]; exact Nat.le_of_ble_eq_true rfl, by rw [hR]; exact Nat.le_of_ble_eq_true rfl⟩ rfl (Nat.le_of_ble_eq_true rfl) d_Ty_numberInto_1 ⟨by rw [hR]; exact Nat.le_of_ble_eq_true rfl, by rw [hR]; exact Nat.le_of_ble_eq_true rfl⟩ rfl (fun v u H locs hp1 hP hD hS _ => ?_)
  obtain ⟨ub1, gb1, ub2, gb2⟩ := u
  try dsimp only at hp1
  obtain ⟨rfl, b1, b3⟩ := hp1
  have hP : va_P D cls0 [(hy, .inr (5, [.ref ay, .int qc, .int (iZ (jd : Int)), .int ql])), (ay, .inl (cC, 400, .inl fy)), (ra, .inr (1, [.int (iZ 0), .ref h1, .ref h2])), (h1, .inr (0, [.ref a1, .int (iZ (ub1 : Int))])), (a1, .inl (cI, n, .inl gb1)), (h2, .inr (0, [.ref a2, .int (iZ (ub2 : Int))])), (a2, .inl (cI, n, .inl gb2))] H := hP
  have hD : va_D A [(hy, .inr (5, [.ref ay, .int qc, .int (iZ (jd : Int)), .int ql])), (ay, .inl (cC, 400, .inl fy)), (ra, .inr (1, [.int (iZ 0), .ref h1, .ref h2])), (h1, .inr (0, [.ref a1, .int (iZ (ub1 : Int))])), (a1, .inl (cI, n, .inl gb1)), (h2, .inr (0, [.ref a2, .int (iZ (ub2 : Int))])), (a2, .inl (cI, n, .inl gb2))] := hD
  show W p l e R s m args below meth c H locs _ _ Q (F0 m 4 ls [])
  refine lv_iconst (v := iZ (0)) hx hb d_Ty_numberInto_4 (by decide +kernel) ?_
  refine lv_istore_n (lv' := [(2, .int (iZ 0)), (0, .ref hy), (1, .ref ra)]) hx hb d_Ty_numberInto_5 rfl hl (by decide) rfl (fun ls hl => ?_)
  refine lv_aload_n hx hb d_Ty_numberInto_6 rfl (lv_at hl 2 rfl) ?_
  refine va_get (D := D) (ci := 1) (v := .ref h1) (C := R_Ra) (T := F_Ra) (N := 3) hx hb hts i_Ra hown hK hP 2 rfl rfl 1 (by decide) (hts _ (big_in mw_197 rfl)) (fun _ h9 => h9) rfl d_Ty_numberInto_7 ?_
  refine lv_astore_n (lv' := [(3, .ref h1), (2, .int (iZ 0)), (0, .ref hy), (1, .ref ra)]) hx hb d_Ty_numberInto_10 rfl hl (by decide) rfl (fun ls hl => ?_)
  refine lv_iconst (v := iZ (0)) hx hb d_Ty_numberInto_11 (by decide +kernel) ?_
  refine lv_istore (lv' := [(4, .int (iZ 0)), (3, .ref h1), (2, .int (iZ 0)), (0, .ref hy), (1, .ref ra)]) hx hb d_Ty_numberInto_12 hl (by decide) rfl (fun ls hl => ?_)
  have L14b : ∀ (N : Nat) (i : Nat) (k1 : Nat) (e1 : Nat → Int32) (k2 : Nat) (e2 : Nat → Int32) (VA : Nat) (VB : Nat) (H : Heap) (locs : List Loc) (ls : Array Slot), jd - i < N → (i ≤ jd) → (Rp e1 k1 VA) → (Rp e2 k2 VB) → (NJ tx jd to i VA VB) → va_P D cls0 [(hy, .inr (5, [.ref ay, .int qc, .int (iZ (jd : Int)), .int ql])), (ay, .inl (cC, 400, .inl fy)), (ra, .inr (1, [.int (iZ 0), .ref h1, .ref h2])), (h1, .inr (0, [.ref a1, .int (iZ (k1 : Int))])), (a1, .inl (cI, n, .inl e1)), (h2, .inr (0, [.ref a2, .int (iZ (k2 : Int))])), (a2, .inl (cI, n, .inl e2))] H → va_D A [(hy, .inr (5, [.ref ay, .int qc, .int (iZ (jd : Int)), .int ql])), (ay, .inl (cC, 400, .inl fy)), (ra, .inr (1, [.int (iZ 0), .ref h1, .ref h2])), (h1, .inr (0, [.ref a1, .int (iZ (k1 : Int))])), (a1, .inl (cI, n, .inl e1)), (h2, .inr (0, [.ref a2, .int (iZ (k2 : Int))])), (a2, .inl (cI, n, .inl e2))] → va_S A s.heap H locs → lv_has ls 6 [(0, .ref hy), (1, .ref ra), (2, .int (iZ 0)), (3, .ref h2), (4, .int (iZ (i : Int)))] → W p l e R s m args below meth c H locs 0 0 Q (F0 m 14 ls []) := by
    intro N
    induction N with
    | zero => intro i k1 e1 k2 e2 VA VB H locs ls hN; exact absurd hN (Nat.not_lt_zero _)
    | succ N ih =>
      intro i k1 e1 k2 e2 VA VB H locs ls hN ii p1 p2 iN hP hD hS hl
      refine lv_iload hx hb d_Ty_numberInto_14 (lv_at hl 4 rfl) ?_
      refine lv_aload_n hx hb d_Ty_numberInto_16 rfl (lv_at hl 0 rfl) ?_
      refine va_get (D := D) (ci := 5) (v := .int (iZ (jd : Int))) (C := R_Ty) (T := F_Ty) (N := 4) hx hb hts i_Ty hown hK hP 0 rfl rfl 2 (by decide) (hts _ (big_in mw_151 rfl)) (fun _ h9 => h9) rfl d_Ty_numberInto_17 ?_
      refine zz_icmp_ge (tgt := 106) hx hb d_Ty_numberInto_20 (by decide) (by omega) (by omega) (fun c20 => ?_) (fun c20 => ?_)
      · have hj0 : 0 < jd := by have := hU.1.2.1; have := hU.2.1; omega
        obtain ⟨hb1, hb2⟩ := NJ.bd hU hjd ii iN
        rw [← p1.size] at hb1
        rw [← p2.size] at hb2
        refine lv_aload_n hx hb d_Ty_numberInto_106 rfl (lv_at hl 0 rfl) ?_
        refine va_get (D := D) (ci := 5) (v := .int (iZ (jd : Int))) (C := R_Ty) (T := F_Ty) (N := 4) hx hb hts i_Ty hown hK hP 0 rfl rfl 2 (by decide) (hts _ (big_in mw_151 rfl)) (fun _ h9 => h9) rfl d_Ty_numberInto_107 ?_
        refine zz_if_le (tgt := 128) hx hb d_Ty_numberInto_110 (by decide) (by omega) (fun c110 => False.elim (by omega)) (fun c110 => ?_)
        refine lv_aload_n hx hb d_Ty_numberInto_113 rfl (lv_at hl 0 rfl) ?_
        refine va_get (D := D) (ci := 5) (v := .ref ay) (C := R_Ty) (T := F_Ty) (N := 4) hx hb hts i_Ty hown hK hP 0 rfl rfl 0 (by decide) (hts _ (big_in mw_149 rfl)) (fun _ h9 => h9) rfl d_Ty_numberInto_114 ?_
        refine lv_iconst (v := iZ (0)) hx hb d_Ty_numberInto_117 (by decide +kernel) ?_
        refine zz_cald hx hb hK hP 1 0 rfl rfl (0) (by omega) (by omega) (by omega) d_Ty_numberInto_118 ?_
        obtain ⟨hc1, hc2⟩ := htx 0 (by omega)
        rw [hc1]
        refine lv_bipush (v := iZ (45)) hx hb d_Ty_numberInto_119 (by decide +kernel) ?_
        refine zz_icmp_ne (tgt := 128) hx hb d_Ty_numberInto_121 (by decide) (by omega) (by omega) (fun c121 => ?_) (fun c121 => ?_)
        · refine lv_iconst (v := iZ (1)) hx hb d_Ty_numberInto_128 (by decide +kernel) ?_
          refine lv_istore (lv' := [(4, .int (iZ 1)), (0, .ref hy), (1, .ref ra), (2, .int (iZ 0)), (3, .ref h2)]) hx hb d_Ty_numberInto_129 hl (by decide) rfl (fun ls hl => ?_)
          refine lv_aload_n hx hb d_Ty_numberInto_131 rfl (lv_at hl 2 rfl) ?_
          refine lv_aload_n hx hb d_Ty_numberInto_132 rfl (lv_at hl 2 rfl) ?_
          refine va_get (D := D) (ci := 1) (v := .ref h1) (C := R_Ra) (T := F_Ra) (N := 3) hx hb hts i_Ra hown hK hP 2 rfl rfl 1 (by decide) (hts _ (big_in mw_197 rfl)) (fun _ h9 => h9) rfl d_Ty_numberInto_133 ?_
          refine va_get (D := D) (ci := 0) (v := .int (iZ (k1 : Int))) (C := R_Wh) (T := F_Wh) (N := 2) hx hb hts i_Wh hown hK hP 3 rfl rfl 1 (by decide) (hts _ (big_in mw_97 rfl)) (fun _ h9 => h9) rfl d_Ty_numberInto_136 ?_
          refine zz_if_ne (tgt := 146) hx hb d_Ty_numberInto_139 (by decide) (by omega) (fun c139 => ?_) (fun c139 => ?_)
          · refine lv_iload hx hb d_Ty_numberInto_146 (lv_at hl 0 rfl) ?_
            refine va_put (D := D) (ci := 1) (v := .int (iZ 1)) (ty := .int) (C := R_Ra) (T := F_Ra) (N := 3) hx hb hts i_Ra t_Ra t_Ra_ok n_Ra hown hK hP hD hS 2 rfl rfl 0 (by decide) (hts _ (big_in mw_191 rfl)) (fun _ h9 => h9) rfl (by decide +kernel) rfl rfl (Nat.le_of_ble_eq_true rfl) d_Ty_numberInto_148 (fun H locs hP hD hS => ?_)
            have hP : va_P D cls0 [(hy, .inr (5, [.ref ay, .int qc, .int (iZ (jd : Int)), .int ql])), (ay, .inl (cC, 400, .inl fy)), (ra, .inr (1, [.int (iZ 1), .ref h1, .ref h2])), (h1, .inr (0, [.ref a1, .int (iZ (k1 : Int))])), (a1, .inl (cI, n, .inl e1)), (h2, .inr (0, [.ref a2, .int (iZ (k2 : Int))])), (a2, .inl (cI, n, .inl e2))] H := hP
            have hD : va_D A [(hy, .inr (5, [.ref ay, .int qc, .int (iZ (jd : Int)), .int ql])), (ay, .inl (cC, 400, .inl fy)), (ra, .inr (1, [.int (iZ 1), .ref h1, .ref h2])), (h1, .inr (0, [.ref a1, .int (iZ (k1 : Int))])), (a1, .inl (cI, n, .inl e1)), (h2, .inr (0, [.ref a2, .int (iZ (k2 : Int))])), (a2, .inl (cI, n, .inl e2))] := hD
            have hP9 : va_P D cls0 [(hy, .inr (5, [.ref ay, .int qc, .int (iZ (jd : Int)), .int ql])), (ay, .inl (cC, 400, .inl fy)), (ra, .inr (1, [.int (iZ 1), .ref h1, .ref h2])), (h1, .inr (0, [.ref a1, .int (iZ (k1 : Int))])), (a1, .inl (cI, n, .inl e1)), (h2, .inr (0, [.ref a2, .int (iZ (k2 : Int))])), (a2, .inl (cI, n, .inl e2))] H := hP.sub [0, 1, 2, 3, 4, 5, 6] rfl
            have hD9 : va_D A [(hy, .inr (5, [.ref ay, .int qc, .int (iZ (jd : Int)), .int ql])), (ay, .inl (cC, 400, .inl fy)), (ra, .inr (1, [.int (iZ 1), .ref h1, .ref h2])), (h1, .inr (0, [.ref a1, .int (iZ (k1 : Int))])), (a1, .inl (cI, n, .inl e1)), (h2, .inr (0, [.ref a2, .int (iZ (k2 : Int))])), (a2, .inl (cI, n, .inl e2))] := hD.sub [0, 1, 2, 3, 4, 5, 6] (by decide) rfl
            rw [hQ, ← hAe]
            refine r_v K (1, k1, e1, k2, e2) hS d_Ty_numberInto_151 ?_ (fun t ht hv => ?_)
            · try dsimp only
              have ei : i = jd := by omega
              subst ei
              obtain ⟨x1, x2⟩ := NJ.fin hU iN
              rw [x1] at p1
              rw [x2] at p2
              refine ⟨rfl, p1, p2, ?_⟩
              have hp := p1.pos
              have hf : frm tx i = 1 ↔ tx 0 = 45 := by unfold frm; split <;> omega
              first | (rw [if_pos (by omega)]) | (rw [if_neg (by omega), if_pos (by omega)]) | (rw [if_neg (by omega), if_neg (by omega)])
            · exact ⟨by rw [ht]; exact hP9, va_K.moved hv hK, by rw [← hAe]; exact hD9⟩
          · refine lv_iconst (v := iZ (0)) hx hb d_Ty_numberInto_142 (by decide +kernel) ?_
            refine lv_goto (tgt := 148) hx hb d_Ty_numberInto_143 (by decide) ?_
            refine va_put (D := D) (ci := 1) (v := .int (iZ 0)) (ty := .int) (C := R_Ra) (T := F_Ra) (N := 3) hx hb hts i_Ra t_Ra t_Ra_ok n_Ra hown hK hP hD hS 2 rfl rfl 0 (by decide) (hts _ (big_in mw_191 rfl)) (fun _ h9 => h9) rfl (by decide +kernel) rfl rfl (Nat.le_of_ble_eq_true rfl) d_Ty_numberInto_148 (fun H locs hP hD hS => ?_)
            have hP : va_P D cls0 [(hy, .inr (5, [.ref ay, .int qc, .int (iZ (jd : Int)), .int ql])), (ay, .inl (cC, 400, .inl fy)), (ra, .inr (1, [.int (iZ 0), .ref h1, .ref h2])), (h1, .inr (0, [.ref a1, .int (iZ (k1 : Int))])), (a1, .inl (cI, n, .inl e1)), (h2, .inr (0, [.ref a2, .int (iZ (k2 : Int))])), (a2, .inl (cI, n, .inl e2))] H := hP
            have hD : va_D A [(hy, .inr (5, [.ref ay, .int qc, .int (iZ (jd : Int)), .int ql])), (ay, .inl (cC, 400, .inl fy)), (ra, .inr (1, [.int (iZ 0), .ref h1, .ref h2])), (h1, .inr (0, [.ref a1, .int (iZ (k1 : Int))])), (a1, .inl (cI, n, .inl e1)), (h2, .inr (0, [.ref a2, .int (iZ (k2 : Int))])), (a2, .inl (cI, n, .inl e2))] := hD
            have hP9 : va_P D cls0 [(hy, .inr (5, [.ref ay, .int qc, .int (iZ (jd : Int)), .int ql])), (ay, .inl (cC, 400, .inl fy)), (ra, .inr (1, [.int (iZ 0), .ref h1, .ref h2])), (h1, .inr (0, [.ref a1, .int (iZ (k1 : Int))])), (a1, .inl (cI, n, .inl e1)), (h2, .inr (0, [.ref a2, .int (iZ (k2 : Int))])), (a2, .inl (cI, n, .inl e2))] H := hP.sub [0, 1, 2, 3, 4, 5, 6] rfl
            have hD9 : va_D A [(hy, .inr (5, [.ref ay, .int qc, .int (iZ (jd : Int)), .int ql])), (ay, .inl (cC, 400, .inl fy)), (ra, .inr (1, [.int (iZ 0), .ref h1, .ref h2])), (h1, .inr (0, [.ref a1, .int (iZ (k1 : Int))])), (a1, .inl (cI, n, .inl e1)), (h2, .inr (0, [.ref a2, .int (iZ (k2 : Int))])), (a2, .inl (cI, n, .inl e2))] := hD.sub [0, 1, 2, 3, 4, 5, 6] (by decide) rfl
            rw [hQ, ← hAe]
            refine r_v K (0, k1, e1, k2, e2) hS d_Ty_numberInto_151 ?_ (fun t ht hv => ?_)
            · try dsimp only
              have ei : i = jd := by omega
              subst ei
              obtain ⟨x1, x2⟩ := NJ.fin hU iN
              rw [x1] at p1
              rw [x2] at p2
              refine ⟨rfl, p1, p2, ?_⟩
              have hp := p1.pos
              have hf : frm tx i = 1 ↔ tx 0 = 45 := by unfold frm; split <;> omega
              first | (rw [if_pos (by omega)]) | (rw [if_neg (by omega), if_pos (by omega)]) | (rw [if_neg (by omega), if_neg (by omega)])
            · exact ⟨by rw [ht]; exact hP9, va_K.moved hv hK, by rw [← hAe]; exact hD9⟩
        · refine lv_iconst (v := iZ (-1)) hx hb d_Ty_numberInto_124 (by decide +kernel) ?_
          refine lv_goto (tgt := 129) hx hb d_Ty_numberInto_125 (by decide) ?_
          refine lv_istore (lv' := [(4, .int (iZ (-1))), (0, .ref hy), (1, .ref ra), (2, .int (iZ 0)), (3, .ref h2)]) hx hb d_Ty_numberInto_129 hl (by decide) rfl (fun ls hl => ?_)
          refine lv_aload_n hx hb d_Ty_numberInto_131 rfl (lv_at hl 2 rfl) ?_
          refine lv_aload_n hx hb d_Ty_numberInto_132 rfl (lv_at hl 2 rfl) ?_
          refine va_get (D := D) (ci := 1) (v := .ref h1) (C := R_Ra) (T := F_Ra) (N := 3) hx hb hts i_Ra hown hK hP 2 rfl rfl 1 (by decide) (hts _ (big_in mw_197 rfl)) (fun _ h9 => h9) rfl d_Ty_numberInto_133 ?_
          refine va_get (D := D) (ci := 0) (v := .int (iZ (k1 : Int))) (C := R_Wh) (T := F_Wh) (N := 2) hx hb hts i_Wh hown hK hP 3 rfl rfl 1 (by decide) (hts _ (big_in mw_97 rfl)) (fun _ h9 => h9) rfl d_Ty_numberInto_136 ?_
          refine zz_if_ne (tgt := 146) hx hb d_Ty_numberInto_139 (by decide) (by omega) (fun c139 => ?_) (fun c139 => ?_)
          · refine lv_iload hx hb d_Ty_numberInto_146 (lv_at hl 0 rfl) ?_
            refine va_put (D := D) (ci := 1) (v := .int (iZ (-1))) (ty := .int) (C := R_Ra) (T := F_Ra) (N := 3) hx hb hts i_Ra t_Ra t_Ra_ok n_Ra hown hK hP hD hS 2 rfl rfl 0 (by decide) (hts _ (big_in mw_191 rfl)) (fun _ h9 => h9) rfl (by decide +kernel) rfl rfl (Nat.le_of_ble_eq_true rfl) d_Ty_numberInto_148 (fun H locs hP hD hS => ?_)
            have hP : va_P D cls0 [(hy, .inr (5, [.ref ay, .int qc, .int (iZ (jd : Int)), .int ql])), (ay, .inl (cC, 400, .inl fy)), (ra, .inr (1, [.int (iZ (-1)), .ref h1, .ref h2])), (h1, .inr (0, [.ref a1, .int (iZ (k1 : Int))])), (a1, .inl (cI, n, .inl e1)), (h2, .inr (0, [.ref a2, .int (iZ (k2 : Int))])), (a2, .inl (cI, n, .inl e2))] H := hP
            have hD : va_D A [(hy, .inr (5, [.ref ay, .int qc, .int (iZ (jd : Int)), .int ql])), (ay, .inl (cC, 400, .inl fy)), (ra, .inr (1, [.int (iZ (-1)), .ref h1, .ref h2])), (h1, .inr (0, [.ref a1, .int (iZ (k1 : Int))])), (a1, .inl (cI, n, .inl e1)), (h2, .inr (0, [.ref a2, .int (iZ (k2 : Int))])), (a2, .inl (cI, n, .inl e2))] := hD
            have hP9 : va_P D cls0 [(hy, .inr (5, [.ref ay, .int qc, .int (iZ (jd : Int)), .int ql])), (ay, .inl (cC, 400, .inl fy)), (ra, .inr (1, [.int (iZ (-1)), .ref h1, .ref h2])), (h1, .inr (0, [.ref a1, .int (iZ (k1 : Int))])), (a1, .inl (cI, n, .inl e1)), (h2, .inr (0, [.ref a2, .int (iZ (k2 : Int))])), (a2, .inl (cI, n, .inl e2))] H := hP.sub [0, 1, 2, 3, 4, 5, 6] rfl
            have hD9 : va_D A [(hy, .inr (5, [.ref ay, .int qc, .int (iZ (jd : Int)), .int ql])), (ay, .inl (cC, 400, .inl fy)), (ra, .inr (1, [.int (iZ (-1)), .ref h1, .ref h2])), (h1, .inr (0, [.ref a1, .int (iZ (k1 : Int))])), (a1, .inl (cI, n, .inl e1)), (h2, .inr (0, [.ref a2, .int (iZ (k2 : Int))])), (a2, .inl (cI, n, .inl e2))] := hD.sub [0, 1, 2, 3, 4, 5, 6] (by decide) rfl
            rw [hQ, ← hAe]
            refine r_v K (-1, k1, e1, k2, e2) hS d_Ty_numberInto_151 ?_ (fun t ht hv => ?_)
            · try dsimp only
              have ei : i = jd := by omega
              subst ei
              obtain ⟨x1, x2⟩ := NJ.fin hU iN
              rw [x1] at p1
              rw [x2] at p2
              refine ⟨rfl, p1, p2, ?_⟩
              have hp := p1.pos
              have hf : frm tx i = 1 ↔ tx 0 = 45 := by unfold frm; split <;> omega
              first | (rw [if_pos (by omega)]) | (rw [if_neg (by omega), if_pos (by omega)]) | (rw [if_neg (by omega), if_neg (by omega)])
            · exact ⟨by rw [ht]; exact hP9, va_K.moved hv hK, by rw [← hAe]; exact hD9⟩
          · refine lv_iconst (v := iZ (0)) hx hb d_Ty_numberInto_142 (by decide +kernel) ?_
            refine lv_goto (tgt := 148) hx hb d_Ty_numberInto_143 (by decide) ?_
            refine va_put (D := D) (ci := 1) (v := .int (iZ 0)) (ty := .int) (C := R_Ra) (T := F_Ra) (N := 3) hx hb hts i_Ra t_Ra t_Ra_ok n_Ra hown hK hP hD hS 2 rfl rfl 0 (by decide) (hts _ (big_in mw_191 rfl)) (fun _ h9 => h9) rfl (by decide +kernel) rfl rfl (Nat.le_of_ble_eq_true rfl) d_Ty_numberInto_148 (fun H locs hP hD hS => ?_)
            have hP : va_P D cls0 [(hy, .inr (5, [.ref ay, .int qc, .int (iZ (jd : Int)), .int ql])), (ay, .inl (cC, 400, .inl fy)), (ra, .inr (1, [.int (iZ 0), .ref h1, .ref h2])), (h1, .inr (0, [.ref a1, .int (iZ (k1 : Int))])), (a1, .inl (cI, n, .inl e1)), (h2, .inr (0, [.ref a2, .int (iZ (k2 : Int))])), (a2, .inl (cI, n, .inl e2))] H := hP
            have hD : va_D A [(hy, .inr (5, [.ref ay, .int qc, .int (iZ (jd : Int)), .int ql])), (ay, .inl (cC, 400, .inl fy)), (ra, .inr (1, [.int (iZ 0), .ref h1, .ref h2])), (h1, .inr (0, [.ref a1, .int (iZ (k1 : Int))])), (a1, .inl (cI, n, .inl e1)), (h2, .inr (0, [.ref a2, .int (iZ (k2 : Int))])), (a2, .inl (cI, n, .inl e2))] := hD
            have hP9 : va_P D cls0 [(hy, .inr (5, [.ref ay, .int qc, .int (iZ (jd : Int)), .int ql])), (ay, .inl (cC, 400, .inl fy)), (ra, .inr (1, [.int (iZ 0), .ref h1, .ref h2])), (h1, .inr (0, [.ref a1, .int (iZ (k1 : Int))])), (a1, .inl (cI, n, .inl e1)), (h2, .inr (0, [.ref a2, .int (iZ (k2 : Int))])), (a2, .inl (cI, n, .inl e2))] H := hP.sub [0, 1, 2, 3, 4, 5, 6] rfl
            have hD9 : va_D A [(hy, .inr (5, [.ref ay, .int qc, .int (iZ (jd : Int)), .int ql])), (ay, .inl (cC, 400, .inl fy)), (ra, .inr (1, [.int (iZ 0), .ref h1, .ref h2])), (h1, .inr (0, [.ref a1, .int (iZ (k1 : Int))])), (a1, .inl (cI, n, .inl e1)), (h2, .inr (0, [.ref a2, .int (iZ (k2 : Int))])), (a2, .inl (cI, n, .inl e2))] := hD.sub [0, 1, 2, 3, 4, 5, 6] (by decide) rfl
            rw [hQ, ← hAe]
            refine r_v K (0, k1, e1, k2, e2) hS d_Ty_numberInto_151 ?_ (fun t ht hv => ?_)
            · try dsimp only
              have ei : i = jd := by omega
              subst ei
              obtain ⟨x1, x2⟩ := NJ.fin hU iN
              rw [x1] at p1
              rw [x2] at p2
              refine ⟨rfl, p1, p2, ?_⟩
              have hp := p1.pos
              have hf : frm tx i = 1 ↔ tx 0 = 45 := by unfold frm; split <;> omega
              first | (rw [if_pos (by omega)]) | (rw [if_neg (by omega), if_pos (by omega)]) | (rw [if_neg (by omega), if_neg (by omega)])
            · exact ⟨by rw [ht]; exact hP9, va_K.moved hv hK, by rw [← hAe]; exact hD9⟩
      · have hch := hU.ch (i := i) (by omega)
        obtain ⟨hb1, hb2⟩ := NJ.bd hU hjd ii iN
        rw [← p1.size] at hb1
        rw [← p2.size] at hb2
        have hto := iN.1
        refine lv_aload_n hx hb d_Ty_numberInto_23 rfl (lv_at hl 0 rfl) ?_
        refine va_get (D := D) (ci := 5) (v := .ref ay) (C := R_Ty) (T := F_Ty) (N := 4) hx hb hts i_Ty hown hK hP 0 rfl rfl 0 (by decide) (hts _ (big_in mw_149 rfl)) (fun _ h9 => h9) rfl d_Ty_numberInto_24 ?_
        refine lv_iload hx hb d_Ty_numberInto_27 (lv_at hl 4 rfl) ?_
        refine zz_cald hx hb hK hP 1 0 rfl rfl (i) (by omega) (by omega) (by omega) d_Ty_numberInto_29 ?_
        obtain ⟨hc1, hc2⟩ := htx i (by omega)
        rw [hc1]
        refine lv_istore (lv' := [(5, .int (iZ (tx i : Int))), (0, .ref hy), (1, .ref ra), (2, .int (iZ 0)), (3, .ref h2), (4, .int (iZ (i : Int)))]) hx hb d_Ty_numberInto_30 hl (by decide) rfl (fun ls hl => ?_)
        refine lv_iload hx hb d_Ty_numberInto_32 (lv_at hl 0 rfl) ?_
        refine lv_bipush (v := iZ (46)) hx hb d_Ty_numberInto_34 (by decide +kernel) ?_
        refine zz_icmp_ne (tgt := 44) hx hb d_Ty_numberInto_36 (by decide) (by omega) (by omega) (fun c36 => ?_) (fun c36 => False.elim (by omega))
        refine lv_iload hx hb d_Ty_numberInto_44 (lv_at hl 0 rfl) ?_
        refine lv_bipush (v := iZ (47)) hx hb d_Ty_numberInto_46 (by decide +kernel) ?_
        refine zz_icmp_ne (tgt := 64) hx hb d_Ty_numberInto_48 (by decide) (by omega) (by omega) (fun c48 => ?_) (fun c48 => False.elim (by omega))
        refine lv_iload hx hb d_Ty_numberInto_64 (lv_at hl 0 rfl) ?_
        refine lv_bipush (v := iZ (45)) hx hb d_Ty_numberInto_66 (by decide +kernel) ?_
        refine zz_icmp_eq (tgt := 100) hx hb d_Ty_numberInto_68 (by decide) (by omega) (by omega) (fun c68 => False.elim (by omega)) (fun c68 => ?_)
        refine lv_aload_n hx hb d_Ty_numberInto_71 rfl (lv_at hl 4 rfl) ?_
        refine lv_bipush (v := iZ (10)) hx hb d_Ty_numberInto_72 (by decide +kernel) ?_
        refine lv_iload hx hb d_Ty_numberInto_74 (lv_at hl 0 rfl) ?_
        refine lv_bipush (v := iZ (48)) hx hb d_Ty_numberInto_76 (by decide +kernel) ?_
        refine zz_isub hx hb d_Ty_numberInto_78 ?_
        rw [show ((tx i : Int) - 48 : Int) = ((tx i - 48 : Nat) : Int) by omega]
        refine cv (n := 2) (wr := [(hy, .inr (5, [.ref ay, .int qc, .int (iZ (jd : Int)), .int ql])), (ay, .inl (cC, 400, .inl fy)), (ra, .inr (1, [.int (iZ 0), .ref h1, .ref h2])), (h1, .inr (0, [.ref a1, .int (iZ (k1 : Int))])), (a1, .inl (cI, n, .inl e1))]) (w1 := (fun (u : Nat × (Nat → Int32)) => [(h2, .inr (0, [.ref a2, .int (iZ (u.1 : Int))])), (a2, .inl (cI, n, .inl u.2))])) (As := [.int (iZ 10), .int (iZ ((tx i - 48 : Nat) : Int))]) (rest := []) K hP hD hK hS hA hl.1 (c_Wh_scale l D h2 a2 k2 n e2 cI VB 10 (tx i - 48) H.size p2 (by omega) (by omega) (by omega) (by omega)) [5, 6] [0, 1, 2, 3, 4] [1] rfl rfl rfl (by decide) (by decide) (by decide) 0 rfl rfl (big_in mw_956 rfl) (big_in mw_6 rfl) (big_in mw_1079 rfl) (big_in mw_954 rfl) (big_in mw_955 rfl) rfl rfl (by decide +kernel) ⟨by rw [hR]; exact Nat.le_of_ble_eq_true rfl, by rw [hR]; exact Nat.le_of_ble_eq_true rfl⟩ rfl (Nat.le_of_ble_eq_true rfl) d_Ty_numberInto_79 ⟨by rw [hR]; exact Nat.le_of_ble_eq_true rfl, by rw [hR]; exact Nat.le_of_ble_eq_true rfl⟩ rfl (fun v u H locs hp2 hP hD hS _ => ?_)
        obtain ⟨us1, gs1⟩ := u
        try dsimp only at hp2
        obtain ⟨rfl, y1, y2⟩ := hp2
        have hP : va_P D cls0 [(hy, .inr (5, [.ref ay, .int qc, .int (iZ (jd : Int)), .int ql])), (ay, .inl (cC, 400, .inl fy)), (ra, .inr (1, [.int (iZ 0), .ref h1, .ref h2])), (h1, .inr (0, [.ref a1, .int (iZ (k1 : Int))])), (a1, .inl (cI, n, .inl e1)), (h2, .inr (0, [.ref a2, .int (iZ (us1 : Int))])), (a2, .inl (cI, n, .inl gs1))] H := hP
        have hD : va_D A [(hy, .inr (5, [.ref ay, .int qc, .int (iZ (jd : Int)), .int ql])), (ay, .inl (cC, 400, .inl fy)), (ra, .inr (1, [.int (iZ 0), .ref h1, .ref h2])), (h1, .inr (0, [.ref a1, .int (iZ (k1 : Int))])), (a1, .inl (cI, n, .inl e1)), (h2, .inr (0, [.ref a2, .int (iZ (us1 : Int))])), (a2, .inl (cI, n, .inl gs1))] := hD
        show W p l e R s m args below meth c H locs _ _ Q (F0 m 82 ls [])
        refine lv_aload_n hx hb d_Ty_numberInto_82 rfl (lv_at hl 2 rfl) ?_
        refine va_get (D := D) (ci := 1) (v := .ref h2) (C := R_Ra) (T := F_Ra) (N := 3) hx hb hts i_Ra hown hK hP 2 rfl rfl 2 (by decide) (hts _ (big_in mw_203 rfl)) (fun _ h9 => h9) rfl d_Ty_numberInto_83 ?_
        refine lv_iload_n hx hb d_Ty_numberInto_86 rfl (lv_at hl 3 rfl) ?_
        refine zz_if_eq (tgt := 95) hx hb d_Ty_numberInto_87 (by decide) (by omega) (fun c87 => ?_) (fun c87 => False.elim (by omega))
        refine lv_iconst (v := iZ (1)) hx hb d_Ty_numberInto_95 (by decide +kernel) ?_
        refine lv_iconst (v := iZ (0)) hx hb d_Ty_numberInto_96 (by decide +kernel) ?_
        refine cv (n := 2) (wr := [(hy, .inr (5, [.ref ay, .int qc, .int (iZ (jd : Int)), .int ql])), (ay, .inl (cC, 400, .inl fy)), (ra, .inr (1, [.int (iZ 0), .ref h1, .ref h2])), (h1, .inr (0, [.ref a1, .int (iZ (k1 : Int))])), (a1, .inl (cI, n, .inl e1))]) (w1 := (fun (u : Nat × (Nat → Int32)) => [(h2, .inr (0, [.ref a2, .int (iZ (u.1 : Int))])), (a2, .inl (cI, n, .inl u.2))])) (As := [.int (iZ 1), .int (iZ 0)]) (rest := []) K hP hD hK hS hA hl.1 (c_Wh_scale l D h2 a2 us1 n gs1 cI (VB * 10 + (tx i - 48)) 1 0 H.size y1 (by omega) (by omega) (by omega) (by omega)) [5, 6] [0, 1, 2, 3, 4] [1] rfl rfl rfl (by decide) (by decide) (by decide) 0 rfl rfl (big_in mw_956 rfl) (big_in mw_6 rfl) (big_in mw_1079 rfl) (big_in mw_954 rfl) (big_in mw_955 rfl) rfl rfl (by decide +kernel) ⟨by rw [hR]; exact Nat.le_of_ble_eq_true rfl, by rw [hR]; exact Nat.le_of_ble_eq_true rfl⟩ rfl (Nat.le_of_ble_eq_true rfl) d_Ty_numberInto_97 ⟨by rw [hR]; exact Nat.le_of_ble_eq_true rfl, by rw [hR]; exact Nat.le_of_ble_eq_true rfl⟩ rfl (fun v u H locs hp3 hP hD hS _ => ?_)
        obtain ⟨us2, gs2⟩ := u
        try dsimp only at hp3
        obtain ⟨rfl, y3, y4⟩ := hp3
        have hP : va_P D cls0 [(hy, .inr (5, [.ref ay, .int qc, .int (iZ (jd : Int)), .int ql])), (ay, .inl (cC, 400, .inl fy)), (ra, .inr (1, [.int (iZ 0), .ref h1, .ref h2])), (h1, .inr (0, [.ref a1, .int (iZ (k1 : Int))])), (a1, .inl (cI, n, .inl e1)), (h2, .inr (0, [.ref a2, .int (iZ (us2 : Int))])), (a2, .inl (cI, n, .inl gs2))] H := hP
        have hD : va_D A [(hy, .inr (5, [.ref ay, .int qc, .int (iZ (jd : Int)), .int ql])), (ay, .inl (cC, 400, .inl fy)), (ra, .inr (1, [.int (iZ 0), .ref h1, .ref h2])), (h1, .inr (0, [.ref a1, .int (iZ (k1 : Int))])), (a1, .inl (cI, n, .inl e1)), (h2, .inr (0, [.ref a2, .int (iZ (us2 : Int))])), (a2, .inl (cI, n, .inl gs2))] := hD
        show W p l e R s m args below meth c H locs _ _ Q (F0 m 100 ls [])
        refine lv_iinc (v := iZ ((i : Int) + 1)) (lv' := [(4, .int (iZ ((i : Int) + 1))), (5, .int (iZ (tx i : Int))), (0, .ref hy), (1, .ref ra), (2, .int (iZ 0)), (3, .ref h2)]) hx hb d_Ty_numberInto_100 hl (k := 5) rfl (iZ_add _ _) (by decide) rfl (fun ls hl => ?_)
        refine lv_goto (tgt := 14) hx hb d_Ty_numberInto_103 (by decide) ?_
        rw [show ((i : Int) + 1 : Int) = ((i + 1 : Nat) : Int) by omega] at hl
        exact ih (i + 1) k1 e1 us2 gs2 VA ((VB * 10 + (tx i - 48)) * 1 + 0) _ _ _ (by omega) (by omega) p1 y3 (NJ.fig iN) (hP.sub (ws' := [(hy, .inr (5, [.ref ay, .int qc, .int (iZ (jd : Int)), .int ql])), (ay, .inl (cC, 400, .inl fy)), (ra, .inr (1, [.int (iZ 0), .ref h1, .ref h2])), (h1, .inr (0, [.ref a1, .int (iZ (k1 : Int))])), (a1, .inl (cI, n, .inl e1)), (h2, .inr (0, [.ref a2, .int (iZ (us2 : Int))])), (a2, .inl (cI, n, .inl gs2))]) [0, 1, 2, 3, 4, 5, 6] rfl) (hD.sub (ws' := [(hy, .inr (5, [.ref ay, .int qc, .int (iZ (jd : Int)), .int ql])), (ay, .inl (cC, 400, .inl fy)), (ra, .inr (1, [.int (iZ 0), .ref h1, .ref h2])), (h1, .inr (0, [.ref a1, .int (iZ (k1 : Int))])), (a1, .inl (cI, n, .inl e1)), (h2, .inr (0, [.ref a2, .int (iZ (us2 : Int))])), (a2, .inl (cI, n, .inl gs2))]) [0, 1, 2, 3, 4, 5, 6] (by decide) rfl) hS (lv_sub hl [2, 3, 4, 5, 0] rfl)
  have L14a : ∀ (N : Nat) (i : Nat) (po : Int) (k1 : Nat) (e1 : Nat → Int32) (k2 : Nat) (e2 : Nat → Int32) (VA : Nat) (VB : Nat) (H : Heap) (locs : List Loc) (ls : Array Slot), jd - i < N → (i ≤ jd) → (Rp e1 k1 VA) → (Rp e2 k2 VB) → (NI tx jd to i po VA VB) → va_P D cls0 [(hy, .inr (5, [.ref ay, .int qc, .int (iZ (jd : Int)), .int ql])), (ay, .inl (cC, 400, .inl fy)), (ra, .inr (1, [.int (iZ 0), .ref h1, .ref h2])), (h1, .inr (0, [.ref a1, .int (iZ (k1 : Int))])), (a1, .inl (cI, n, .inl e1)), (h2, .inr (0, [.ref a2, .int (iZ (k2 : Int))])), (a2, .inl (cI, n, .inl e2))] H → va_D A [(hy, .inr (5, [.ref ay, .int qc, .int (iZ (jd : Int)), .int ql])), (ay, .inl (cC, 400, .inl fy)), (ra, .inr (1, [.int (iZ 0), .ref h1, .ref h2])), (h1, .inr (0, [.ref a1, .int (iZ (k1 : Int))])), (a1, .inl (cI, n, .inl e1)), (h2, .inr (0, [.ref a2, .int (iZ (k2 : Int))])), (a2, .inl (cI, n, .inl e2))] → va_S A s.heap H locs → lv_has ls 6 [(0, .ref hy), (1, .ref ra), (2, .int (iZ po)), (3, .ref h1), (4, .int (iZ (i : Int)))] → W p l e R s m args below meth c H locs 0 0 Q (F0 m 14 ls []) := by
    intro N
    induction N with
    | zero => intro i po k1 e1 k2 e2 VA VB H locs ls hN; exact absurd hN (Nat.not_lt_zero _)
    | succ N ih =>
      intro i po k1 e1 k2 e2 VA VB H locs ls hN ii p1 p2 iN hP hD hS hl
      refine lv_iload hx hb d_Ty_numberInto_14 (lv_at hl 4 rfl) ?_
      refine lv_aload_n hx hb d_Ty_numberInto_16 rfl (lv_at hl 0 rfl) ?_
      refine va_get (D := D) (ci := 5) (v := .int (iZ (jd : Int))) (C := R_Ty) (T := F_Ty) (N := 4) hx hb hts i_Ty hown hK hP 0 rfl rfl 2 (by decide) (hts _ (big_in mw_151 rfl)) (fun _ h9 => h9) rfl d_Ty_numberInto_17 ?_
      refine zz_icmp_ge (tgt := 106) hx hb d_Ty_numberInto_20 (by decide) (by omega) (by omega) (fun c20 => ?_) (fun c20 => ?_)
      · have hj0 : 0 < jd := by have := hU.1.2.1; have := hU.2.1; omega
        obtain ⟨hb1, hb2⟩ := NI.bd hU hjd ii iN
        rw [← p1.size] at hb1
        rw [← p2.size] at hb2
        refine lv_aload_n hx hb d_Ty_numberInto_106 rfl (lv_at hl 0 rfl) ?_
        refine va_get (D := D) (ci := 5) (v := .int (iZ (jd : Int))) (C := R_Ty) (T := F_Ty) (N := 4) hx hb hts i_Ty hown hK hP 0 rfl rfl 2 (by decide) (hts _ (big_in mw_151 rfl)) (fun _ h9 => h9) rfl d_Ty_numberInto_107 ?_
        refine zz_if_le (tgt := 128) hx hb d_Ty_numberInto_110 (by decide) (by omega) (fun c110 => False.elim (by omega)) (fun c110 => ?_)
        refine lv_aload_n hx hb d_Ty_numberInto_113 rfl (lv_at hl 0 rfl) ?_
        refine va_get (D := D) (ci := 5) (v := .ref ay) (C := R_Ty) (T := F_Ty) (N := 4) hx hb hts i_Ty hown hK hP 0 rfl rfl 0 (by decide) (hts _ (big_in mw_149 rfl)) (fun _ h9 => h9) rfl d_Ty_numberInto_114 ?_
        refine lv_iconst (v := iZ (0)) hx hb d_Ty_numberInto_117 (by decide +kernel) ?_
        refine zz_cald hx hb hK hP 1 0 rfl rfl (0) (by omega) (by omega) (by omega) d_Ty_numberInto_118 ?_
        obtain ⟨hc1, hc2⟩ := htx 0 (by omega)
        rw [hc1]
        refine lv_bipush (v := iZ (45)) hx hb d_Ty_numberInto_119 (by decide +kernel) ?_
        refine zz_icmp_ne (tgt := 128) hx hb d_Ty_numberInto_121 (by decide) (by omega) (by omega) (fun c121 => ?_) (fun c121 => ?_)
        · refine lv_iconst (v := iZ (1)) hx hb d_Ty_numberInto_128 (by decide +kernel) ?_
          refine lv_istore (lv' := [(4, .int (iZ 1)), (0, .ref hy), (1, .ref ra), (2, .int (iZ po)), (3, .ref h1)]) hx hb d_Ty_numberInto_129 hl (by decide) rfl (fun ls hl => ?_)
          refine lv_aload_n hx hb d_Ty_numberInto_131 rfl (lv_at hl 2 rfl) ?_
          refine lv_aload_n hx hb d_Ty_numberInto_132 rfl (lv_at hl 2 rfl) ?_
          refine va_get (D := D) (ci := 1) (v := .ref h1) (C := R_Ra) (T := F_Ra) (N := 3) hx hb hts i_Ra hown hK hP 2 rfl rfl 1 (by decide) (hts _ (big_in mw_197 rfl)) (fun _ h9 => h9) rfl d_Ty_numberInto_133 ?_
          refine va_get (D := D) (ci := 0) (v := .int (iZ (k1 : Int))) (C := R_Wh) (T := F_Wh) (N := 2) hx hb hts i_Wh hown hK hP 3 rfl rfl 1 (by decide) (hts _ (big_in mw_97 rfl)) (fun _ h9 => h9) rfl d_Ty_numberInto_136 ?_
          refine zz_if_ne (tgt := 146) hx hb d_Ty_numberInto_139 (by decide) (by omega) (fun c139 => ?_) (fun c139 => ?_)
          · refine lv_iload hx hb d_Ty_numberInto_146 (lv_at hl 0 rfl) ?_
            refine va_put (D := D) (ci := 1) (v := .int (iZ 1)) (ty := .int) (C := R_Ra) (T := F_Ra) (N := 3) hx hb hts i_Ra t_Ra t_Ra_ok n_Ra hown hK hP hD hS 2 rfl rfl 0 (by decide) (hts _ (big_in mw_191 rfl)) (fun _ h9 => h9) rfl (by decide +kernel) rfl rfl (Nat.le_of_ble_eq_true rfl) d_Ty_numberInto_148 (fun H locs hP hD hS => ?_)
            have hP : va_P D cls0 [(hy, .inr (5, [.ref ay, .int qc, .int (iZ (jd : Int)), .int ql])), (ay, .inl (cC, 400, .inl fy)), (ra, .inr (1, [.int (iZ 1), .ref h1, .ref h2])), (h1, .inr (0, [.ref a1, .int (iZ (k1 : Int))])), (a1, .inl (cI, n, .inl e1)), (h2, .inr (0, [.ref a2, .int (iZ (k2 : Int))])), (a2, .inl (cI, n, .inl e2))] H := hP
            have hD : va_D A [(hy, .inr (5, [.ref ay, .int qc, .int (iZ (jd : Int)), .int ql])), (ay, .inl (cC, 400, .inl fy)), (ra, .inr (1, [.int (iZ 1), .ref h1, .ref h2])), (h1, .inr (0, [.ref a1, .int (iZ (k1 : Int))])), (a1, .inl (cI, n, .inl e1)), (h2, .inr (0, [.ref a2, .int (iZ (k2 : Int))])), (a2, .inl (cI, n, .inl e2))] := hD
            have hP9 : va_P D cls0 [(hy, .inr (5, [.ref ay, .int qc, .int (iZ (jd : Int)), .int ql])), (ay, .inl (cC, 400, .inl fy)), (ra, .inr (1, [.int (iZ 1), .ref h1, .ref h2])), (h1, .inr (0, [.ref a1, .int (iZ (k1 : Int))])), (a1, .inl (cI, n, .inl e1)), (h2, .inr (0, [.ref a2, .int (iZ (k2 : Int))])), (a2, .inl (cI, n, .inl e2))] H := hP.sub [0, 1, 2, 3, 4, 5, 6] rfl
            have hD9 : va_D A [(hy, .inr (5, [.ref ay, .int qc, .int (iZ (jd : Int)), .int ql])), (ay, .inl (cC, 400, .inl fy)), (ra, .inr (1, [.int (iZ 1), .ref h1, .ref h2])), (h1, .inr (0, [.ref a1, .int (iZ (k1 : Int))])), (a1, .inl (cI, n, .inl e1)), (h2, .inr (0, [.ref a2, .int (iZ (k2 : Int))])), (a2, .inl (cI, n, .inl e2))] := hD.sub [0, 1, 2, 3, 4, 5, 6] (by decide) rfl
            rw [hQ, ← hAe]
            refine r_v K (1, k1, e1, k2, e2) hS d_Ty_numberInto_151 ?_ (fun t ht hv => ?_)
            · try dsimp only
              have ei : i = jd := by omega
              subst ei
              obtain ⟨x1, x2⟩ := NI.fin hU iN
              rw [x1] at p1
              rw [x2] at p2
              refine ⟨rfl, p1, p2, ?_⟩
              have hp := p1.pos
              have hf : frm tx i = 1 ↔ tx 0 = 45 := by unfold frm; split <;> omega
              first | (rw [if_pos (by omega)]) | (rw [if_neg (by omega), if_pos (by omega)]) | (rw [if_neg (by omega), if_neg (by omega)])
            · exact ⟨by rw [ht]; exact hP9, va_K.moved hv hK, by rw [← hAe]; exact hD9⟩
          · refine lv_iconst (v := iZ (0)) hx hb d_Ty_numberInto_142 (by decide +kernel) ?_
            refine lv_goto (tgt := 148) hx hb d_Ty_numberInto_143 (by decide) ?_
            refine va_put (D := D) (ci := 1) (v := .int (iZ 0)) (ty := .int) (C := R_Ra) (T := F_Ra) (N := 3) hx hb hts i_Ra t_Ra t_Ra_ok n_Ra hown hK hP hD hS 2 rfl rfl 0 (by decide) (hts _ (big_in mw_191 rfl)) (fun _ h9 => h9) rfl (by decide +kernel) rfl rfl (Nat.le_of_ble_eq_true rfl) d_Ty_numberInto_148 (fun H locs hP hD hS => ?_)
            have hP : va_P D cls0 [(hy, .inr (5, [.ref ay, .int qc, .int (iZ (jd : Int)), .int ql])), (ay, .inl (cC, 400, .inl fy)), (ra, .inr (1, [.int (iZ 0), .ref h1, .ref h2])), (h1, .inr (0, [.ref a1, .int (iZ (k1 : Int))])), (a1, .inl (cI, n, .inl e1)), (h2, .inr (0, [.ref a2, .int (iZ (k2 : Int))])), (a2, .inl (cI, n, .inl e2))] H := hP
            have hD : va_D A [(hy, .inr (5, [.ref ay, .int qc, .int (iZ (jd : Int)), .int ql])), (ay, .inl (cC, 400, .inl fy)), (ra, .inr (1, [.int (iZ 0), .ref h1, .ref h2])), (h1, .inr (0, [.ref a1, .int (iZ (k1 : Int))])), (a1, .inl (cI, n, .inl e1)), (h2, .inr (0, [.ref a2, .int (iZ (k2 : Int))])), (a2, .inl (cI, n, .inl e2))] := hD
            have hP9 : va_P D cls0 [(hy, .inr (5, [.ref ay, .int qc, .int (iZ (jd : Int)), .int ql])), (ay, .inl (cC, 400, .inl fy)), (ra, .inr (1, [.int (iZ 0), .ref h1, .ref h2])), (h1, .inr (0, [.ref a1, .int (iZ (k1 : Int))])), (a1, .inl (cI, n, .inl e1)), (h2, .inr (0, [.ref a2, .int (iZ (k2 : Int))])), (a2, .inl (cI, n, .inl e2))] H := hP.sub [0, 1, 2, 3, 4, 5, 6] rfl
            have hD9 : va_D A [(hy, .inr (5, [.ref ay, .int qc, .int (iZ (jd : Int)), .int ql])), (ay, .inl (cC, 400, .inl fy)), (ra, .inr (1, [.int (iZ 0), .ref h1, .ref h2])), (h1, .inr (0, [.ref a1, .int (iZ (k1 : Int))])), (a1, .inl (cI, n, .inl e1)), (h2, .inr (0, [.ref a2, .int (iZ (k2 : Int))])), (a2, .inl (cI, n, .inl e2))] := hD.sub [0, 1, 2, 3, 4, 5, 6] (by decide) rfl
            rw [hQ, ← hAe]
            refine r_v K (0, k1, e1, k2, e2) hS d_Ty_numberInto_151 ?_ (fun t ht hv => ?_)
            · try dsimp only
              have ei : i = jd := by omega
              subst ei
              obtain ⟨x1, x2⟩ := NI.fin hU iN
              rw [x1] at p1
              rw [x2] at p2
              refine ⟨rfl, p1, p2, ?_⟩
              have hp := p1.pos
              have hf : frm tx i = 1 ↔ tx 0 = 45 := by unfold frm; split <;> omega
              first | (rw [if_pos (by omega)]) | (rw [if_neg (by omega), if_pos (by omega)]) | (rw [if_neg (by omega), if_neg (by omega)])
            · exact ⟨by rw [ht]; exact hP9, va_K.moved hv hK, by rw [← hAe]; exact hD9⟩
        · refine lv_iconst (v := iZ (-1)) hx hb d_Ty_numberInto_124 (by decide +kernel) ?_
          refine lv_goto (tgt := 129) hx hb d_Ty_numberInto_125 (by decide) ?_
          refine lv_istore (lv' := [(4, .int (iZ (-1))), (0, .ref hy), (1, .ref ra), (2, .int (iZ po)), (3, .ref h1)]) hx hb d_Ty_numberInto_129 hl (by decide) rfl (fun ls hl => ?_)
          refine lv_aload_n hx hb d_Ty_numberInto_131 rfl (lv_at hl 2 rfl) ?_
          refine lv_aload_n hx hb d_Ty_numberInto_132 rfl (lv_at hl 2 rfl) ?_
          refine va_get (D := D) (ci := 1) (v := .ref h1) (C := R_Ra) (T := F_Ra) (N := 3) hx hb hts i_Ra hown hK hP 2 rfl rfl 1 (by decide) (hts _ (big_in mw_197 rfl)) (fun _ h9 => h9) rfl d_Ty_numberInto_133 ?_
          refine va_get (D := D) (ci := 0) (v := .int (iZ (k1 : Int))) (C := R_Wh) (T := F_Wh) (N := 2) hx hb hts i_Wh hown hK hP 3 rfl rfl 1 (by decide) (hts _ (big_in mw_97 rfl)) (fun _ h9 => h9) rfl d_Ty_numberInto_136 ?_
          refine zz_if_ne (tgt := 146) hx hb d_Ty_numberInto_139 (by decide) (by omega) (fun c139 => ?_) (fun c139 => ?_)
          · refine lv_iload hx hb d_Ty_numberInto_146 (lv_at hl 0 rfl) ?_
            refine va_put (D := D) (ci := 1) (v := .int (iZ (-1))) (ty := .int) (C := R_Ra) (T := F_Ra) (N := 3) hx hb hts i_Ra t_Ra t_Ra_ok n_Ra hown hK hP hD hS 2 rfl rfl 0 (by decide) (hts _ (big_in mw_191 rfl)) (fun _ h9 => h9) rfl (by decide +kernel) rfl rfl (Nat.le_of_ble_eq_true rfl) d_Ty_numberInto_148 (fun H locs hP hD hS => ?_)
            have hP : va_P D cls0 [(hy, .inr (5, [.ref ay, .int qc, .int (iZ (jd : Int)), .int ql])), (ay, .inl (cC, 400, .inl fy)), (ra, .inr (1, [.int (iZ (-1)), .ref h1, .ref h2])), (h1, .inr (0, [.ref a1, .int (iZ (k1 : Int))])), (a1, .inl (cI, n, .inl e1)), (h2, .inr (0, [.ref a2, .int (iZ (k2 : Int))])), (a2, .inl (cI, n, .inl e2))] H := hP
            have hD : va_D A [(hy, .inr (5, [.ref ay, .int qc, .int (iZ (jd : Int)), .int ql])), (ay, .inl (cC, 400, .inl fy)), (ra, .inr (1, [.int (iZ (-1)), .ref h1, .ref h2])), (h1, .inr (0, [.ref a1, .int (iZ (k1 : Int))])), (a1, .inl (cI, n, .inl e1)), (h2, .inr (0, [.ref a2, .int (iZ (k2 : Int))])), (a2, .inl (cI, n, .inl e2))] := hD
            have hP9 : va_P D cls0 [(hy, .inr (5, [.ref ay, .int qc, .int (iZ (jd : Int)), .int ql])), (ay, .inl (cC, 400, .inl fy)), (ra, .inr (1, [.int (iZ (-1)), .ref h1, .ref h2])), (h1, .inr (0, [.ref a1, .int (iZ (k1 : Int))])), (a1, .inl (cI, n, .inl e1)), (h2, .inr (0, [.ref a2, .int (iZ (k2 : Int))])), (a2, .inl (cI, n, .inl e2))] H := hP.sub [0, 1, 2, 3, 4, 5, 6] rfl
            have hD9 : va_D A [(hy, .inr (5, [.ref ay, .int qc, .int (iZ (jd : Int)), .int ql])), (ay, .inl (cC, 400, .inl fy)), (ra, .inr (1, [.int (iZ (-1)), .ref h1, .ref h2])), (h1, .inr (0, [.ref a1, .int (iZ (k1 : Int))])), (a1, .inl (cI, n, .inl e1)), (h2, .inr (0, [.ref a2, .int (iZ (k2 : Int))])), (a2, .inl (cI, n, .inl e2))] := hD.sub [0, 1, 2, 3, 4, 5, 6] (by decide) rfl
            rw [hQ, ← hAe]
            refine r_v K (-1, k1, e1, k2, e2) hS d_Ty_numberInto_151 ?_ (fun t ht hv => ?_)
            · try dsimp only
              have ei : i = jd := by omega
              subst ei
              obtain ⟨x1, x2⟩ := NI.fin hU iN
              rw [x1] at p1
              rw [x2] at p2
              refine ⟨rfl, p1, p2, ?_⟩
              have hp := p1.pos
              have hf : frm tx i = 1 ↔ tx 0 = 45 := by unfold frm; split <;> omega
              first | (rw [if_pos (by omega)]) | (rw [if_neg (by omega), if_pos (by omega)]) | (rw [if_neg (by omega), if_neg (by omega)])
            · exact ⟨by rw [ht]; exact hP9, va_K.moved hv hK, by rw [← hAe]; exact hD9⟩
          · refine lv_iconst (v := iZ (0)) hx hb d_Ty_numberInto_142 (by decide +kernel) ?_
            refine lv_goto (tgt := 148) hx hb d_Ty_numberInto_143 (by decide) ?_
            refine va_put (D := D) (ci := 1) (v := .int (iZ 0)) (ty := .int) (C := R_Ra) (T := F_Ra) (N := 3) hx hb hts i_Ra t_Ra t_Ra_ok n_Ra hown hK hP hD hS 2 rfl rfl 0 (by decide) (hts _ (big_in mw_191 rfl)) (fun _ h9 => h9) rfl (by decide +kernel) rfl rfl (Nat.le_of_ble_eq_true rfl) d_Ty_numberInto_148 (fun H locs hP hD hS => ?_)
            have hP : va_P D cls0 [(hy, .inr (5, [.ref ay, .int qc, .int (iZ (jd : Int)), .int ql])), (ay, .inl (cC, 400, .inl fy)), (ra, .inr (1, [.int (iZ 0), .ref h1, .ref h2])), (h1, .inr (0, [.ref a1, .int (iZ (k1 : Int))])), (a1, .inl (cI, n, .inl e1)), (h2, .inr (0, [.ref a2, .int (iZ (k2 : Int))])), (a2, .inl (cI, n, .inl e2))] H := hP
            have hD : va_D A [(hy, .inr (5, [.ref ay, .int qc, .int (iZ (jd : Int)), .int ql])), (ay, .inl (cC, 400, .inl fy)), (ra, .inr (1, [.int (iZ 0), .ref h1, .ref h2])), (h1, .inr (0, [.ref a1, .int (iZ (k1 : Int))])), (a1, .inl (cI, n, .inl e1)), (h2, .inr (0, [.ref a2, .int (iZ (k2 : Int))])), (a2, .inl (cI, n, .inl e2))] := hD
            have hP9 : va_P D cls0 [(hy, .inr (5, [.ref ay, .int qc, .int (iZ (jd : Int)), .int ql])), (ay, .inl (cC, 400, .inl fy)), (ra, .inr (1, [.int (iZ 0), .ref h1, .ref h2])), (h1, .inr (0, [.ref a1, .int (iZ (k1 : Int))])), (a1, .inl (cI, n, .inl e1)), (h2, .inr (0, [.ref a2, .int (iZ (k2 : Int))])), (a2, .inl (cI, n, .inl e2))] H := hP.sub [0, 1, 2, 3, 4, 5, 6] rfl
            have hD9 : va_D A [(hy, .inr (5, [.ref ay, .int qc, .int (iZ (jd : Int)), .int ql])), (ay, .inl (cC, 400, .inl fy)), (ra, .inr (1, [.int (iZ 0), .ref h1, .ref h2])), (h1, .inr (0, [.ref a1, .int (iZ (k1 : Int))])), (a1, .inl (cI, n, .inl e1)), (h2, .inr (0, [.ref a2, .int (iZ (k2 : Int))])), (a2, .inl (cI, n, .inl e2))] := hD.sub [0, 1, 2, 3, 4, 5, 6] (by decide) rfl
            rw [hQ, ← hAe]
            refine r_v K (0, k1, e1, k2, e2) hS d_Ty_numberInto_151 ?_ (fun t ht hv => ?_)
            · try dsimp only
              have ei : i = jd := by omega
              subst ei
              obtain ⟨x1, x2⟩ := NI.fin hU iN
              rw [x1] at p1
              rw [x2] at p2
              refine ⟨rfl, p1, p2, ?_⟩
              have hp := p1.pos
              have hf : frm tx i = 1 ↔ tx 0 = 45 := by unfold frm; split <;> omega
              first | (rw [if_pos (by omega)]) | (rw [if_neg (by omega), if_pos (by omega)]) | (rw [if_neg (by omega), if_neg (by omega)])
            · exact ⟨by rw [ht]; exact hP9, va_K.moved hv hK, by rw [← hAe]; exact hD9⟩
      · have hch := hU.ch (i := i) (by omega)
        obtain ⟨hb1, hb2⟩ := NI.bd hU hjd ii iN
        rw [← p1.size] at hb1
        rw [← p2.size] at hb2
        have hpo : po = 0 ∨ po = 1 := by rcases iN with q | q; exact Or.inl q.1; exact Or.inr q.1
        refine lv_aload_n hx hb d_Ty_numberInto_23 rfl (lv_at hl 0 rfl) ?_
        refine va_get (D := D) (ci := 5) (v := .ref ay) (C := R_Ty) (T := F_Ty) (N := 4) hx hb hts i_Ty hown hK hP 0 rfl rfl 0 (by decide) (hts _ (big_in mw_149 rfl)) (fun _ h9 => h9) rfl d_Ty_numberInto_24 ?_
        refine lv_iload hx hb d_Ty_numberInto_27 (lv_at hl 4 rfl) ?_
        refine zz_cald hx hb hK hP 1 0 rfl rfl (i) (by omega) (by omega) (by omega) d_Ty_numberInto_29 ?_
        obtain ⟨hc1, hc2⟩ := htx i (by omega)
        rw [hc1]
        refine lv_istore (lv' := [(5, .int (iZ (tx i : Int))), (0, .ref hy), (1, .ref ra), (2, .int (iZ po)), (3, .ref h1), (4, .int (iZ (i : Int)))]) hx hb d_Ty_numberInto_30 hl (by decide) rfl (fun ls hl => ?_)
        refine lv_iload hx hb d_Ty_numberInto_32 (lv_at hl 0 rfl) ?_
        refine lv_bipush (v := iZ (46)) hx hb d_Ty_numberInto_34 (by decide +kernel) ?_
        refine zz_icmp_ne (tgt := 44) hx hb d_Ty_numberInto_36 (by decide) (by omega) (by omega) (fun c36 => ?_) (fun c36 => ?_)
        · refine lv_iload hx hb d_Ty_numberInto_44 (lv_at hl 0 rfl) ?_
          refine lv_bipush (v := iZ (47)) hx hb d_Ty_numberInto_46 (by decide +kernel) ?_
          refine zz_icmp_ne (tgt := 64) hx hb d_Ty_numberInto_48 (by decide) (by omega) (by omega) (fun c48 => ?_) (fun c48 => ?_)
          · refine lv_iload hx hb d_Ty_numberInto_64 (lv_at hl 0 rfl) ?_
            refine lv_bipush (v := iZ (45)) hx hb d_Ty_numberInto_66 (by decide +kernel) ?_
            refine zz_icmp_eq (tgt := 100) hx hb d_Ty_numberInto_68 (by decide) (by omega) (by omega) (fun c68 => ?_) (fun c68 => ?_)
            · refine lv_iinc (v := iZ ((i : Int) + 1)) (lv' := [(4, .int (iZ ((i : Int) + 1))), (5, .int (iZ (tx i : Int))), (0, .ref hy), (1, .ref ra), (2, .int (iZ po)), (3, .ref h1)]) hx hb d_Ty_numberInto_100 hl (k := 5) rfl (iZ_add _ _) (by decide) rfl (fun ls hl => ?_)
              refine lv_goto (tgt := 14) hx hb d_Ty_numberInto_103 (by decide) ?_
              rw [show ((i : Int) + 1 : Int) = ((i + 1 : Nat) : Int) by omega] at hl
              exact ih (i + 1) po k1 e1 k2 e2 VA VB _ _ _ (by omega) (by omega) p1 p2 (NI.minus hU (by omega) iN (by omega)) (hP.sub (ws' := [(hy, .inr (5, [.ref ay, .int qc, .int (iZ (jd : Int)), .int ql])), (ay, .inl (cC, 400, .inl fy)), (ra, .inr (1, [.int (iZ 0), .ref h1, .ref h2])), (h1, .inr (0, [.ref a1, .int (iZ (k1 : Int))])), (a1, .inl (cI, n, .inl e1)), (h2, .inr (0, [.ref a2, .int (iZ (k2 : Int))])), (a2, .inl (cI, n, .inl e2))]) [0, 1, 2, 3, 4, 5, 6] rfl) (hD.sub (ws' := [(hy, .inr (5, [.ref ay, .int qc, .int (iZ (jd : Int)), .int ql])), (ay, .inl (cC, 400, .inl fy)), (ra, .inr (1, [.int (iZ 0), .ref h1, .ref h2])), (h1, .inr (0, [.ref a1, .int (iZ (k1 : Int))])), (a1, .inl (cI, n, .inl e1)), (h2, .inr (0, [.ref a2, .int (iZ (k2 : Int))])), (a2, .inl (cI, n, .inl e2))]) [0, 1, 2, 3, 4, 5, 6] (by decide) rfl) hS (lv_sub hl [2, 3, 4, 5, 0] rfl)
            · refine lv_aload_n hx hb d_Ty_numberInto_71 rfl (lv_at hl 4 rfl) ?_
              refine lv_bipush (v := iZ (10)) hx hb d_Ty_numberInto_72 (by decide +kernel) ?_
              refine lv_iload hx hb d_Ty_numberInto_74 (lv_at hl 0 rfl) ?_
              refine lv_bipush (v := iZ (48)) hx hb d_Ty_numberInto_76 (by decide +kernel) ?_
              refine zz_isub hx hb d_Ty_numberInto_78 ?_
              rw [show ((tx i : Int) - 48 : Int) = ((tx i - 48 : Nat) : Int) by omega]
              refine cv (n := 2) (wr := [(hy, .inr (5, [.ref ay, .int qc, .int (iZ (jd : Int)), .int ql])), (ay, .inl (cC, 400, .inl fy)), (ra, .inr (1, [.int (iZ 0), .ref h1, .ref h2])), (h2, .inr (0, [.ref a2, .int (iZ (k2 : Int))])), (a2, .inl (cI, n, .inl e2))]) (w1 := (fun (u : Nat × (Nat → Int32)) => [(h1, .inr (0, [.ref a1, .int (iZ (u.1 : Int))])), (a1, .inl (cI, n, .inl u.2))])) (As := [.int (iZ 10), .int (iZ ((tx i - 48 : Nat) : Int))]) (rest := []) K hP hD hK hS hA hl.1 (c_Wh_scale l D h1 a1 k1 n e1 cI VA 10 (tx i - 48) H.size p1 (by omega) (by omega) (by omega) (by omega)) [3, 4] [0, 1, 2, 5, 6] [1] rfl rfl rfl (by decide) (by decide) (by decide) 0 rfl rfl (big_in mw_956 rfl) (big_in mw_6 rfl) (big_in mw_1079 rfl) (big_in mw_954 rfl) (big_in mw_955 rfl) rfl rfl (by decide +kernel) ⟨by rw [hR]; exact Nat.le_of_ble_eq_true rfl, by rw [hR]; exact Nat.le_of_ble_eq_true rfl⟩ rfl (Nat.le_of_ble_eq_true rfl) d_Ty_numberInto_79 ⟨by rw [hR]; exact Nat.le_of_ble_eq_true rfl, by rw [hR]; exact Nat.le_of_ble_eq_true rfl⟩ rfl (fun v u H locs hp4 hP hD hS _ => ?_)
              obtain ⟨us1, gs1⟩ := u
              try dsimp only at hp4
              obtain ⟨rfl, y1, y2⟩ := hp4
              have hP : va_P D cls0 [(hy, .inr (5, [.ref ay, .int qc, .int (iZ (jd : Int)), .int ql])), (ay, .inl (cC, 400, .inl fy)), (ra, .inr (1, [.int (iZ 0), .ref h1, .ref h2])), (h2, .inr (0, [.ref a2, .int (iZ (k2 : Int))])), (a2, .inl (cI, n, .inl e2)), (h1, .inr (0, [.ref a1, .int (iZ (us1 : Int))])), (a1, .inl (cI, n, .inl gs1))] H := hP
              have hD : va_D A [(hy, .inr (5, [.ref ay, .int qc, .int (iZ (jd : Int)), .int ql])), (ay, .inl (cC, 400, .inl fy)), (ra, .inr (1, [.int (iZ 0), .ref h1, .ref h2])), (h2, .inr (0, [.ref a2, .int (iZ (k2 : Int))])), (a2, .inl (cI, n, .inl e2)), (h1, .inr (0, [.ref a1, .int (iZ (us1 : Int))])), (a1, .inl (cI, n, .inl gs1))] := hD
              show W p l e R s m args below meth c H locs _ _ Q (F0 m 82 ls [])
              refine lv_aload_n hx hb d_Ty_numberInto_82 rfl (lv_at hl 2 rfl) ?_
              refine va_get (D := D) (ci := 1) (v := .ref h2) (C := R_Ra) (T := F_Ra) (N := 3) hx hb hts i_Ra hown hK hP 2 rfl rfl 2 (by decide) (hts _ (big_in mw_203 rfl)) (fun _ h9 => h9) rfl d_Ty_numberInto_83 ?_
              refine lv_iload_n hx hb d_Ty_numberInto_86 rfl (lv_at hl 3 rfl) ?_
              refine zz_if_eq (tgt := 95) hx hb d_Ty_numberInto_87 (by decide) (by omega) (fun c87 => ?_) (fun c87 => ?_)
              · refine lv_iconst (v := iZ (1)) hx hb d_Ty_numberInto_95 (by decide +kernel) ?_
                refine lv_iconst (v := iZ (0)) hx hb d_Ty_numberInto_96 (by decide +kernel) ?_
                refine cv (n := 2) (wr := [(hy, .inr (5, [.ref ay, .int qc, .int (iZ (jd : Int)), .int ql])), (ay, .inl (cC, 400, .inl fy)), (ra, .inr (1, [.int (iZ 0), .ref h1, .ref h2])), (h1, .inr (0, [.ref a1, .int (iZ (us1 : Int))])), (a1, .inl (cI, n, .inl gs1))]) (w1 := (fun (u : Nat × (Nat → Int32)) => [(h2, .inr (0, [.ref a2, .int (iZ (u.1 : Int))])), (a2, .inl (cI, n, .inl u.2))])) (As := [.int (iZ 1), .int (iZ 0)]) (rest := []) K hP hD hK hS hA hl.1 (c_Wh_scale l D h2 a2 k2 n e2 cI VB 1 0 H.size p2 (by omega) (by omega) (by omega) (by omega)) [3, 4] [0, 1, 2, 5, 6] [1] rfl rfl rfl (by decide) (by decide) (by decide) 0 rfl rfl (big_in mw_956 rfl) (big_in mw_6 rfl) (big_in mw_1079 rfl) (big_in mw_954 rfl) (big_in mw_955 rfl) rfl rfl (by decide +kernel) ⟨by rw [hR]; exact Nat.le_of_ble_eq_true rfl, by rw [hR]; exact Nat.le_of_ble_eq_true rfl⟩ rfl (Nat.le_of_ble_eq_true rfl) d_Ty_numberInto_97 ⟨by rw [hR]; exact Nat.le_of_ble_eq_true rfl, by rw [hR]; exact Nat.le_of_ble_eq_true rfl⟩ rfl (fun v u H locs hp5 hP hD hS _ => ?_)
                obtain ⟨us2, gs2⟩ := u
                try dsimp only at hp5
                obtain ⟨rfl, y3, y4⟩ := hp5
                have hP : va_P D cls0 [(hy, .inr (5, [.ref ay, .int qc, .int (iZ (jd : Int)), .int ql])), (ay, .inl (cC, 400, .inl fy)), (ra, .inr (1, [.int (iZ 0), .ref h1, .ref h2])), (h1, .inr (0, [.ref a1, .int (iZ (us1 : Int))])), (a1, .inl (cI, n, .inl gs1)), (h2, .inr (0, [.ref a2, .int (iZ (us2 : Int))])), (a2, .inl (cI, n, .inl gs2))] H := hP
                have hD : va_D A [(hy, .inr (5, [.ref ay, .int qc, .int (iZ (jd : Int)), .int ql])), (ay, .inl (cC, 400, .inl fy)), (ra, .inr (1, [.int (iZ 0), .ref h1, .ref h2])), (h1, .inr (0, [.ref a1, .int (iZ (us1 : Int))])), (a1, .inl (cI, n, .inl gs1)), (h2, .inr (0, [.ref a2, .int (iZ (us2 : Int))])), (a2, .inl (cI, n, .inl gs2))] := hD
                show W p l e R s m args below meth c H locs _ _ Q (F0 m 100 ls [])
                refine lv_iinc (v := iZ ((i : Int) + 1)) (lv' := [(4, .int (iZ ((i : Int) + 1))), (5, .int (iZ (tx i : Int))), (0, .ref hy), (1, .ref ra), (2, .int (iZ po)), (3, .ref h1)]) hx hb d_Ty_numberInto_100 hl (k := 5) rfl (iZ_add _ _) (by decide) rfl (fun ls hl => ?_)
                refine lv_goto (tgt := 14) hx hb d_Ty_numberInto_103 (by decide) ?_
                rw [show ((i : Int) + 1 : Int) = ((i + 1 : Nat) : Int) by omega] at hl
                exact ih (i + 1) po us1 gs1 us2 gs2 (VA * 10 + (tx i - 48)) (VB * 1 + 0) _ _ _ (by omega) (by omega) y1 y3 ((NI.fig hU (by omega) iN (by omega)).1 (by omega)) (hP.sub (ws' := [(hy, .inr (5, [.ref ay, .int qc, .int (iZ (jd : Int)), .int ql])), (ay, .inl (cC, 400, .inl fy)), (ra, .inr (1, [.int (iZ 0), .ref h1, .ref h2])), (h1, .inr (0, [.ref a1, .int (iZ (us1 : Int))])), (a1, .inl (cI, n, .inl gs1)), (h2, .inr (0, [.ref a2, .int (iZ (us2 : Int))])), (a2, .inl (cI, n, .inl gs2))]) [0, 1, 2, 3, 4, 5, 6] rfl) (hD.sub (ws' := [(hy, .inr (5, [.ref ay, .int qc, .int (iZ (jd : Int)), .int ql])), (ay, .inl (cC, 400, .inl fy)), (ra, .inr (1, [.int (iZ 0), .ref h1, .ref h2])), (h1, .inr (0, [.ref a1, .int (iZ (us1 : Int))])), (a1, .inl (cI, n, .inl gs1)), (h2, .inr (0, [.ref a2, .int (iZ (us2 : Int))])), (a2, .inl (cI, n, .inl gs2))]) [0, 1, 2, 3, 4, 5, 6] (by decide) rfl) hS (lv_sub hl [2, 3, 4, 5, 0] rfl)
              · refine lv_bipush (v := iZ (10)) hx hb d_Ty_numberInto_90 (by decide +kernel) ?_
                refine lv_goto (tgt := 96) hx hb d_Ty_numberInto_92 (by decide) ?_
                refine lv_iconst (v := iZ (0)) hx hb d_Ty_numberInto_96 (by decide +kernel) ?_
                refine cv (n := 2) (wr := [(hy, .inr (5, [.ref ay, .int qc, .int (iZ (jd : Int)), .int ql])), (ay, .inl (cC, 400, .inl fy)), (ra, .inr (1, [.int (iZ 0), .ref h1, .ref h2])), (h1, .inr (0, [.ref a1, .int (iZ (us1 : Int))])), (a1, .inl (cI, n, .inl gs1))]) (w1 := (fun (u : Nat × (Nat → Int32)) => [(h2, .inr (0, [.ref a2, .int (iZ (u.1 : Int))])), (a2, .inl (cI, n, .inl u.2))])) (As := [.int (iZ 10), .int (iZ 0)]) (rest := []) K hP hD hK hS hA hl.1 (c_Wh_scale l D h2 a2 k2 n e2 cI VB 10 0 H.size p2 (by omega) (by omega) (by omega) (by omega)) [3, 4] [0, 1, 2, 5, 6] [1] rfl rfl rfl (by decide) (by decide) (by decide) 0 rfl rfl (big_in mw_956 rfl) (big_in mw_6 rfl) (big_in mw_1079 rfl) (big_in mw_954 rfl) (big_in mw_955 rfl) rfl rfl (by decide +kernel) ⟨by rw [hR]; exact Nat.le_of_ble_eq_true rfl, by rw [hR]; exact Nat.le_of_ble_eq_true rfl⟩ rfl (Nat.le_of_ble_eq_true rfl) d_Ty_numberInto_97 ⟨by rw [hR]; exact Nat.le_of_ble_eq_true rfl, by rw [hR]; exact Nat.le_of_ble_eq_true rfl⟩ rfl (fun v u H locs hp6 hP hD hS _ => ?_)
                obtain ⟨us2, gs2⟩ := u
                try dsimp only at hp6
                obtain ⟨rfl, y3, y4⟩ := hp6
                have hP : va_P D cls0 [(hy, .inr (5, [.ref ay, .int qc, .int (iZ (jd : Int)), .int ql])), (ay, .inl (cC, 400, .inl fy)), (ra, .inr (1, [.int (iZ 0), .ref h1, .ref h2])), (h1, .inr (0, [.ref a1, .int (iZ (us1 : Int))])), (a1, .inl (cI, n, .inl gs1)), (h2, .inr (0, [.ref a2, .int (iZ (us2 : Int))])), (a2, .inl (cI, n, .inl gs2))] H := hP
                have hD : va_D A [(hy, .inr (5, [.ref ay, .int qc, .int (iZ (jd : Int)), .int ql])), (ay, .inl (cC, 400, .inl fy)), (ra, .inr (1, [.int (iZ 0), .ref h1, .ref h2])), (h1, .inr (0, [.ref a1, .int (iZ (us1 : Int))])), (a1, .inl (cI, n, .inl gs1)), (h2, .inr (0, [.ref a2, .int (iZ (us2 : Int))])), (a2, .inl (cI, n, .inl gs2))] := hD
                show W p l e R s m args below meth c H locs _ _ Q (F0 m 100 ls [])
                refine lv_iinc (v := iZ ((i : Int) + 1)) (lv' := [(4, .int (iZ ((i : Int) + 1))), (5, .int (iZ (tx i : Int))), (0, .ref hy), (1, .ref ra), (2, .int (iZ po)), (3, .ref h1)]) hx hb d_Ty_numberInto_100 hl (k := 5) rfl (iZ_add _ _) (by decide) rfl (fun ls hl => ?_)
                refine lv_goto (tgt := 14) hx hb d_Ty_numberInto_103 (by decide) ?_
                rw [show ((i : Int) + 1 : Int) = ((i + 1 : Nat) : Int) by omega] at hl
                exact ih (i + 1) po us1 gs1 us2 gs2 (VA * 10 + (tx i - 48)) (VB * 10 + 0) _ _ _ (by omega) (by omega) y1 y3 ((NI.fig hU (by omega) iN (by omega)).2 (by omega)) (hP.sub (ws' := [(hy, .inr (5, [.ref ay, .int qc, .int (iZ (jd : Int)), .int ql])), (ay, .inl (cC, 400, .inl fy)), (ra, .inr (1, [.int (iZ 0), .ref h1, .ref h2])), (h1, .inr (0, [.ref a1, .int (iZ (us1 : Int))])), (a1, .inl (cI, n, .inl gs1)), (h2, .inr (0, [.ref a2, .int (iZ (us2 : Int))])), (a2, .inl (cI, n, .inl gs2))]) [0, 1, 2, 3, 4, 5, 6] rfl) (hD.sub (ws' := [(hy, .inr (5, [.ref ay, .int qc, .int (iZ (jd : Int)), .int ql])), (ay, .inl (cC, 400, .inl fy)), (ra, .inr (1, [.int (iZ 0), .ref h1, .ref h2])), (h1, .inr (0, [.ref a1, .int (iZ (us1 : Int))])), (a1, .inl (cI, n, .inl gs1)), (h2, .inr (0, [.ref a2, .int (iZ (us2 : Int))])), (a2, .inl (cI, n, .inl gs2))]) [0, 1, 2, 3, 4, 5, 6] (by decide) rfl) hS (lv_sub hl [2, 3, 4, 5, 0] rfl)
          · refine lv_aload_n hx hb d_Ty_numberInto_51 rfl (lv_at hl 2 rfl) ?_
            refine va_get (D := D) (ci := 1) (v := .ref h2) (C := R_Ra) (T := F_Ra) (N := 3) hx hb hts i_Ra hown hK hP 2 rfl rfl 2 (by decide) (hts _ (big_in mw_203 rfl)) (fun _ h9 => h9) rfl d_Ty_numberInto_52 ?_
            refine lv_astore_n (lv' := [(3, .ref h2), (5, .int (iZ (tx i : Int))), (0, .ref hy), (1, .ref ra), (2, .int (iZ po)), (4, .int (iZ (i : Int)))]) hx hb d_Ty_numberInto_55 rfl hl (by decide) rfl (fun ls hl => ?_)
            refine lv_aload_n hx hb d_Ty_numberInto_56 rfl (lv_at hl 0 rfl) ?_
            refine lv_lconst (v := lZ (0)) hx hb d_Ty_numberInto_57 (by decide +kernel) ?_
            refine cv (n := 1) (wr := [(hy, .inr (5, [.ref ay, .int qc, .int (iZ (jd : Int)), .int ql])), (ay, .inl (cC, 400, .inl fy)), (ra, .inr (1, [.int (iZ 0), .ref h1, .ref h2])), (h1, .inr (0, [.ref a1, .int (iZ (k1 : Int))])), (a1, .inl (cI, n, .inl e1))]) (w1 := (fun (u : Nat × (Nat → Int32)) => [(h2, .inr (0, [.ref a2, .int (iZ (u.1 : Int))])), (a2, .inl (cI, n, .inl u.2))])) (As := [.long (lZ 0)]) (rest := []) K hP hD hK hS hA hl.1 (c_Wh_becomeLong l D h2 a2 (iZ (k2 : Int)) n e2 cI 0 H.size (by omega) (by omega) (by omega)) [5, 6] [0, 1, 2, 3, 4] [1] rfl rfl rfl (by decide) (by decide) (by decide) 0 rfl rfl (big_in mw_381 rfl) (big_in mw_6 rfl) (big_in mw_1078 rfl) (big_in mw_379 rfl) (big_in mw_380 rfl) rfl rfl (by decide +kernel) ⟨by rw [hR]; exact Nat.le_of_ble_eq_true rfl, by rw [hR]; exact Nat.le_of_ble_eq_true rfl⟩ rfl (Nat.le_of_ble_eq_true rfl) d_Ty_numberInto_58 ⟨by rw [hR]; exact Nat.le_of_ble_eq_true rfl, by rw [hR]; exact Nat.le_of_ble_eq_true rfl⟩ rfl (fun v u H locs hp7 hP hD hS _ => ?_)
            obtain ⟨uz, gz⟩ := u
            try dsimp only at hp7
            obtain ⟨rfl, z1, z2⟩ := hp7
            have hP : va_P D cls0 [(hy, .inr (5, [.ref ay, .int qc, .int (iZ (jd : Int)), .int ql])), (ay, .inl (cC, 400, .inl fy)), (ra, .inr (1, [.int (iZ 0), .ref h1, .ref h2])), (h1, .inr (0, [.ref a1, .int (iZ (k1 : Int))])), (a1, .inl (cI, n, .inl e1)), (h2, .inr (0, [.ref a2, .int (iZ (uz : Int))])), (a2, .inl (cI, n, .inl gz))] H := hP
            have hD : va_D A [(hy, .inr (5, [.ref ay, .int qc, .int (iZ (jd : Int)), .int ql])), (ay, .inl (cC, 400, .inl fy)), (ra, .inr (1, [.int (iZ 0), .ref h1, .ref h2])), (h1, .inr (0, [.ref a1, .int (iZ (k1 : Int))])), (a1, .inl (cI, n, .inl e1)), (h2, .inr (0, [.ref a2, .int (iZ (uz : Int))])), (a2, .inl (cI, n, .inl gz))] := hD
            show W p l e R s m args below meth c H locs _ _ Q (F0 m 61 ls [])
            refine lv_goto (tgt := 100) hx hb d_Ty_numberInto_61 (by decide) ?_
            refine lv_iinc (v := iZ ((i : Int) + 1)) (lv' := [(4, .int (iZ ((i : Int) + 1))), (3, .ref h2), (5, .int (iZ (tx i : Int))), (0, .ref hy), (1, .ref ra), (2, .int (iZ po))]) hx hb d_Ty_numberInto_100 hl (k := 5) rfl (iZ_add _ _) (by decide) rfl (fun ls hl => ?_)
            refine lv_goto (tgt := 14) hx hb d_Ty_numberInto_103 (by decide) ?_
            obtain ⟨hp0, -⟩ := NI.stroke hU (by omega) iN (by omega)
            subst hp0
            rw [show ((i : Int) + 1 : Int) = ((i + 1 : Nat) : Int) by omega] at hl
            exact L14b _ (i + 1) k1 e1 uz gz VA 0 _ _ _ (Nat.lt_succ_self _) (by omega) p1 z1 (by have q := NI.stroke hU (by omega) iN (by omega); exact q.2) (hP.sub (ws' := [(hy, .inr (5, [.ref ay, .int qc, .int (iZ (jd : Int)), .int ql])), (ay, .inl (cC, 400, .inl fy)), (ra, .inr (1, [.int (iZ 0), .ref h1, .ref h2])), (h1, .inr (0, [.ref a1, .int (iZ (k1 : Int))])), (a1, .inl (cI, n, .inl e1)), (h2, .inr (0, [.ref a2, .int (iZ (uz : Int))])), (a2, .inl (cI, n, .inl gz))]) [0, 1, 2, 3, 4, 5, 6] rfl) (hD.sub (ws' := [(hy, .inr (5, [.ref ay, .int qc, .int (iZ (jd : Int)), .int ql])), (ay, .inl (cC, 400, .inl fy)), (ra, .inr (1, [.int (iZ 0), .ref h1, .ref h2])), (h1, .inr (0, [.ref a1, .int (iZ (k1 : Int))])), (a1, .inl (cI, n, .inl e1)), (h2, .inr (0, [.ref a2, .int (iZ (uz : Int))])), (a2, .inl (cI, n, .inl gz))]) [0, 1, 2, 3, 4, 5, 6] (by decide) rfl) hS (lv_sub hl [3, 4, 5, 1, 0] rfl)
        · refine lv_iconst (v := iZ (1)) hx hb d_Ty_numberInto_39 (by decide +kernel) ?_
          refine lv_istore_n (lv' := [(2, .int (iZ 1)), (5, .int (iZ (tx i : Int))), (0, .ref hy), (1, .ref ra), (3, .ref h1), (4, .int (iZ (i : Int)))]) hx hb d_Ty_numberInto_40 rfl hl (by decide) rfl (fun ls hl => ?_)
          refine lv_goto (tgt := 100) hx hb d_Ty_numberInto_41 (by decide) ?_
          refine lv_iinc (v := iZ ((i : Int) + 1)) (lv' := [(4, .int (iZ ((i : Int) + 1))), (2, .int (iZ 1)), (5, .int (iZ (tx i : Int))), (0, .ref hy), (1, .ref ra), (3, .ref h1)]) hx hb d_Ty_numberInto_100 hl (k := 5) rfl (iZ_add _ _) (by decide) rfl (fun ls hl => ?_)
          refine lv_goto (tgt := 14) hx hb d_Ty_numberInto_103 (by decide) ?_
          rw [show ((i : Int) + 1 : Int) = ((i + 1 : Nat) : Int) by omega] at hl
          exact ih (i + 1) 1 k1 e1 k2 e2 VA VB _ _ _ (by omega) (by omega) p1 p2 (NI.point hU (by omega) iN (by omega)) (hP.sub (ws' := [(hy, .inr (5, [.ref ay, .int qc, .int (iZ (jd : Int)), .int ql])), (ay, .inl (cC, 400, .inl fy)), (ra, .inr (1, [.int (iZ 0), .ref h1, .ref h2])), (h1, .inr (0, [.ref a1, .int (iZ (k1 : Int))])), (a1, .inl (cI, n, .inl e1)), (h2, .inr (0, [.ref a2, .int (iZ (k2 : Int))])), (a2, .inl (cI, n, .inl e2))]) [0, 1, 2, 3, 4, 5, 6] rfl) (hD.sub (ws' := [(hy, .inr (5, [.ref ay, .int qc, .int (iZ (jd : Int)), .int ql])), (ay, .inl (cC, 400, .inl fy)), (ra, .inr (1, [.int (iZ 0), .ref h1, .ref h2])), (h1, .inr (0, [.ref a1, .int (iZ (k1 : Int))])), (a1, .inl (cI, n, .inl e1)), (h2, .inr (0, [.ref a2, .int (iZ (k2 : Int))])), (a2, .inl (cI, n, .inl e2))]) [0, 1, 2, 3, 4, 5, 6] (by decide) rfl) hS (lv_sub hl [3, 4, 1, 5, 0] rfl)
  exact L14a _ 0 0 ub1 gb1 ub2 gb2 0 1 _ _ _ (Nat.lt_succ_self _) (by omega) b1 b3 (Or.inl ⟨rfl, by omega, by rw [dva_z (Nat.zero_le _)], rfl⟩) (hP.sub (ws' := [(hy, .inr (5, [.ref ay, .int qc, .int (iZ (jd : Int)), .int ql])), (ay, .inl (cC, 400, .inl fy)), (ra, .inr (1, [.int (iZ 0), .ref h1, .ref h2])), (h1, .inr (0, [.ref a1, .int (iZ (ub1 : Int))])), (a1, .inl (cI, n, .inl gb1)), (h2, .inr (0, [.ref a2, .int (iZ (ub2 : Int))])), (a2, .inl (cI, n, .inl gb2))]) [0, 1, 2, 3, 4, 5, 6] rfl) (hD.sub (ws' := [(hy, .inr (5, [.ref ay, .int qc, .int (iZ (jd : Int)), .int ql])), (ay, .inl (cC, 400, .inl fy)), (ra, .inr (1, [.int (iZ 0), .ref h1, .ref h2])), (h1, .inr (0, [.ref a1, .int (iZ (ub1 : Int))])), (a1, .inl (cI, n, .inl gb1)), (h2, .inr (0, [.ref a2, .int (iZ (ub2 : Int))])), (a2, .inl (cI, n, .inl gb2))]) [0, 1, 2, 3, 4, 5, 6] (by decide) rfl) hS (lv_sub hl [3, 4, 2, 1, 0] rfl)
