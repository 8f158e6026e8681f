/-! THE REFERENCE: numbers in base 10000 -/
def tB (n : Nat) : Nat := 10000 ^ n
theorem tB_0 : tB 0 = 1 := rfl
theorem tB_s (n : Nat) : tB (n + 1) = tB n * 10000 := Nat.pow_succ ..
theorem tB_pos (n : Nat) : 0 < tB n := Nat.pow_pos (by decide)
theorem tB_add (a b : Nat) : tB (a + b) = tB a * tB b := Nat.pow_add ..
theorem tB_le {a b : Nat} (h : a ≤ b) : tB a ≤ tB b := Nat.pow_le_pow_right (by decide) h
/-- the figure of place i in base 10000 -/
def dz (v i : Nat) : Nat := v / tB i % 10000
def ndG : Nat → Nat → Nat
  | 0, _ => 0
  | f + 1, v => if v = 0 then 0 else ndG f (v / 10000) + 1
/-- how many places -/
def nd (v : Nat) : Nat := ndG (v.log2 + 1) v
theorem ndG_le : ∀ {f v n : Nat}, v < 2 ^ f → (ndG f v ≤ n ↔ v < tB n)
  | 0, v, n, h => by
    have h0 : v = 0 := by rw [Nat.pow_zero] at h; omega
    subst h0
    exact ⟨fun _ => tB_pos n, fun _ => Nat.zero_le _⟩
  | f + 1, v, n, h => by
    unfold ndG
    by_cases h0 : v = 0
    · subst h0; rw [if_pos rfl]; exact ⟨fun _ => tB_pos n, fun _ => Nat.zero_le _⟩
    · rw [if_neg h0]
      cases n with
      | zero => rw [tB_0]; omega
      | succ n =>
        have h1 : v / 10000 < 2 ^ f := by rw [Nat.pow_succ] at h; omega
        have := ndG_le (f := f) (v := v / 10000) (n := n) h1
        rw [tB_s, ← Nat.div_lt_iff_lt_mul (by decide), ← this]
        omega
theorem nd_le {v n : Nat} : nd v ≤ n ↔ v < tB n := ndG_le (by
  by_cases h : v = 0
  · subst h; decide
  · exact (Nat.log2_lt h).mp (Nat.lt_succ_self _))
theorem nd_lt {v n : Nat} : n < nd v ↔ tB n ≤ v := by
  have := @nd_le v n
  constructor
  · intro h; exact Nat.le_of_not_lt (fun q => by have := this.mpr q; omega)
  · intro h; exact Nat.lt_of_not_le (fun q => by have := this.mp q; omega)
theorem nd_self (v : Nat) : v < tB (nd v) := nd_le.mp (Nat.le_refl _)
theorem nd_mono {a b : Nat} (h : a ≤ b) : nd a ≤ nd b := nd_le.mpr (Nat.lt_of_le_of_lt h (nd_self b))
theorem nd_0 : nd 0 = 0 := rfl
theorem nd_pos {v : Nat} : 0 < nd v ↔ 0 < v := by rw [nd_lt, tB_0]; omega
theorem nd_mul (a b : Nat) : nd (a * b) ≤ nd a + nd b := nd_le.mpr (by
  rw [tB_add]
  exact Nat.mul_lt_mul'' (nd_self a) (nd_self b))
theorem nd_add (a b : Nat) : nd (a + b) ≤ max (nd a) (nd b) + 1 := nd_le.mpr (by
  have h1 : a < tB (max (nd a) (nd b)) := Nat.lt_of_lt_of_le (nd_self a) (tB_le (Nat.le_max_left _ _))
  have h2 : b < tB (max (nd a) (nd b)) := Nat.lt_of_lt_of_le (nd_self b) (tB_le (Nat.le_max_right _ _))
  rw [tB_s]; omega)
theorem nd_bits {v b : Nat} (h : v < 2 ^ b) : nd v ≤ b / 13 + 1 := nd_le.mpr (by
  refine Nat.lt_of_lt_of_le h ?_
  have h1 : 2 ^ b ≤ 2 ^ (13 * (b / 13 + 1)) := Nat.pow_le_pow_right (by decide) (by omega)
  refine Nat.le_trans h1 ?_
  rw [Nat.pow_mul]
  exact Nat.pow_le_pow_left (by decide) _)
theorem dz_lt (v i : Nat) : dz v i < 10000 := Nat.mod_lt _ (by decide)
theorem dz_hi {v i : Nat} (h : nd v ≤ i) : dz v i = 0 := by
  unfold dz
  rw [Nat.div_eq_of_lt (nd_le.mp h)]
theorem dz_z (i : Nat) : dz 0 i = 0 := by unfold dz; rw [Nat.zero_div]
theorem md_s (v i : Nat) : v % tB (i + 1) = v % tB i + tB i * dz v i := by
  rw [tB_s, Nat.mod_mul]; rfl
theorem md_full {v n : Nat} (h : nd v ≤ n) : v % tB n = v := Nat.mod_eq_of_lt (nd_le.mp h)
theorem dz_top {v : Nat} (h : 0 < nd v) : dz v (nd v - 1) ≠ 0 := by
  intro q
  have h1 := md_s v (nd v - 1)
  rw [show nd v - 1 + 1 = nd v by omega, md_full (Nat.le_refl _), q, Nat.mul_zero, Nat.add_zero] at h1
  have h3 := Nat.mod_lt v (tB_pos (nd v - 1))
  rw [← h1] at h3
  have h2 : nd v ≤ nd v - 1 := nd_le.mpr h3
  omega
theorem dz_ext {u v : Nat} : ∀ {n : Nat}, (∀ i, i < n → dz u i = dz v i) → u % tB n = v % tB n
  | 0, _ => by rw [tB_0, Nat.mod_one, Nat.mod_one]
  | n + 1, h => by rw [md_s, md_s, dz_ext (n := n) (fun i hi => h i (by omega)), h n (by omega)]
theorem car {T T' x j : Nat} (h : T' = T + tB j * x) : (x + T / tB j) % 10000 = T' / tB j % 10000 ∧ (x + T / tB j) / 10000 = T' / tB (j + 1) := by
  have e : T' / tB j = x + T / tB j := by rw [h, Nat.add_mul_div_left _ _ (tB_pos j), Nat.add_comm]
  refine ⟨by rw [e], ?_⟩
  rw [tB_s, ← Nat.div_div_eq_div_mul, e]
theorem dzT {V T' j : Nat} (h : V % tB (j + 1) = T' % tB (j + 1)) : dz V j = T' / tB j % 10000 := by
  have e : ∀ X, X / tB j % 10000 = X % tB (j + 1) / tB j := fun X => by rw [tB_s, Nat.mod_mul_right_div_self]
  unfold dz
  rw [e, e, h]
/-- u is below v: the highest place where they differ -/
theorem dz_less {u v k n : Nat} (hk : k < n) (hu : u < tB n) (hv : v < tB n) (he : ∀ i, k < i → i < n → dz u i = dz v i) (hl : dz u k < dz v k) : u < v := by
  have key : ∀ m, k < m → m ≤ n → u % tB m < v % tB m := by
    intro m
    induction m with
    | zero => intro h; omega
    | succ m ih =>
      intro h1 h2
      rw [md_s, md_s]
      by_cases q : m = k
      · subst q
        have a1 := Nat.mod_lt u (tB_pos m)
        have a2 : tB m * (dz u m + 1) ≤ tB m * dz v m := Nat.mul_le_mul_left _ hl
        rw [Nat.mul_add, Nat.mul_one] at a2
        omega
      · have := ih (by omega) (by omega)
        rw [he m (by omega) (by omega)]
        omega
  have := key n hk (Nat.le_refl _)
  rw [Nat.mod_eq_of_lt hu, Nat.mod_eq_of_lt hv] at this
  exact this
def aT (u v j : Nat) : Nat := u % tB j + v % tB j
theorem aT_s (u v j : Nat) : aT u v (j + 1) = aT u v j + tB j * (dz u j + dz v j) := by unfold aT; rw [md_s, md_s, Nat.mul_add]; omega
theorem aT_dz (u v j : Nat) : (dz u j + dz v j + aT u v j / tB j) % 10000 = dz (u + v) j := by
  rw [(car (aT_s u v j)).1]
  exact (dzT (by unfold aT; exact Nat.add_mod ..)).symm
theorem aT_c (u v j : Nat) : (dz u j + dz v j + aT u v j / tB j) / 10000 = aT u v (j + 1) / tB (j + 1) := (car (aT_s u v j)).2
theorem aT_lt (u v j : Nat) : aT u v j / tB j < 2 := by
  rw [Nat.div_lt_iff_lt_mul (tB_pos j)]
  have := Nat.mod_lt u (tB_pos j)
  have := Nat.mod_lt v (tB_pos j)
  unfold aT; omega
theorem aT_end {u v n : Nat} (h1 : nd u ≤ n) (h2 : nd v ≤ n) : aT u v n / tB n = dz (u + v) n := by
  have h := aT_lt u v n
  unfold aT at h ⊢
  rw [md_full h1, md_full h2] at h ⊢
  unfold dz
  rw [Nat.mod_eq_of_lt (by omega)]
def sT (v f j : Nat) : Nat := v % tB j * f
theorem sT_s (v f j : Nat) : sT v f (j + 1) = sT v f j + tB j * (dz v j * f) := by unfold sT; rw [md_s, Nat.add_mul, Nat.mul_assoc]
theorem sT_dz (v f j : Nat) : (dz v j * f + sT v f j / tB j) % 10000 = dz (v * f) j := by
  rw [(car (sT_s v f j)).1]
  exact (dzT (by unfold sT; rw [Nat.mod_mul_mod])).symm
theorem sT_c (v f j : Nat) : (dz v j * f + sT v f j / tB j) / 10000 = sT v f (j + 1) / tB (j + 1) := (car (sT_s v f j)).2
theorem sT_lt {v f j : Nat} (hf : 0 < f) : sT v f j / tB j < f := by
  rw [Nat.div_lt_iff_lt_mul (tB_pos j), Nat.mul_comm]
  exact Nat.mul_lt_mul_of_pos_right (Nat.mod_lt _ (tB_pos j)) hf
theorem sT_end {v f j : Nat} (h : nd v ≤ j) : sT v f j / tB j = v * f / tB j := by unfold sT; rw [md_full h]
/-- taking away: the borrow of place j is the carry of adding back -/
theorem tk_dz {u v j : Nat} (h : v ≤ u) : (dz u j : Int) - (dz v j : Int) - ((aT (u - v) v j / tB j : Nat) : Int) = (dz (u - v) j : Int) - 10000 * ((aT (u - v) v (j + 1) / tB (j + 1) : Nat) : Int) := by
  have e1 := aT_dz (u - v) v j
  have e2 := aT_c (u - v) v j
  rw [Nat.sub_add_cancel h] at e1
  omega
def pT (A f C j : Nat) : Nat := A % tB j + f * (C % tB j)
theorem pT_s (A f C j : Nat) : pT A f C (j + 1) = pT A f C j + tB j * (dz A j + f * dz C j) := by
  unfold pT; rw [md_s, md_s, Nat.mul_add, Nat.mul_add, Nat.mul_left_comm f]; omega
theorem pT_m (A f C j : Nat) : (A + f * C) % tB j = pT A f C j % tB j := by
  have h1 : f * (C % tB j) % tB j = f * C % tB j := by rw [Nat.mul_mod, Nat.mod_mod, ← Nat.mul_mod]
  unfold pT; rw [Nat.add_mod A (f * C), Nat.add_mod (A % tB j) (f * (C % tB j)), h1, Nat.mod_mod]
theorem pT_dz (A f C j : Nat) : (dz A j + f * dz C j + pT A f C j / tB j) % 10000 = dz (A + f * C) j := by
  rw [(car (pT_s A f C j)).1]
  exact (dzT (pT_m A f C (j + 1))).symm
theorem pT_c (A f C j : Nat) : (dz A j + f * dz C j + pT A f C j / tB j) / 10000 = pT A f C (j + 1) / tB (j + 1) := (car (pT_s A f C j)).2
theorem pT_lt (A f C j : Nat) : pT A f C j / tB j ≤ f := by
  apply Nat.le_of_lt_succ
  rw [Nat.div_lt_iff_lt_mul (tB_pos j)]
  have h1 := Nat.mod_lt A (tB_pos j)
  have h2 : f * (C % tB j) ≤ f * tB j := Nat.mul_le_mul_left _ (Nat.le_of_lt (Nat.mod_lt C (tB_pos j)))
  unfold pT
  rw [Nat.succ_mul]
  omega
theorem pT_hi {A f C j : Nat} (hC : nd C ≤ j) : (A + f * C) / tB j = A / tB j + pT A f C j / tB j := by
  unfold pT
  rw [md_full hC]
  have h := Nat.div_add_mod A (tB j)
  conv => lhs; rw [← h, Nat.add_assoc, Nat.mul_add_div (tB_pos j)]
theorem dz_shift (v i j : Nat) : dz (v / tB i) j = dz v (i + j) := by unfold dz; rw [Nat.div_div_eq_div_mul, ← tB_add]
theorem dz_low {u v i m : Nat} (h : u % tB i = v % tB i) (hm : m < i) : dz u m = dz v m := by
  have e : ∀ X, dz X m = X % tB i / tB m % 10000 := fun X => by
    unfold dz
    rw [show i = m + 1 + (i - m - 1) by omega, tB_add, tB_s, Nat.mul_assoc, Nat.mod_mul_right_div_self, Nat.mod_mul_right_mod]
  rw [e, e, h]
/-- a product, one more place of the first number -/
theorem pr_s (u C i : Nat) : (u % tB (i + 1)) * C = (u % tB i) * C + tB i * (dz u i * C) := by rw [md_s, Nat.add_mul, Nat.mul_assoc]
theorem pr_div (u C i : Nat) : (u % tB (i + 1)) * C / tB i = (u % tB i) * C / tB i + dz u i * C := by rw [pr_s, Nat.add_mul_div_left _ _ (tB_pos i)]
theorem pr_mod (u C i : Nat) : (u % tB (i + 1)) * C % tB i = (u % tB i) * C % tB i := by rw [pr_s, Nat.add_mul_mod_self_left]
theorem pr_dz (u C i j : Nat) : dz ((u % tB (i + 1)) * C) (i + j) = dz ((u % tB i) * C / tB i + dz u i * C) j := by rw [← pr_div, dz_shift]
theorem pr_lowdz {u C i m : Nat} (hm : m < i) : dz ((u % tB (i + 1)) * C) m = dz ((u % tB i) * C) m := dz_low (pr_mod u C i) hm
theorem pr_le (u C i : Nat) : u % tB i * C ≤ u * C := Nat.mul_le_mul_right _ (Nat.mod_le _ _)
/-- dividing: what is left above place k -/
def rmk (U C k : Nat) : Nat := U % (C * tB k)
theorem rmk_s {U C : Nat} (hC : 0 < C) (k : Nat) : rmk U C (k + 1) = rmk U C k + dz (U / C) k * C * tB k := by
  unfold rmk
  rw [tB_s, ← Nat.mul_assoc, Nat.mod_mul (a := C * tB k) (b := 10000), ← Nat.div_div_eq_div_mul]
  show _ + C * tB k * dz (U / C) k = _
  rw [Nat.mul_comm (C * tB k), Nat.mul_assoc]
theorem rmk_lt {U C : Nat} (hC : 0 < C) (k : Nat) : rmk U C k < C * tB k := Nat.mod_lt _ (Nat.mul_pos hC (tB_pos k))
theorem rmk_0 (U C : Nat) : rmk U C 0 = U % C := by unfold rmk; rw [tB_0, Nat.mul_one]
/-- the guess is not below the figure -/
theorem gs_ge {R C d e : Nat} (h : d * C ≤ R) : d * (C / tB e) ≤ R / tB e := by
  rw [Nat.le_div_iff_mul_le (tB_pos e), Nat.mul_assoc]
  exact Nat.le_trans (Nat.mul_le_mul_left _ (Nat.div_mul_le_self _ _)) h
def hB (n : Nat) : Nat := 65536 ^ n
theorem hB_0 : hB 0 = 1 := rfl
theorem hB_s (n : Nat) : hB (n + 1) = hB n * 65536 := Nat.pow_succ ..
theorem hB_pos (n : Nat) : 0 < hB n := Nat.pow_pos (by decide)
theorem hv_dz (Y k : Nat) : (Y / tB (k + 1) % 65536 * 10000 + dz Y k) / 65536 = dz (Y / 65536) k ∧ (Y / tB (k + 1) % 65536 * 10000 + dz Y k) % 65536 = Y / tB k % 65536 := by
  have e1 : Y / tB k = Y / tB (k + 1) * 10000 + dz Y k := by
    unfold dz
    rw [tB_s, ← Nat.div_div_eq_div_mul]
    omega
  have e2 : dz (Y / 65536) k = Y / tB k / 65536 % 10000 := by unfold dz; rw [Nat.div_div_eq_div_mul, Nat.mul_comm, ← Nat.div_div_eq_div_mul]
  have := dz_lt Y k
  rw [e2]
  omega
/-! the reference's row of work: nine buffers of 12000 places -/
def ovr (fw : Nat → Int32) (b k V : Nat) : Nat → Int32 := fun j => if 12000 * b ≤ j ∧ j < 12000 * b + k then iZ (dz V (j - 12000 * b) : Int) else fw j
theorem ovr_in {fw : Nat → Int32} {b k V i : Nat} (h : i < k) : ovr fw b k V (12000 * b + i) = iZ (dz V i : Int) := by
  unfold ovr; rw [if_pos ⟨by omega, by omega⟩, show 12000 * b + i - 12000 * b = i by omega]
theorem ovr_out {fw : Nat → Int32} {b k V j : Nat} (h : j < 12000 * b ∨ 12000 * b + k ≤ j) : ovr fw b k V j = fw j := if_neg (by omega)
theorem ovr_0 (fw : Nat → Int32) (b V : Nat) : ovr fw b 0 V = fw := by funext j; exact ovr_out (by omega)
theorem ovr_s {fw : Nat → Int32} {b k V : Nat} {x : Int32} (h : x = iZ (dz V k : Int)) : upd (ovr fw b k V) (12000 * b + k) x = ovr fw b (k + 1) V := by
  funext j
  by_cases e : j = 12000 * b + k
  · rw [e, pk_us, ovr_in (by omega), h]
  · rw [pk_un e]
    unfold ovr
    by_cases q : 12000 * b ≤ j ∧ j < 12000 * b + k
    · rw [if_pos q, if_pos (by omega)]
    · rw [if_neg q, if_neg (by omega)]
theorem ovr_two {fw : Nat → Int32} {b k n P Q : Nat} (hk : k ≤ n) (h : ∀ m, k ≤ m → m < n → dz P m = dz Q m) : ovr (ovr fw b n P) b k Q = ovr fw b n Q := by
  funext j
  by_cases q : 12000 * b ≤ j ∧ j < 12000 * b + n
  · obtain ⟨i, rfl⟩ : ∃ i, j = 12000 * b + i := ⟨j - 12000 * b, by omega⟩
    rw [ovr_in (k := n) (V := Q) (by omega)]
    by_cases r : i < k
    · rw [ovr_in r]
    · rw [ovr_out (by omega), ovr_in (by omega), h i (by omega) (by omega)]
  · rw [ovr_out (by omega), ovr_out (by omega), ovr_out (by omega)]
/-- each buffer holds a number -/
def WB (fw fm : Nat → Int32) (val : Nat → Nat) : Prop := ∀ b, b < 9 → fm b = iZ (nd (val b) : Int) ∧ nd (val b) ≤ 12000 ∧ ∀ i, i < nd (val b) → fw (12000 * b + i) = iZ (dz (val b) i : Int)
theorem WB.m {fw fm : Nat → Int32} {val : Nat → Nat} (h : WB fw fm val) {b : Nat} (hb : b < 9) : fm b = iZ (nd (val b) : Int) := (h b hb).1
theorem WB.n {fw fm : Nat → Int32} {val : Nat → Nat} (h : WB fw fm val) {b : Nat} (hb : b < 9) : nd (val b) ≤ 12000 := (h b hb).2.1
theorem WB.d {fw fm : Nat → Int32} {val : Nat → Nat} (h : WB fw fm val) {b i : Nat} (hb : b < 9) (hi : i < nd (val b)) : fw (12000 * b + i) = iZ (dz (val b) i : Int) := (h b hb).2.2 i hi
theorem WB.set {fw fm : Nat → Int32} {val : Nat → Nat} (h : WB fw fm val) {b n V : Nat} (hn : nd V ≤ n) (hn2 : n ≤ 12000) {x : Int32} (hx : x = iZ (nd V : Int)) : WB (ovr fw b n V) (upd fm b x) (up val b V) := by
  intro c hc
  by_cases e : c = b
  · subst e
    rw [pk_us, up_s]
    exact ⟨hx, by omega, fun i hi => ovr_in (by omega)⟩
  · rw [pk_un e, up_n e]
    have hcn := h.n hc
    exact ⟨h.m hc, hcn, fun i hi => by rw [ovr_out (by omega)]; exact h.d hc hi⟩
