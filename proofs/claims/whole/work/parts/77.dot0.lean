/-! DOT -/
theorem rdN_z {a b : Nat} (hb : 0 < b) : rdN a b = 0 ↔ a = 0 := by
  have hg : 0 < Nat.gcd a b := Nat.gcd_pos_of_pos_right _ hb
  have h := dv_split (Nat.gcd_dvd_left a b)
  unfold rdN
  constructor
  · intro q; rw [q, Nat.mul_zero] at h; exact h
  · intro q; subst q; exact Nat.zero_div _
theorem fr_le {t d : Nat} (hd : 0 < d) : t + d ≤ pB (lm t + lm d) := by
  have h1 := lm_self t
  have h2 := lm_self d
  have h3 := lm_pos hd
  rcases Nat.eq_zero_or_pos t with q | q
  · subst q; rw [lm_0, Nat.zero_add, Nat.zero_add]; omega
  · have h4 := lm_pos q
    have e1 : pB (lm t) ≥ 2 := Nat.le_trans (show 2 ≤ pB 1 by decide) (pB_le h4)
    have e2 : pB (lm d) ≥ 2 := Nat.le_trans (show 2 ≤ pB 1 by decide) (pB_le h3)
    rw [pB_add]
    generalize pB (lm t) = X at *
    generalize pB (lm d) = Y at *
    have : 2 * Y ≤ X * Y := Nat.mul_le_mul_right _ e1
    have : X * 2 ≤ X * Y := Nat.mul_le_mul_left _ e2
    omega
/-- the limbs of k registers from a on -/
def nsum (tv bv : Nat → Nat) (a : Nat) : Nat → Nat
  | 0 => 0
  | k + 1 => nsum tv bv a k + (lm (tv (a + k)) + lm (bv (a + k)))
theorem nsum_eq (tv bv : Nat → Nat) (a k : Nat) : ndS tv bv (a + k) = ndS tv bv a + nsum tv bv a k := by
  induction k with
  | zero => rfl
  | succ k ih => rw [← Nat.add_assoc]; show ndS tv bv (a + k) + _ = _ + (nsum tv bv a k + _); rw [ih]; omega
theorem ndS_mono (tv bv : Nat → Nat) (m k : Nat) : ndS tv bv m ≤ ndS tv bv (m + k) := by
  induction k with
  | zero => exact Nat.le_refl _
  | succ k ih => exact Nat.le_trans ih (Nat.le_add_right _ _)
theorem nsum_le (tv bv : Nat → Nat) {a k : Nat} (h : a + k ≤ 32) : nsum tv bv a k ≤ ndS tv bv 32 := by
  have h1 := nsum_eq tv bv a k
  have h2 := ndS_mono tv bv (a + k) (32 - (a + k))
  rw [show a + k + (32 - (a + k)) = 32 by omega] at h2
  omega
/-- the sum of k products: sign, numerator, denominator, in lowest terms -/
def dtS (tv bv : Nat → Nat) (sg : Nat → Int) (a b : Nat) : Nat → Int × Nat × Nat
  | 0 => (0, 0, 1)
  | k + 1 =>
    (((dtS tv bv sg a b k).1 * (((dtS tv bv sg a b k).2.1 * rdD (tv (a + k) * tv (b + k)) (bv (a + k) * bv (b + k)) : Nat) : Int) + sg (a + k) * sg (b + k) * ((rdN (tv (a + k) * tv (b + k)) (bv (a + k) * bv (b + k)) * (dtS tv bv sg a b k).2.2 : Nat) : Int)).sign,
     rdN ((dtS tv bv sg a b k).1 * (((dtS tv bv sg a b k).2.1 * rdD (tv (a + k) * tv (b + k)) (bv (a + k) * bv (b + k)) : Nat) : Int) + sg (a + k) * sg (b + k) * ((rdN (tv (a + k) * tv (b + k)) (bv (a + k) * bv (b + k)) * (dtS tv bv sg a b k).2.2 : Nat) : Int)).natAbs ((dtS tv bv sg a b k).2.2 * rdD (tv (a + k) * tv (b + k)) (bv (a + k) * bv (b + k))),
     rdD ((dtS tv bv sg a b k).1 * (((dtS tv bv sg a b k).2.1 * rdD (tv (a + k) * tv (b + k)) (bv (a + k) * bv (b + k)) : Nat) : Int) + sg (a + k) * sg (b + k) * ((rdN (tv (a + k) * tv (b + k)) (bv (a + k) * bv (b + k)) * (dtS tv bv sg a b k).2.2 : Nat) : Int)).natAbs ((dtS tv bv sg a b k).2.2 * rdD (tv (a + k) * tv (b + k)) (bv (a + k) * bv (b + k))))
theorem dtS_s (tv bv : Nat → Nat) (sg : Nat → Int) (a b k : Nat) : dtS tv bv sg a b (k + 1) =
    (((dtS tv bv sg a b k).1 * (((dtS tv bv sg a b k).2.1 * rdD (tv (a + k) * tv (b + k)) (bv (a + k) * bv (b + k)) : Nat) : Int) + sg (a + k) * sg (b + k) * ((rdN (tv (a + k) * tv (b + k)) (bv (a + k) * bv (b + k)) * (dtS tv bv sg a b k).2.2 : Nat) : Int)).sign,
     rdN ((dtS tv bv sg a b k).1 * (((dtS tv bv sg a b k).2.1 * rdD (tv (a + k) * tv (b + k)) (bv (a + k) * bv (b + k)) : Nat) : Int) + sg (a + k) * sg (b + k) * ((rdN (tv (a + k) * tv (b + k)) (bv (a + k) * bv (b + k)) * (dtS tv bv sg a b k).2.2 : Nat) : Int)).natAbs ((dtS tv bv sg a b k).2.2 * rdD (tv (a + k) * tv (b + k)) (bv (a + k) * bv (b + k))),
     rdD ((dtS tv bv sg a b k).1 * (((dtS tv bv sg a b k).2.1 * rdD (tv (a + k) * tv (b + k)) (bv (a + k) * bv (b + k)) : Nat) : Int) + sg (a + k) * sg (b + k) * ((rdN (tv (a + k) * tv (b + k)) (bv (a + k) * bv (b + k)) * (dtS tv bv sg a b k).2.2 : Nat) : Int)).natAbs ((dtS tv bv sg a b k).2.2 * rdD (tv (a + k) * tv (b + k)) (bv (a + k) * bv (b + k)))) := rfl
theorem sg_prod {s t : Int} {u v : Nat} (hs : -1 ≤ s ∧ s ≤ 1) (ht : -1 ≤ t ∧ t ≤ 1) (h1 : s = 0 ↔ u = 0) (h2 : t = 0 ↔ v = 0) : (-1 ≤ s * t ∧ s * t ≤ 1) ∧ (s * t = 0 ↔ u * v = 0) := by
  refine ⟨?_, by rw [Int.mul_eq_zero, Nat.mul_eq_zero, h1, h2]⟩
  rcases (show s = -1 ∨ s = 0 ∨ s = 1 by omega) with q | q | q <;> subst q <;> omega
theorem sg_abs_le {s t : Int} {A C : Nat} (hs : -1 ≤ s ∧ s ≤ 1) (ht : -1 ≤ t ∧ t ≤ 1) : (s * (A : Int) + t * (C : Int)).natAbs ≤ A + C := by
  rcases (show s = -1 ∨ s = 0 ∨ s = 1 by omega) with q | q | q <;> rcases (show t = -1 ∨ t = 0 ∨ t = 1 by omega) with k | k | k <;> subst q <;> subst k <;> omega
theorem dt_step {N D pN pD w x : Nat} (h1 : N + D ≤ pB w) (h2 : pN + pD ≤ pB x) : N * pD + pN * D + D * pD ≤ pB (w + x) := by
  rw [pB_add]
  refine Nat.le_trans ?_ (Nat.mul_le_mul h1 h2)
  rw [Nat.add_mul, Nat.mul_add, Nat.mul_add, Nat.mul_comm pN D]
  omega
theorem dt_inv {tv bv : Nat → Nat} {sg : Nat → Int} (J : RgC tv bv sg) (hb : ∀ r, r < 32 → 0 < bv r) {a b : Nat} : ∀ k, a + k ≤ 32 → b + k ≤ 32 →
    Nat.Coprime (dtS tv bv sg a b k).2.1 (dtS tv bv sg a b k).2.2 ∧ 0 < (dtS tv bv sg a b k).2.2 ∧ ((dtS tv bv sg a b k).1 = 0 ↔ (dtS tv bv sg a b k).2.1 = 0) ∧ (-1 ≤ (dtS tv bv sg a b k).1 ∧ (dtS tv bv sg a b k).1 ≤ 1) ∧
    (dtS tv bv sg a b k).2.1 + (dtS tv bv sg a b k).2.2 ≤ pB (nsum tv bv a k + nsum tv bv b k)
  | 0, _, _ => ⟨by show Nat.Coprime 0 1; decide, by show 0 < 1; decide, by show (0 : Int) = 0 ↔ (0 : Nat) = 0; decide, by show -1 ≤ (0 : Int) ∧ (0 : Int) ≤ 1; decide, by show 0 + 1 ≤ pB (0 + 0); decide⟩
  | k + 1, h1, h2 => by
    obtain ⟨c1, c2, c3, c4, c5⟩ := dt_inv J hb (a := a) (b := b) k (by omega) (by omega)
    obtain ⟨ja1, ja2, ja3⟩ := J (a + k) (by omega)
    obtain ⟨jb1, jb2, jb3⟩ := J (b + k) (by omega)
    have pa := hb (a + k) (by omega)
    have pb := hb (b + k) (by omega)
    obtain ⟨g1, g2⟩ := sg_prod ja3 jb3 ja2 jb2
    have pq : 0 < bv (a + k) * bv (b + k) := Nat.mul_pos pa pb
    have pD := rdD_pos2 (tv (a + k) * tv (b + k)) (bv (a + k) * bv (b + k)) pq
    have f1 := fr_le (t := tv (a + k)) pa
    have f2 := fr_le (t := tv (b + k)) pb
    have hp : rdN (tv (a + k) * tv (b + k)) (bv (a + k) * bv (b + k)) + rdD (tv (a + k) * tv (b + k)) (bv (a + k) * bv (b + k)) ≤ pB (lm (tv (a + k)) + lm (bv (a + k)) + (lm (tv (b + k)) + lm (bv (b + k)))) := by
      have l1 := rdN_le (tv (a + k) * tv (b + k)) (bv (a + k) * bv (b + k))
      have l2 := rdD_le (tv (a + k) * tv (b + k)) (bv (a + k) * bv (b + k))
      have l3 := Nat.mul_le_mul f1 f2
      rw [pB_add]
      refine Nat.le_trans (Nat.add_le_add l1 l2) (Nat.le_trans ?_ l3)
      rw [Nat.add_mul, Nat.mul_add, Nat.mul_add]
      omega
    have hd := dt_step c5 hp
    generalize hN : (dtS tv bv sg a b k).2.1 = N at *
    generalize hDD : (dtS tv bv sg a b k).2.2 = DD at *
    generalize hs : (dtS tv bv sg a b k).1 = s0 at *
    generalize hn : rdN (tv (a + k) * tv (b + k)) (bv (a + k) * bv (b + k)) = qN at *
    generalize hdd : rdD (tv (a + k) * tv (b + k)) (bv (a + k) * bv (b + k)) = qD at *
    have pDq : 0 < DD * qD := Nat.mul_pos c2 pD
    rw [dtS_s]
    dsimp only
    rw [hN, hDD, hs, hn, hdd]
    have hab := sg_abs_le (A := N * qD) (C := qN * DD) c4 g1
    generalize s0 * ((N * qD : Nat) : Int) + sg (a + k) * sg (b + k) * ((qN * DD : Nat) : Int) = S at *
    refine ⟨rd_cop pDq, rdD_pos2 _ _ pDq, ?_, ?_, ?_⟩
    · rw [Int.sign_eq_zero_iff_zero, rdN_z pDq]; omega
    · rcases (show S < 0 ∨ S = 0 ∨ 0 < S by omega) with q | q | q
      · rw [Int.sign_eq_neg_one_of_neg q]; omega
      · rw [q]; decide
      · rw [Int.sign_eq_one_of_pos q]; omega
    · have l1 := rdN_le S.natAbs (DD * qD)
      have l2 := rdD_le S.natAbs (DD * qD)
      have e : nsum tv bv a (k + 1) + nsum tv bv b (k + 1) = nsum tv bv a k + nsum tv bv b k + (lm (tv (a + k)) + lm (bv (a + k)) + (lm (tv (b + k)) + lm (bv (b + k)))) := by
        show nsum tv bv a k + _ + (nsum tv bv b k + _) = _
        omega
      rw [e]
      omega
