/-! BOTH SIDES AGREE: the numbers behind it -/
theorem i32Z (x : Int32) : ∃ z : Int, x = iZ z ∧ -2147483648 ≤ z ∧ z < 2147483648 := ⟨x.toInt, (Int32.ofInt_toInt x).symm, Int32.le_toInt x, Int32.toInt_lt x⟩
theorem RgC.up {tv bv : Nat → Nat} {sg : Nat → Int} (J : RgC tv bv sg) {r V1 V2 : Nat} {sx : Int} (hc : Nat.Coprime V1 V2) (hz : sx = 0 ↔ V1 = 0) (hr : -1 ≤ sx ∧ sx ≤ 1) : RgC (up tv r V1) (up bv r V2) (up sg r sx) := by
  intro q hq
  by_cases e : q = r
  · subst e
    rw [up_s, up_s, up_s]
    exact ⟨hc, hz, hr⟩
  · rw [up_n e, up_n e, up_n e]
    exact J q hq
theorem RgC.sw {tv bv : Nat → Nat} {sg : Nat → Int} (J : RgC tv bv sg) {a b : Nat} (ha : a < 32) (hb : b < 32) : RgC (sw tv a b) (sw bv a b) (sw sg a b) := by
  intro q hq
  show Nat.Coprime (if q = a then tv b else if q = b then tv a else tv q) (if q = a then bv b else if q = b then bv a else bv q) ∧ ((if q = a then sg b else if q = b then sg a else sg q) = 0 ↔ (if q = a then tv b else if q = b then tv a else tv q) = 0) ∧ -1 ≤ (if q = a then sg b else if q = b then sg a else sg q) ∧ (if q = a then sg b else if q = b then sg a else sg q) ≤ 1
  by_cases e1 : q = a
  · rw [if_pos e1, if_pos e1, if_pos e1]; exact J b hb
  · rw [if_neg e1, if_neg e1, if_neg e1]
    by_cases e2 : q = b
    · rw [if_pos e2, if_pos e2, if_pos e2]; exact J a ha
    · rw [if_neg e2, if_neg e2, if_neg e2]; exact J q hq
theorem if_sg {V : Nat} {x : Int} (h : x = 0 ↔ V = 0) : (if V = 0 then 0 else x) = x := by
  by_cases e : V = 0
  · rw [if_pos e, h.mpr e]
  · rw [if_neg e]
theorem rdN_1 (x : Nat) : rdN x 1 = x := by unfold rdN; rw [Nat.gcd_one_right, Nat.div_one]
theorem rdD_1 (x : Nat) : rdD x 1 = 1 := by unfold rdD; rw [Nat.gcd_one_right]
theorem sgn_z {x : Int} {d : Nat} (hd : 0 < d) : x.sign = 0 ↔ rdN x.natAbs d = 0 := by
  rw [rdN_z hd, Int.sign_eq_zero_iff_zero]; omega
theorem sgS_is {n d : Int} (hn : n ≠ 0) (hd : d ≠ 0) : sgS n d = n.sign * d.sign := by
  unfold sgS
  rcases (show n < 0 ∨ 0 < n by omega) with h1 | h1 <;> rcases (show d < 0 ∨ 0 < d by omega) with h2 | h2
  · rw [Int.sign_eq_neg_one_of_neg h1, Int.sign_eq_neg_one_of_neg h2, if_pos (by omega)]; rfl
  · rw [Int.sign_eq_neg_one_of_neg h1, Int.sign_eq_one_of_pos h2, if_neg (by omega)]; rfl
  · rw [Int.sign_eq_one_of_pos h1, Int.sign_eq_neg_one_of_neg h2, if_neg (by omega)]; rfl
  · rw [Int.sign_eq_one_of_pos h1, Int.sign_eq_one_of_pos h2, if_pos (by omega)]; rfl
theorem set_z {n d : Int} (hd : d ≠ 0) : n.sign * d.sign = 0 ↔ rdN n.natAbs d.natAbs = 0 := by
  rw [rdN_z (by omega), Int.mul_eq_zero, Int.sign_eq_zero_iff_zero, Int.sign_eq_zero_iff_zero]; omega
theorem set_sg {n d : Int} (hd : d ≠ 0) : (if rdN n.natAbs d.natAbs = 0 then 0 else sgS n d) = n.sign * d.sign := by
  by_cases hn : n = 0
  · subst hn
    rw [if_pos (by rw [show (0 : Int).natAbs = 0 from rfl]; exact rdN_zero _), Int.sign_zero, Int.zero_mul]
  · rw [if_neg (fun h => hn (by have := (rdN_z (show 0 < d.natAbs by omega)).mp h; omega)), sgS_is hn hd]
theorem sgm_r {s t : Int} (hs : -1 ≤ s ∧ s ≤ 1) (ht : -1 ≤ t ∧ t ≤ 1) : -1 ≤ s * t ∧ s * t ≤ 1 := by
  rcases (show s = -1 ∨ s = 0 ∨ s = 1 by omega) with q | q | q <;> subst q <;> omega
theorem sP_r {s : Int} (hs : -1 ≤ s ∧ s ≤ 1) (t : Nat) : -1 ≤ sP s t ∧ sP s t ≤ 1 := by
  unfold sP
  split
  · omega
  · split
    · exact sgm_r hs hs
    · exact hs
theorem sP_z {s : Int} {u : Nat} (t : Nat) (hs : s = 0 ↔ u = 0) : sP s t = 0 ↔ u ^ t = 0 := by
  unfold sP
  split
  · next h => rw [h, Nat.pow_zero]; omega
  · next h =>
    rw [Nat.pow_eq_zero]
    split
    · rw [Int.mul_eq_zero, or_self, hs]
      exact ⟨fun q => ⟨q, h⟩, fun q => q.1⟩
    · rw [hs]
      exact ⟨fun q => ⟨q, h⟩, fun q => q.1⟩
theorem pow_sg {s : Int} {u t : Nat} (hs : -1 ≤ s ∧ s ≤ 1) (hz : s = 0 ↔ u = 0) : (if u ^ t = 0 then 0 else (if t % 2 = 1 then s else 1)) = sP s t := by
  by_cases e : u ^ t = 0
  · rw [if_pos e, (sP_z t hz).mpr e]
  · rw [if_neg e]
    unfold sP
    by_cases h0 : t = 0
    · rw [if_pos h0, if_neg (by omega)]
    · rw [if_neg h0]
      by_cases h1 : t % 2 = 0
      · rw [if_pos h1, if_neg (by omega)]
        have hsn : s ≠ 0 := fun q => e (by rw [hz.mp q]; exact Nat.zero_pow (by omega))
        rcases (show s = -1 ∨ s = 1 by omega) with q | q <;> subst q <;> rfl
      · rw [if_neg h1, if_pos (by omega)]
/-- a sign that is kept where the size isn't 0 -/
theorem ks_z {X : Nat} {s : Int} (h : s = 0 → X = 0) : (if X = 0 then 0 else s) = 0 ↔ X = 0 := by
  by_cases e : X = 0
  · rw [if_pos e]; exact ⟨fun _ => e, fun _ => rfl⟩
  · rw [if_neg e]; exact ⟨fun q => h q, fun q => absurd q e⟩
theorem ks_r {X : Nat} {s : Int} (h : -1 ≤ s ∧ s ≤ 1) : -1 ≤ (if X = 0 then 0 else s) ∧ (if X = 0 then 0 else s) ≤ 1 := by
  split <;> omega
theorem fl_z {t b : Nat} {s : Int} (h : s = 0 ↔ t = 0) : s = 0 → flN t b s = 0 := by
  intro q
  have := h.mp q
  subst this; subst q
  unfold flN
  rw [Nat.zero_div, if_neg (by omega)]
theorem nmQ_0 (b : Nat) : nmQ 0 b = 0 := by
  unfold nmQ
  rw [Nat.zero_mod, Nat.zero_div, if_neg (by omega)]
theorem nm_z {t b : Nat} {s : Int} (h : s = 0 ↔ t = 0) : s = 0 → nmQ t b = 0 := by
  intro q
  rw [h.mp q, nmQ_0]
theorem nmm_z {t b k : Nat} {s : Int} (h : s = 0 ↔ t = 0) : s = 0 → nmQ (t * k) b = 0 := by
  intro q
  rw [h.mp q, Nat.zero_mul, nmQ_0]
theorem ks_mul {X k : Nat} {s : Int} (hk : 0 < k) : (if X * k = 0 then 0 else s) = (if X = 0 then 0 else s) := by
  by_cases e : X = 0
  · rw [if_pos e, if_pos (by rw [e, Nat.zero_mul])]
  · rw [if_neg e, if_neg (fun q => by rcases Nat.mul_eq_zero.mp q with q | q <;> omega)]
theorem ks_rd {X k : Nat} {s : Int} (hk : 0 < k) : (if rdN X k = 0 then 0 else s) = (if X = 0 then 0 else s) := by
  by_cases e : X = 0
  · rw [if_pos e, if_pos ((rdN_z hk).mpr e)]
  · rw [if_neg e, if_neg (fun q => e ((rdN_z hk).mp q))]
theorem ks_rz {X k : Nat} {s : Int} (hk : 0 < k) (h : s = 0 → X = 0) : (if X = 0 then 0 else s) = 0 ↔ rdN X k = 0 := by
  rw [rdN_z hk]; exact ks_z h
theorem ks_mz {X k : Nat} {s : Int} (hk : 0 < k) (h : s = 0 → X = 0) : (if X = 0 then 0 else s) = 0 ↔ X * k = 0 := by
  rw [ks_z h]
  exact ⟨fun q => by rw [q, Nat.zero_mul], fun q => by rcases Nat.mul_eq_zero.mp q with q | q <;> omega⟩
theorem cmpZ_sg (a b : Int) : cmpZ a b = (a - b).sign := by
  unfold cmpZ
  split
  · rw [Int.sign_eq_neg_one_of_neg (by omega)]
  · split
    · next h => rw [h, Int.sub_self]; rfl
    · rw [Int.sign_eq_one_of_pos (by omega)]
theorem cmp_sg {s t : Int} {u v x y : Nat} (hs : -1 ≤ s ∧ s ≤ 1) (ht : -1 ≤ t ∧ t ≤ 1) (h1 : s = 0 ↔ u = 0) (h2 : t = 0 ↔ v = 0) (hx : 0 < x) (hy : 0 < y) :
    (if s = t then s * cmpZ ((u * y : Nat) : Int) ((v * x : Nat) : Int) else cmpZ s t) = (s * ((u * y : Nat) : Int) + -t * ((v * x : Nat) : Int)).sign := by
  have p1 : s ≠ 0 → 0 < u * y := fun h => Nat.mul_pos (Nat.pos_of_ne_zero (fun q => h (h1.mpr q))) hy
  have p2 : t ≠ 0 → 0 < v * x := fun h => Nat.mul_pos (Nat.pos_of_ne_zero (fun q => h (h2.mpr q))) hx
  rw [cmpZ_sg, cmpZ_sg]
  generalize u * y = X at *
  generalize v * x = Y at *
  rcases (show s = -1 ∨ s = 0 ∨ s = 1 by omega) with q | q | q <;> rcases (show t = -1 ∨ t = 0 ∨ t = 1 by omega) with k | k | k <;> subst q <;> subst k
  · rw [if_pos rfl, Int.neg_one_mul, ← Int.sign_neg]; congr 1; omega
  · rw [if_neg (by decide)]; have := p1 (by decide); rw [Int.sign_eq_neg_one_of_neg (show (-1 : Int) * (X : Int) + -0 * (Y : Int) < 0 by omega)]; rfl
  · rw [if_neg (by decide)]; have := p1 (by decide); have := p2 (by decide); rw [Int.sign_eq_neg_one_of_neg (show (-1 : Int) * (X : Int) + -1 * (Y : Int) < 0 by omega)]; rfl
  · rw [if_neg (by decide)]; have := p2 (by decide); rw [Int.sign_eq_one_of_pos (show 0 < (0 : Int) * (X : Int) + -(-1) * (Y : Int) by omega)]; rfl
  · rw [if_pos rfl, Int.zero_mul, show (0 : Int) * (X : Int) + -0 * (Y : Int) = 0 by omega]; rfl
  · rw [if_neg (by decide)]; have := p2 (by decide); rw [Int.sign_eq_neg_one_of_neg (show (0 : Int) * (X : Int) + -1 * (Y : Int) < 0 by omega)]; rfl
  · rw [if_neg (by decide)]; have := p1 (by decide); have := p2 (by decide); rw [Int.sign_eq_one_of_pos (show 0 < (1 : Int) * (X : Int) + -(-1) * (Y : Int) by omega)]; rfl
  · rw [if_neg (by decide)]; have := p1 (by decide); rw [Int.sign_eq_one_of_pos (show 0 < (1 : Int) * (X : Int) + -0 * (Y : Int) by omega)]; rfl
  · rw [if_pos rfl, Int.one_mul]; congr 1; omega
/-- what a token does to the text -/
def extN (t : Nat → Nat) (cn n w : Nat) : Nat → Nat := fun j => if cn ≤ j ∧ j < cn + n then byt w (j - cn) else t j
theorem ext_tx {f : Nat → Int32} {t : Nat → Nat} {cn n w : Nat} (h : ∀ j, j < cn → f j = iZ (t j : Int) ∧ t j < 65536) : ∀ j, j < cn + n → extC f cn n w j = iZ (extN t cn n w j : Int) ∧ extN t cn n w j < 65536 := by
  intro j hj
  unfold extC extN
  by_cases e : cn ≤ j ∧ j < cn + n
  · rw [if_pos e, if_pos e]
    refine ⟨rfl, ?_⟩
    unfold byt
    omega
  · rw [if_neg e, if_neg e]
    exact h j (by omega)
/-- type answers alike on both sides -/
theorem ty_same {w cn c2 d2 : Nat} {r q : Int} {f g f2 g2 : Nat → Int32} (h1 : (r = 0 ∧ c2 = cn ∧ f2 = f ∧ (tkBad w ∨ ∃ n, TkN w n ∧ 400 < cn + n)) ∨ (r = 1 ∧ ∃ n, TkN w n ∧ ¬ tkBad w ∧ cn + n ≤ 400 ∧ c2 = cn + n ∧ f2 = extC f cn n w))
    (h2 : (q = 0 ∧ d2 = cn ∧ g2 = g ∧ (tkBad w ∨ ∃ n, TkN w n ∧ 400 < cn + n)) ∨ (q = 1 ∧ ∃ n, TkN w n ∧ ¬ tkBad w ∧ cn + n ≤ 400 ∧ d2 = cn + n ∧ g2 = extC g cn n w)) :
    r = q ∧ d2 = c2 ∧ ((c2 = cn ∧ f2 = f ∧ g2 = g) ∨ ∃ n, c2 = cn + n ∧ c2 ≤ 400 ∧ f2 = extC f cn n w ∧ g2 = extC g cn n w) := by
  rcases h1 with ⟨a1, a2, a3, a4⟩ | ⟨a1, n, a2, a3, a4, a5, a6⟩ <;> rcases h2 with ⟨b1, b2, b3, b4⟩ | ⟨b1, m, b2, b3, b4, b5, b6⟩
  · exact ⟨by omega, by omega, Or.inl ⟨a2, a3, b3⟩⟩
  · exfalso
    rcases a4 with k | ⟨n, k1, k2⟩
    · exact b3 k
    · have := k1.uniq b2; omega
  · exfalso
    rcases b4 with k | ⟨n', k1, k2⟩
    · exact a3 k
    · have := k1.uniq a2; omega
  · have e := a2.uniq b2
    subst e
    exact ⟨by omega, by omega, Or.inr ⟨n, a5, by omega, a6, b6⟩⟩
/-- the printed text is one -/
theorem pr_same {t b : Nat} {s : Int} {kt kb jt jb : Nat} (h1 : IsD t kt) (h2 : IsD t jt) (h3 : b ≠ 1 → IsD b kb) (h4 : b ≠ 1 → IsD b jb) :
    ((if s < 0 then ([45] : List Nat) else []) ++ (dg kt t ++ (if b = 1 then [] else 47 :: dg kb b))) = ((if s < 0 then ([45] : List Nat) else []) ++ (dg jt t ++ (if b = 1 then [] else 47 :: dg jb b))) := by
  rw [h1.uniq h2]
  by_cases e : b = 1
  · rw [if_pos e, if_pos e]
  · rw [if_neg e, if_neg e, (h3 e).uniq (h4 e)]
theorem dg_lt : ∀ (k v : Nat), ∀ x ∈ dg k v, x < 65536
  | 0, _, x, h => by cases h
  | k + 1, v, x, h => by
    rcases List.mem_cons.mp h with h | h
    · rw [h]; omega
    · exact dg_lt k v x h
theorem getD_lt {li : List Nat} (h : ∀ x ∈ li, x < 65536) : ∀ i, i < li.length → li.getD i 0 < 65536 := fun i hi => by
  rw [List.getD_eq_getElem?_getD, List.getElem?_eq_getElem hi, Option.getD_some]
  exact h _ (List.getElem_mem hi)
theorem pr_lt {t b : Nat} {s : Int} {kt kb : Nat} : ∀ i, i < ((if s < 0 then ([45] : List Nat) else []) ++ (dg kt t ++ (if b = 1 then [] else 47 :: dg kb b))).length → ((if s < 0 then ([45] : List Nat) else []) ++ (dg kt t ++ (if b = 1 then [] else 47 :: dg kb b))).getD i 0 < 65536 := getD_lt (fun x h => by
  rcases List.mem_append.mp h with h | h
  · split at h
    · rcases List.mem_cons.mp h with h | h
      · omega
      · cases h
    · cases h
  · rcases List.mem_append.mp h with h | h
    · exact dg_lt _ _ x h
    · split at h
      · cases h
      · rcases List.mem_cons.mp h with h | h
        · omega
        · exact dg_lt _ _ x h)
theorem lZ_w (z : Int) : ∃ w : Nat, w < 18446744073709551616 ∧ lZ z = lZ (w : Int) := ⟨(z % 18446744073709551616).toNat, by omega, by rw [lZ_mod z]; congr 1; omega⟩
