/-! REGISTERS: blocks in one row -/
def up {α : Type} (f : Nat → α) (r : Nat) (x : α) : Nat → α := fun j => if j = r then x else f j
theorem up_s {α : Type} (f : Nat → α) (r : Nat) (x : α) : up f r x r = x := if_pos rfl
theorem up_n {α : Type} {f : Nat → α} {r j : Nat} {x : α} (h : j ≠ r) : up f r x j = f j := if_neg h
def sw {α : Type} (f : Nat → α) (a b : Nat) : Nat → α := fun j => if j = a then f b else if j = b then f a else f j
theorem upd_sw (f : Nat → Int32) (a b : Nat) : upd (upd f a (f b)) b (f a) = sw f a b := by
  funext j
  unfold sw upd
  by_cases h1 : j = b
  · by_cases h2 : j = a
    · rw [if_pos h1, if_pos h2, ← h1, ← h2]
    · rw [if_pos h1, if_neg h2, if_pos h1]
  · rw [if_neg h1, if_neg h1]
def swI (a b j : Nat) : Nat := if j = a then b else if j = b then a else j
theorem sw_I {α : Type} (f : Nat → α) (a b j : Nat) : sw f a b j = f (swI a b j) := by unfold sw swI; split; rfl; split <;> rfl
theorem swI_lt {a b j : Nat} (ha : a < 32) (hb : b < 32) (hj : j < 32) : swI a b j < 32 := by unfold swI; split; exact hb; split <;> assumption
theorem swI_inj {a b i j : Nat} (h : swI a b i = swI a b j) : i = j := by
  unfold swI at h
  repeat' split at h
  all_goals omega
/-- the limbs that the registers below n need -/
def ndS (tv bv : Nat → Nat) : Nat → Nat
  | 0 => 0
  | n + 1 => ndS tv bv n + (lm (tv n) + lm (bv n))
theorem ndS_c {tv bv tv' bv' : Nat → Nat} : ∀ {n : Nat}, (∀ i, i < n → tv i = tv' i ∧ bv i = bv' i) → ndS tv bv n = ndS tv' bv' n
  | 0, _ => rfl
  | n + 1, h => by
    unfold ndS
    rw [ndS_c (n := n) (fun i hi => h i (by omega)), (h n (by omega)).1, (h n (by omega)).2]
theorem ndS_up {tv bv : Nat → Nat} {r v w : Nat} : ∀ {n : Nat}, r < n → ndS (up tv r v) (up bv r w) n + (lm (tv r) + lm (bv r)) = ndS tv bv n + (lm v + lm w)
  | 0, h => absurd h (Nat.not_lt_zero _)
  | n + 1, h => by
    unfold ndS
    by_cases e : r = n
    · subst e
      rw [up_s, up_s, ndS_c (tv := up tv r v) (bv := up bv r w) (tv' := tv) (bv' := bv) (fun i hi => ⟨up_n (by omega), up_n (by omega)⟩)]
      omega
    · have := ndS_up (tv := tv) (bv := bv) (v := v) (w := w) (n := n) (r := r) (by omega)
      rw [up_n (by omega), up_n (by omega)]
      omega
theorem ndS_le {tv bv : Nat → Nat} {r : Nat} : ∀ {n : Nat}, r < n → lm (tv r) + lm (bv r) ≤ ndS tv bv n
  | 0, h => absurd h (Nat.not_lt_zero _)
  | n + 1, h => by
    unfold ndS
    by_cases e : r = n
    · subst e; omega
    · have := ndS_le (tv := tv) (bv := bv) (n := n) (r := r) (by omega)
      omega
def ndF (n : Nat) (g : Nat → Nat) : Nat := (List.range n).foldr (fun i x => g i + x) 0
theorem ndS_foldr (tv bv : Nat → Nat) (n : Nat) : ndS tv bv n = ((List.range n).map (fun i => lm (tv i) + lm (bv i))).sum := by
  induction n with
  | zero => rfl
  | succ n ih => rw [List.range_succ, List.map_append, List.sum_append, ← ih]; simp [ndS]
theorem ndS_sw (tv bv : Nat → Nat) {a b n : Nat} (ha : a < n) (hb : b < n) : ndS (sw tv a b) (sw bv a b) n = ndS tv bv n := by
  have e : ∀ g : Nat → Nat, sw g a b = up (up g a (g b)) b (g a) := fun g => by
    funext j; unfold sw up
    by_cases h1 : j = b
    · by_cases h2 : j = a
      · subst h1; subst h2; simp
      · rw [if_pos h1, if_neg h2, if_pos h1]
    · rw [if_neg h1, if_neg h1]
  rw [e tv, e bv]
  have h1 := ndS_up (tv := up tv a (tv b)) (bv := up bv a (bv b)) (r := b) (v := tv a) (w := bv a) hb
  have h2 := ndS_up (tv := tv) (bv := bv) (r := a) (v := tv b) (w := bv b) ha
  by_cases q : a = b
  · subst q
    rw [up_s, up_s] at h1
    omega
  · rw [up_n (by omega), up_n (by omega)] at h1
    omega
/-- the registers' rows hold the numbers tv / bv with signs sg, blocks at F -/
def RgI (fp ff ft fb fs : Nat → Int32) (tk np : Nat) (F tv bv : Nat → Nat) (sg : Nat → Int) : Prop :=
  (∀ r, r < 32 → ff r = iZ (F r : Int) ∧ ft r = iZ (lm (tv r) : Int) ∧ fb r = iZ (lm (bv r) : Int) ∧ fs r = iZ (sg r) ∧ Rp (sh fp (F r)) (lm (tv r)) (tv r) ∧ Rp (sh fp (F r + lm (tv r))) (lm (bv r)) (bv r) ∧ F r + (lm (tv r) + lm (bv r)) ≤ tk ∧ 0 < bv r) ∧
  (∀ r q, r < 32 → q < 32 → r ≠ q → F r + (lm (tv r) + lm (bv r)) ≤ F q ∨ F q + (lm (tv q) + lm (bv q)) ≤ F r) ∧ tk ≤ np ∧ tk = ndS tv bv 32
theorem RgI.swap {fp ff ft fb fs : Nat → Int32} {tk np : Nat} {F tv bv : Nat → Nat} {sg : Nat → Int} {a b : Nat} (ha : a < 32) (hb : b < 32) (h : RgI fp ff ft fb fs tk np F tv bv sg) : RgI fp (sw ff a b) (sw ft a b) (sw fb a b) (sw fs a b) tk np (sw F a b) (sw tv a b) (sw bv a b) (sw sg a b) := by
  refine ⟨fun r hr => ?_, fun r q hr hq hne => ?_, h.2.2.1, by rw [ndS_sw tv bv ha hb]; exact h.2.2.2⟩
  · simp only [sw_I]
    exact h.1 _ (swI_lt ha hb hr)
  · simp only [sw_I]
    exact h.2.1 _ _ (swI_lt ha hb hr) (swI_lt ha hb hq) (fun e => hne (swI_inj e))
theorem RgI.keep {fp ff ft fb fs gf f1 f2 : Nat → Int32} {tk np t2 k1 k2 v1 v2 : Nat} {F tv bv : Nat → Nat} {sg : Nat → Int} {s : Int} {r : Nat} (hr : r < 32) (h : RgI fp ff ft fb fs tk np F tv bv sg) (r1 : Rp f1 k1 v1) (r2 : Rp f2 k2 v2) (h20 : 0 < v2) (ht2 : t2 + (lm (tv r) + lm (bv r)) = tk) (hfit : t2 + (k1 + k2) ≤ np)
    (hgf : ∀ q, q < 32 → gf q = iZ ((if F r + (lm (tv r) + lm (bv r)) ≤ F q then F q - (lm (tv r) + lm (bv r)) else F q : Nat) : Int)) :
    RgI (va_cpy f2 (va_cpy f1 (va_cpy fp fp (F r + (lm (tv r) + lm (bv r))) (F r) (tk - (F r + (lm (tv r) + lm (bv r))))) 0 t2 k1) 0 (t2 + k1) k2) (upd gf r (iZ (t2 : Int))) (upd ft r (iZ (k1 : Int))) (upd fb r (iZ (k2 : Int))) (upd fs r (iZ s)) (t2 + (k1 + k2)) np
      (up (fun q => if F r + (lm (tv r) + lm (bv r)) ≤ F q then F q - (lm (tv r) + lm (bv r)) else F q) r t2) (up tv r v1) (up bv r v2) (up sg r s) := by
  obtain ⟨hA, hB, hC, hD⟩ := h
  have e1 := r1.size
  have e2 := r2.size
  have hR := hA r hr
  have hpos : 0 < lm (bv r) := lm_pos hR.2.2.2.2.2.2.2
  have hRf := hR.2.2.2.2.2.2.1
  generalize hG : lm (tv r) + lm (bv r) = G at *
  have sep : ∀ q, q < 32 → q ≠ r → (F r + G ≤ F q ∧ F q + (lm (tv q) + lm (bv q)) ≤ tk) ∨ (F q + (lm (tv q) + lm (bv q)) ≤ F r ∧ F q < F r + G) := fun q hq hne => by
    rcases hB r q hr hq (fun e => hne e.symm) with z | z
    · left; rw [hG] at z; exact ⟨z, (hA q hq).2.2.2.2.2.2.1⟩
    · right; exact ⟨z, by omega⟩
  have lead : ∀ q, q < 32 → q ≠ r → (if F r + G ≤ F q then F q - G else F q) + (lm (tv q) + lm (bv q)) ≤ t2 := fun q hq hne => by
    rcases sep q hq hne with z | z
    · rw [if_pos z.1]; omega
    · rw [if_neg (by omega)]; omega
  have pool : ∀ q, q < 32 → q ≠ r → ∀ i, i < lm (tv q) + lm (bv q) → va_cpy f2 (va_cpy f1 (va_cpy fp fp (F r + G) (F r) (tk - (F r + G))) 0 t2 k1) 0 (t2 + k1) k2 ((if F r + G ≤ F q then F q - G else F q) + i) = fp (F q + i) := fun q hq hne i hi => by
    have z0 := lead q hq hne
    rw [pk_cpy_out (by omega), pk_cpy_out (by omega)]
    rcases sep q hq hne with z | z
    · rw [if_pos z.1] at z0 ⊢
      rw [pk_cpy_in (by omega) (by omega)]
      congr 1; omega
    · rw [if_neg (by omega)]
      rw [pk_cpy_out (by omega)]
  refine ⟨fun q hq => ?_, fun q p hq hp hne => ?_, hfit, ?_⟩
  · by_cases e : q = r
    · subst e
      rw [pk_us, pk_us, pk_us, pk_us, up_s, up_s, up_s, up_s, ← e1, ← e2]
      refine ⟨rfl, rfl, rfl, rfl, r1.congr (fun i hi => ?_), r2.congr (fun i hi => ?_), by omega, h20⟩
      · unfold sh
        rw [pk_cpy_out (by omega), pk_cpy_in (by omega) (by omega)]
        congr 1; omega
      · unfold sh
        rw [pk_cpy_in (by omega) (by omega)]
        congr 1; omega
    · obtain ⟨a1, a2, a3, a4, a5, a6, a7, a8⟩ := hA q hq
      have z0 := lead q hq e
      rw [pk_un e, pk_un e, pk_un e, pk_un e, up_n e, up_n e, up_n e, up_n e]
      refine ⟨hgf q hq, a2, a3, a4, a5.congr (fun i hi => ?_), a6.congr (fun i hi => ?_), by omega, a8⟩
      · exact pool q hq e i (by omega)
      · have := pool q hq e (lm (tv q) + i) (by omega)
        unfold sh
        rw [← Nat.add_assoc, ← Nat.add_assoc] at this
        exact this
  · by_cases e : q = r
    · subst e
      rw [up_s, up_s, up_s, up_n (fun z => hne z.symm), up_n (fun z => hne z.symm), up_n (fun z => hne z.symm)]
      exact Or.inr (lead p hp (fun z => hne z.symm))
    · by_cases e3 : p = r
      · subst e3
        rw [up_s, up_s, up_s, up_n e, up_n e, up_n e]
        exact Or.inl (lead q hq e)
      · rw [up_n e, up_n e, up_n e, up_n e3, up_n e3, up_n e3]
        have hqp := hB q p hq hp hne
        rcases sep q hq e with z | z <;> rcases sep p hp e3 with y | y
        · rw [if_pos z.1, if_pos y.1]; omega
        · rw [if_pos z.1, if_neg (by omega)]; omega
        · rw [if_neg (by omega), if_pos y.1]; omega
        · rw [if_neg (by omega), if_neg (by omega)]; exact hqp
  · have := ndS_up (tv := tv) (bv := bv) (v := v1) (w := v2) hr
    rw [hG, ← e1, ← e2] at this
    omega
theorem RgI.at {fp ff ft fb fs : Nat → Int32} {tk np : Nat} {F tv bv : Nat → Nat} {sg : Nat → Int} {r : Nat} (h : RgI fp ff ft fb fs tk np F tv bv sg) (hr : r < 32) : ff r = iZ (F r : Int) ∧ ft r = iZ (lm (tv r) : Int) ∧ fb r = iZ (lm (bv r) : Int) ∧ fs r = iZ (sg r) ∧ Rp (sh fp (F r)) (lm (tv r)) (tv r) ∧ Rp (sh fp (F r + lm (tv r))) (lm (bv r)) (bv r) ∧ F r + (lm (tv r) + lm (bv r)) ≤ tk ∧ 0 < bv r := h.1 r hr
