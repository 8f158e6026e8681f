/-! TYPED: the text read -/
def isF (c : Nat) : Prop := 48 ≤ c ∧ c ≤ 57
def digs (t : Nat → Nat) (a b : Nat) : Prop := ∀ j, a ≤ j → j < b → isF (t j)
def frm (t : Nat → Nat) (n : Nat) : Nat := if 0 < n ∧ t 0 = 45 then 1 else 0
def Bh (t : Nat → Nat) (n a b : Nat) : Prop := a ≤ b ∧ b ≤ n ∧ digs t a b ∧ (b = n ∨ ¬ isF (t b))
theorem Bh.uniq {t : Nat → Nat} {n a b c : Nat} (h : Bh t n a b) (k : Bh t n a c) : b = c := by
  obtain ⟨h1, h2, h3, h4⟩ := h
  obtain ⟨k1, k2, k3, k4⟩ := k
  rcases Nat.lt_trichotomy b c with q | q | q
  · rcases h4 with z | z
    · omega
    · exact absurd (k3 b h1 q) z
  · exact q
  · rcases k4 with z | z
    · omega
    · exact absurd (h3 c k1 q) z
def zrs (t : Nat → Nat) (a b : Nat) : Prop := ∀ j, a ≤ j → j < b → t j = 48
/-- what is wrong with the text: a place, or -1 -/
def WR (t : Nat → Nat) (n : Nat) (e : Int) : Prop := ∃ to, Bh t n (frm t n) to ∧
  ((to = frm t n ∧ e = (to : Int)) ∨ (frm t n < to ∧ to = n ∧ e = -1) ∨ (frm t n < to ∧ to < n ∧ t to ≠ 46 ∧ t to ≠ 47 ∧ e = (to : Int)) ∨
   (frm t n < to ∧ to < n ∧ (t to = 46 ∨ t to = 47) ∧ ∃ en, Bh t n (to + 1) en ∧ (((en = to + 1 ∨ en < n) ∧ e = (en : Int)) ∨ (to + 1 < en ∧ en = n ∧ ((t to = 47 ∧ zrs t (to + 1) en ∧ e = (to : Int)) ∨ (¬ (t to = 47 ∧ zrs t (to + 1) en) ∧ e = -1))))))
theorem WR.uniq {t : Nat → Nat} {n : Nat} {e d : Int} (h : WR t n e) (k : WR t n d) : e = d := by
  obtain ⟨to, hb, h⟩ := h
  obtain ⟨to2, kb, k⟩ := k
  have := hb.uniq kb
  subst this
  rcases h with h | h | h | h <;> rcases k with k | k | k | k <;> first | (exfalso; omega) | omega | skip
  obtain ⟨-, -, -, en, q1, h⟩ := h
  obtain ⟨-, -, -, en2, q2, k⟩ := k
  have := q1.uniq q2
  subst this
  rcases h with h | ⟨h1, h2, h3⟩ <;> rcases k with k | ⟨k1, k2, k3⟩
  · omega
  · omega
  · omega
  · rcases h3 with ⟨a1, a2, a3⟩ | ⟨a1, a2⟩ <;> rcases k3 with ⟨b1, b2, b3⟩ | ⟨b1, b2⟩
    · omega
    · exact absurd ⟨a1, a2⟩ b1
    · exact absurd ⟨b1, b2⟩ a1
    · omega
/-- the state of the reading -/
def AU (t : Nat → Nat) (n i : Nat) (sa : Int) (sl : Nat) (az : Int) : Prop :=
  (sa = 0 ∧ i = 0 ∧ az = 1) ∨ (sa = 1 ∧ i = 1 ∧ frm t n = 1 ∧ az = 1) ∨ (sa = 2 ∧ frm t n < i ∧ digs t (frm t n) i ∧ az = 1) ∨
  (∃ to, frm t n < to ∧ digs t (frm t n) to ∧ ((sa = 3 ∧ t to = 46 ∧ i = to + 1 ∧ az = 1) ∨ (sa = 4 ∧ t to = 46 ∧ to + 1 < i ∧ digs t (to + 1) i ∧ az = 1) ∨ (sa = 5 ∧ t to = 47 ∧ i = to + 1 ∧ sl = to ∧ az = 1) ∨
    (sa = 6 ∧ t to = 47 ∧ to + 1 < i ∧ digs t (to + 1) i ∧ sl = to ∧ ((az = 1 ∧ zrs t (to + 1) i) ∨ (az = 0 ∧ ¬ zrs t (to + 1) i)))))
def saG (s : Int) : Int := if s = 3 ∨ s = 4 then 4 else if s = 5 ∨ s = 6 then 6 else 2
def saF (s : Int) (c : Nat) : Int := if 48 ≤ c ∧ c ≤ 57 then saG s else if c = 45 ∧ s = 0 then 1 else if c = 46 ∧ s = 2 then 3 else if c = 47 ∧ s = 2 then 5 else -1
theorem digs.s {t : Nat → Nat} {a b : Nat} (h : digs t a b) (hb : isF (t b)) : digs t a (b + 1) := fun j h1 h2 => by
  rcases Nat.lt_or_ge j b with q | q
  · exact h j h1 q
  · rw [show j = b by omega]; exact hb
theorem digs.one {t : Nat → Nat} {a : Nat} (hb : isF (t a)) : digs t a (a + 1) := fun j h1 h2 => by rw [show j = a by omega]; exact hb
theorem digs.nil {t : Nat → Nat} {a b : Nat} (h : b ≤ a) : digs t a b := fun j h1 h2 => by omega
theorem zrs.s {t : Nat → Nat} {a b : Nat} (h : zrs t a b) (hb : t b = 48) : zrs t a (b + 1) := fun j h1 h2 => by
  rcases Nat.lt_or_ge j b with q | q
  · exact h j h1 q
  · rw [show j = b by omega]; exact hb
theorem frm_r (t : Nat → Nat) (n : Nat) : frm t n = 0 ∨ frm t n = 1 := by unfold frm; split <;> simp
theorem AU.r {t : Nat → Nat} {n i sl : Nat} {sa az : Int} (h : AU t n i sa sl az) : 0 ≤ sa ∧ sa ≤ 6 ∧ 0 ≤ az ∧ az ≤ 1 := by
  rcases h with h | h | h | ⟨to, -, -, h⟩
  · omega
  · omega
  · omega
  · rcases h with h | h | h | ⟨h1, -, -, -, -, h⟩
    · omega
    · omega
    · omega
    · omega
/-- one character more -/
theorem AU.step {t : Nat → Nat} {n i sl sl2 : Nat} {sa az az2 : Int} (h : AU t n i sa sl az) (hi : i < n) (hne : saF sa (t i) ≠ -1) (hsl : sl2 = if saF sa (t i) = 5 then i else sl) (haz : az2 = if saF sa (t i) = 6 ∧ t i ≠ 48 then 0 else az) : AU t n (i + 1) (saF sa (t i)) sl2 az2 := by
  by_cases hd : isF (t i)
  · have e : saF sa (t i) = saG sa := by unfold saF; rw [if_pos (show 48 ≤ t i ∧ t i ≤ 57 from hd)]
    rw [e] at hsl haz ⊢
    rcases h with h | h | h | ⟨to, u1, u2, h⟩
    · obtain ⟨h1, h2, h3⟩ := h
      subst h1 h2
      have g : saG 0 = 2 := by decide
      have f : frm t n = 0 := by unfold frm; rw [if_neg (fun z => by have := hd.1; omega)]
      rw [g] at hsl haz ⊢
      refine Or.inr (Or.inr (Or.inl ⟨rfl, by omega, by rw [f]; exact digs.one hd, by rw [haz, if_neg (by omega)]; exact h3⟩))
    · obtain ⟨h1, h2, h4, h3⟩ := h
      subst h1 h2
      have g : saG 1 = 2 := by decide
      rw [g] at hsl haz ⊢
      refine Or.inr (Or.inr (Or.inl ⟨rfl, by omega, by rw [h4]; exact digs.one hd, by rw [haz, if_neg (by omega)]; exact h3⟩))
    · obtain ⟨h1, h2, h4, h3⟩ := h
      subst h1
      have g : saG 2 = 2 := by decide
      rw [g] at hsl haz ⊢
      refine Or.inr (Or.inr (Or.inl ⟨rfl, by omega, h4.s hd, by rw [haz, if_neg (by omega)]; exact h3⟩))
    · refine Or.inr (Or.inr (Or.inr ⟨to, u1, u2, ?_⟩))
      rcases h with ⟨h1, h2, h3, h4⟩ | ⟨h1, h2, h3, h4, h5⟩ | ⟨h1, h2, h3, h4, h5⟩ | ⟨h1, h2, h3, h4, h5, h6⟩
      · subst h1
        have g : saG 3 = 4 := by decide
        rw [g] at hsl haz ⊢
        exact Or.inr (Or.inl ⟨rfl, h2, by omega, by rw [h3] at hd ⊢; exact digs.one hd, by rw [haz, if_neg (by omega)]; exact h4⟩)
      · subst h1
        have g : saG 4 = 4 := by decide
        rw [g] at hsl haz ⊢
        exact Or.inr (Or.inl ⟨rfl, h2, by omega, h4.s hd, by rw [haz, if_neg (by omega)]; exact h5⟩)
      · subst h1
        have g : saG 5 = 6 := by decide
        rw [g] at hsl haz ⊢
        rw [if_neg (by omega)] at hsl
        refine Or.inr (Or.inr (Or.inr ⟨rfl, h2, by omega, by rw [h3] at hd ⊢; exact digs.one hd, by omega, ?_⟩))
        by_cases z : t i = 48
        · rw [if_neg (fun y => y.2 z)] at haz
          exact Or.inl ⟨by omega, by rw [h3] at z ⊢; exact fun j j1 j2 => by rw [show j = to + 1 by omega]; exact z⟩
        · rw [if_pos ⟨rfl, z⟩] at haz
          exact Or.inr ⟨haz, fun y => z (y i (by omega) (by omega))⟩
      · subst h1
        have g : saG 6 = 6 := by decide
        rw [g] at hsl haz ⊢
        rw [if_neg (by omega)] at hsl
        refine Or.inr (Or.inr (Or.inr ⟨rfl, h2, by omega, h4.s hd, by omega, ?_⟩))
        by_cases z : t i = 48
        · rw [if_neg (fun y => y.2 z)] at haz
          rcases h6 with ⟨h6, h7⟩ | ⟨h6, h7⟩
          · exact Or.inl ⟨by omega, h7.s z⟩
          · exact Or.inr ⟨by omega, fun y => h7 (fun j j1 j2 => y j j1 (by omega))⟩
        · rw [if_pos ⟨rfl, z⟩] at haz
          exact Or.inr ⟨haz, fun y => z (y i (by omega) (by omega))⟩
  · have e : saF sa (t i) = if t i = 45 ∧ sa = 0 then 1 else if t i = 46 ∧ sa = 2 then 3 else if t i = 47 ∧ sa = 2 then 5 else -1 := by unfold saF; rw [if_neg (show ¬ (48 ≤ t i ∧ t i ≤ 57) from hd)]
    rw [e] at hsl haz hne ⊢
    by_cases q1 : t i = 45 ∧ sa = 0
    · rw [if_pos q1] at hsl haz ⊢
      rcases h with h | h | h | ⟨to, u1, u2, h⟩
      · obtain ⟨h1, h2, h3⟩ := h
        subst h2
        exact Or.inr (Or.inl ⟨rfl, rfl, by unfold frm; rw [if_pos ⟨hi, q1.1⟩], by rw [haz, if_neg (by omega)]; exact h3⟩)
      · omega
      · omega
      · rcases h with h | h | h | h <;> omega
    · rw [if_neg q1] at hsl haz hne ⊢
      by_cases q2 : t i = 46 ∧ sa = 2
      · rw [if_pos q2] at hsl haz ⊢
        rcases h with h | h | h | ⟨to, u1, u2, h⟩
        · omega
        · omega
        · exact Or.inr (Or.inr (Or.inr ⟨i, h.2.1, h.2.2.1, Or.inl ⟨rfl, q2.1, rfl, by rw [haz, if_neg (by omega)]; exact h.2.2.2⟩⟩))
        · rcases h with h | h | h | h <;> omega
      · rw [if_neg q2] at hsl haz hne ⊢
        by_cases q3 : t i = 47 ∧ sa = 2
        · rw [if_pos q3] at hsl haz ⊢
          rcases h with h | h | h | ⟨to, u1, u2, h⟩
          · omega
          · omega
          · exact Or.inr (Or.inr (Or.inr ⟨i, h.2.1, h.2.2.1, Or.inr (Or.inr (Or.inl ⟨rfl, q3.1, rfl, by rw [hsl, if_pos rfl], by rw [haz, if_neg (by omega)]; exact h.2.2.2⟩))⟩))
          · rcases h with h | h | h | h <;> omega
        · rw [if_neg q3] at hne
          exact absurd rfl hne
/-- the reading stops here -/
theorem AU.stop {t : Nat → Nat} {n i sl : Nat} {sa az : Int} (h : AU t n i sa sl az) (hi : i < n) (hne : saF sa (t i) = -1) : WR t n (i : Int) := by
  have hd : ¬ isF (t i) := fun hd => by
    have e : saF sa (t i) = saG sa := by unfold saF; rw [if_pos (show 48 ≤ t i ∧ t i ≤ 57 from hd)]
    rw [e] at hne
    unfold saG at hne
    split at hne
    · omega
    · split at hne <;> omega
  have e : saF sa (t i) = if t i = 45 ∧ sa = 0 then 1 else if t i = 46 ∧ sa = 2 then 3 else if t i = 47 ∧ sa = 2 then 5 else -1 := by unfold saF; rw [if_neg (show ¬ (48 ≤ t i ∧ t i ≤ 57) from hd)]
  rw [e] at hne
  have n1 : ¬ (t i = 45 ∧ sa = 0) := fun q => by rw [if_pos q] at hne; omega
  rw [if_neg n1] at hne
  have n2 : ¬ (t i = 46 ∧ sa = 2) := fun q => by rw [if_pos q] at hne; omega
  rw [if_neg n2] at hne
  have n3 : ¬ (t i = 47 ∧ sa = 2) := fun q => by rw [if_pos q] at hne; omega
  rcases h with h | h | h | ⟨to, u1, u2, h⟩
  · obtain ⟨h1, h2, h3⟩ := h
    subst h2
    have f : frm t n = 0 := by unfold frm; rw [if_neg (fun z => n1 ⟨z.2, h1⟩)]
    exact ⟨0, ⟨by omega, by omega, digs.nil (by omega), Or.inr hd⟩, Or.inl ⟨f.symm, rfl⟩⟩
  · obtain ⟨h1, h2, h4, h3⟩ := h
    subst h2
    exact ⟨1, ⟨by omega, by omega, digs.nil (by omega), Or.inr hd⟩, Or.inl ⟨h4.symm, rfl⟩⟩
  · obtain ⟨h1, h2, h4, h3⟩ := h
    exact ⟨i, ⟨by omega, by omega, h4, Or.inr hd⟩, Or.inr (Or.inr (Or.inl ⟨h2, hi, fun z => n2 ⟨z, h1⟩, fun z => n3 ⟨z, h1⟩, rfl⟩))⟩
  · have nf : t to = 46 ∨ t to = 47 := by rcases h with h | h | h | h <;> omega
    have hto : to < n ∧ to + 1 ≤ i := by rcases h with h | h | h | h <;> omega
    have hbt : Bh t n (frm t n) to := ⟨by omega, by omega, u2, Or.inr (fun z => by have := z.1; have := z.2; omega)⟩
    have hbe : Bh t n (to + 1) i := ⟨by omega, by omega, by
      rcases h with h | h | h | h
      · rw [h.2.2.1]; exact digs.nil (Nat.le_refl _)
      · exact h.2.2.2.1
      · rw [h.2.2.1]; exact digs.nil (Nat.le_refl _)
      · exact h.2.2.2.1, Or.inr hd⟩
    exact ⟨to, hbt, Or.inr (Or.inr (Or.inr ⟨u1, hto.1, nf, i, hbe, Or.inl ⟨Or.inr hi, rfl⟩⟩))⟩
/-- the reading comes to the end -/
theorem AU.fin {t : Nat → Nat} {n sl : Nat} {sa az : Int} (h : AU t n n sa sl az) : WR t n (if sa = 6 then (if az = 0 then -1 else (sl : Int)) else if sa = 2 ∨ sa = 4 then -1 else (n : Int)) := by
  rcases h with h | h | h | ⟨to, u1, u2, h⟩
  · obtain ⟨h1, h2, h3⟩ := h
    subst h1 h2
    exact ⟨0, ⟨by have := frm_r t 0; unfold frm; simp, by omega, digs.nil (by omega), Or.inl rfl⟩, Or.inl ⟨by unfold frm; simp, by simp⟩⟩
  · obtain ⟨h1, h2, h4, h3⟩ := h
    subst h1 h2
    exact ⟨1, ⟨by omega, by omega, digs.nil (by omega), Or.inl rfl⟩, Or.inl ⟨h4.symm, by simp⟩⟩
  · obtain ⟨h1, h2, h4, h3⟩ := h
    subst h1
    exact ⟨n, ⟨by omega, by omega, h4, Or.inl rfl⟩, Or.inr (Or.inl ⟨h2, rfl, by simp⟩)⟩
  · have nf : t to = 46 ∨ t to = 47 := by rcases h with h | h | h | h <;> omega
    have hto : to < n := by rcases h with h | h | h | h <;> omega
    have hbt : Bh t n (frm t n) to := ⟨by omega, by omega, u2, Or.inr (fun z => by have := z.1; have := z.2; omega)⟩
    have hbe : Bh t n (to + 1) n := ⟨by omega, by omega, by
      rcases h with h | h | h | h
      · rw [← h.2.2.1]; exact digs.nil (Nat.le_refl _)
      · exact h.2.2.2.1
      · rw [← h.2.2.1]; exact digs.nil (Nat.le_refl _)
      · exact h.2.2.2.1, Or.inl rfl⟩
    refine ⟨to, hbt, Or.inr (Or.inr (Or.inr ⟨u1, hto, nf, n, hbe, ?_⟩))⟩
    rcases h with h | h | h | h
    · rw [h.1]; exact Or.inl ⟨Or.inl h.2.2.1, by simp⟩
    · rw [h.1]; exact Or.inr ⟨h.2.2.1, rfl, Or.inr ⟨fun z => by omega, by simp⟩⟩
    · rw [h.1]; exact Or.inl ⟨Or.inl h.2.2.1, by simp⟩
    · obtain ⟨h1, h2, h3, h4, h5, h6⟩ := h
      rw [h1]
      refine Or.inr ⟨h3, rfl, ?_⟩
      rcases h6 with ⟨h6, h7⟩ | ⟨h6, h7⟩
      · exact Or.inl ⟨h2, h7, by simp [h6, h5]⟩
      · exact Or.inr ⟨fun z => h7 z.2, by simp [h6]⟩
set_option maxHeartbeats 4000000 in
set_option maxRecDepth 100000 in
theorem c_Ty_stateAfterFigure (l : Launch) (D : va_G) (sa : Int) (sz : Nat) (h0 : 0 ≤ sa ∧ sa ≤ 6) : Met l y_Ty_stateAfterFigure (wsB y_Ty_stateAfterFigure b_Ty_stateAfterFigure 1 (some .int)) ({ frames := 0, cells := 0, slots := 0, locals := 0 }) (va_Pc [.int (iZ sa)] (wPre D [] [] sz)) (va_QV (fun (v_9 : Option Value) (u_9 : Int) => v_9 = some (.int (iZ u_9)) ∧ (u_9 = saG sa)) (fun u_9 => wPost D [] [] [] sz) (va_A [] sz)) 0 0 (va_A [] sz) := by
  refine met_enter (by decide +kernel) (Nat.le_of_ble_eq_true rfl) ?_
  intro p e s m args below meth c ls A R Q H locs K hin hAe hA hR hQ hP hK hD hS hl
  obtain ⟨hx, hb, hml, hrt, hlk, hts, hown, hno⟩ := id K
  have hl : lv_has ls 1 [(0, .int (iZ sa))] := hl
  refine lv_iload_n hx hb d_Ty_stateAfterFigure_0 rfl (lv_at hl 0 rfl) ?_
  rcases (show sa = 3 ∨ sa = 4 ∨ sa = 5 ∨ sa = 6 ∨ (sa < 3 ∨ 6 < sa) by omega) with t1 | t1 | t1 | t1 | t1
  · refine zz_tsIn (q := 0) (tgt := 32) hx hb d_Ty_stateAfterFigure_1 (by omega) (by omega) (by omega) rfl (by decide) ?_
    refine lv_iconst (v := iZ (4)) hx hb d_Ty_stateAfterFigure_32 (by decide +kernel) ?_
    have hP9 : va_P D cls0 [] H := hP.sub [] rfl
    have hD9 : va_D A [] := hD.sub [] (by decide) rfl
    rw [hQ, ← hAe]
    refine r_i (v := (iZ 4)) K 4 hS d_Ty_stateAfterFigure_33 ?_ (fun t ht hv => ?_)
    · refine ⟨rfl, ?_⟩
      unfold saG
      repeat' split
      all_goals omega
    · exact ⟨by rw [ht]; exact hP9, va_K.moved hv hK, by rw [← hAe]; exact hD9⟩
  · refine zz_tsIn (q := 1) (tgt := 32) hx hb d_Ty_stateAfterFigure_1 (by omega) (by omega) (by omega) rfl (by decide) ?_
    refine lv_iconst (v := iZ (4)) hx hb d_Ty_stateAfterFigure_32 (by decide +kernel) ?_
    have hP9 : va_P D cls0 [] H := hP.sub [] rfl
    have hD9 : va_D A [] := hD.sub [] (by decide) rfl
    rw [hQ, ← hAe]
    refine r_i (v := (iZ 4)) K 4 hS d_Ty_stateAfterFigure_33 ?_ (fun t ht hv => ?_)
    · refine ⟨rfl, ?_⟩
      unfold saG
      repeat' split
      all_goals omega
    · exact ⟨by rw [ht]; exact hP9, va_K.moved hv hK, by rw [← hAe]; exact hD9⟩
  · refine zz_tsIn (q := 2) (tgt := 34) hx hb d_Ty_stateAfterFigure_1 (by omega) (by omega) (by omega) rfl (by decide) ?_
    refine lv_bipush (v := iZ (6)) hx hb d_Ty_stateAfterFigure_34 (by decide +kernel) ?_
    have hP9 : va_P D cls0 [] H := hP.sub [] rfl
    have hD9 : va_D A [] := hD.sub [] (by decide) rfl
    rw [hQ, ← hAe]
    refine r_i (v := (iZ 6)) K 6 hS d_Ty_stateAfterFigure_36 ?_ (fun t ht hv => ?_)
    · refine ⟨rfl, ?_⟩
      unfold saG
      repeat' split
      all_goals omega
    · exact ⟨by rw [ht]; exact hP9, va_K.moved hv hK, by rw [← hAe]; exact hD9⟩
  · refine zz_tsIn (q := 3) (tgt := 34) hx hb d_Ty_stateAfterFigure_1 (by omega) (by omega) (by omega) rfl (by decide) ?_
    refine lv_bipush (v := iZ (6)) hx hb d_Ty_stateAfterFigure_34 (by decide +kernel) ?_
    have hP9 : va_P D cls0 [] H := hP.sub [] rfl
    have hD9 : va_D A [] := hD.sub [] (by decide) rfl
    rw [hQ, ← hAe]
    refine r_i (v := (iZ 6)) K 6 hS d_Ty_stateAfterFigure_36 ?_ (fun t ht hv => ?_)
    · refine ⟨rfl, ?_⟩
      unfold saG
      repeat' split
      all_goals omega
    · exact ⟨by rw [ht]; exact hP9, va_K.moved hv hK, by rw [← hAe]; exact hD9⟩
  · refine zz_tsOut (tgt := 37) hx hb d_Ty_stateAfterFigure_1 (by decide) (by omega) (by omega) ?_
    refine lv_iconst (v := iZ (2)) hx hb d_Ty_stateAfterFigure_37 (by decide +kernel) ?_
    have hP9 : va_P D cls0 [] H := hP.sub [] rfl
    have hD9 : va_D A [] := hD.sub [] (by decide) rfl
    rw [hQ, ← hAe]
    refine r_i (v := (iZ 2)) K 2 hS d_Ty_stateAfterFigure_38 ?_ (fun t ht hv => ?_)
    · refine ⟨rfl, ?_⟩
      unfold saG
      repeat' split
      all_goals omega
    · exact ⟨by rw [ht]; exact hP9, va_K.moved hv hK, by rw [← hAe]; exact hD9⟩
set_option maxHeartbeats 4000000 in
set_option maxRecDepth 100000 in
theorem c_Ty_stateAfter (l : Launch) (D : va_G) (sa : Int) (ch : Nat) (sz : Nat) (h0 : 0 ≤ sa ∧ sa ≤ 6) (h1 : ch < 65536) : Met l y_Ty_stateAfter (wsB y_Ty_stateAfter b_Ty_stateAfter 2 (some .int)) ({ frames := 1, cells := 0, slots := 0, locals := 20 }) (va_Pc [.int (iZ sa), .int (iZ (ch : Int))] (wPre D [] [] sz)) (va_QV (fun (v_9 : Option Value) (u_9 : Int) => v_9 = some (.int (iZ u_9)) ∧ (u_9 = saF sa ch) ∧ (-1 ≤ u_9 ∧ u_9 ≤ 6)) (fun u_9 => wPost D [] [] [] sz) (va_A [] sz)) 0 0 (va_A [] sz) := by
  refine met_enter (by decide +kernel) (Nat.le_of_ble_eq_true rfl) ?_
  intro p e s m args below meth c ls A R Q H locs K hin hAe hA hR hQ hP hK hD hS hl
  obtain ⟨hx, hb, hml, hrt, hlk, hts, hown, hno⟩ := id K
  have hl : lv_has ls 2 [(0, .int (iZ sa)), (1, .int (iZ (ch : Int)))] := hl
  refine lv_iload_n hx hb d_Ty_stateAfter_0 rfl (lv_at hl 1 rfl) ?_
  refine lv_bipush (v := iZ (48)) hx hb d_Ty_stateAfter_1 (by decide +kernel) ?_
  refine zz_icmp_lt (tgt := 17) hx hb d_Ty_stateAfter_3 (by decide) (by omega) (by omega) (fun c3 => ?_) (fun c3 => ?_)
  · refine lv_iload_n hx hb d_Ty_stateAfter_17 rfl (lv_at hl 1 rfl) ?_
    refine lv_bipush (v := iZ (45)) hx hb d_Ty_stateAfter_18 (by decide +kernel) ?_
    refine zz_icmp_ne (tgt := 29) hx hb d_Ty_stateAfter_20 (by decide) (by omega) (by omega) (fun c20 => ?_) (fun c20 => ?_)
    · refine lv_iload_n hx hb d_Ty_stateAfter_29 rfl (lv_at hl 1 rfl) ?_
      refine lv_bipush (v := iZ (46)) hx hb d_Ty_stateAfter_30 (by decide +kernel) ?_
      refine zz_icmp_ne (tgt := 42) hx hb d_Ty_stateAfter_32 (by decide) (by omega) (by omega) (fun c32 => ?_) (fun c32 => ?_)
      · refine lv_iload_n hx hb d_Ty_stateAfter_42 rfl (lv_at hl 1 rfl) ?_
        refine lv_bipush (v := iZ (47)) hx hb d_Ty_stateAfter_43 (by decide +kernel) ?_
        refine zz_icmp_ne (tgt := 57) hx hb d_Ty_stateAfter_45 (by decide) (by omega) (by omega) (fun c45 => ?_) (fun c45 => ?_)
        · refine lv_iconst (v := iZ (-1)) hx hb d_Ty_stateAfter_57 (by decide +kernel) ?_
          have hP9 : va_P D cls0 [] H := hP.sub [] rfl
          have hD9 : va_D A [] := hD.sub [] (by decide) rfl
          rw [hQ, ← hAe]
          refine r_i (v := (iZ (-1))) K (-1) hS d_Ty_stateAfter_58 ?_ (fun t ht hv => ?_)
          · refine ⟨rfl, ?_, by decide⟩
            unfold saF
            repeat' split
            all_goals first | rfl | omega | (exfalso; omega)
          · exact ⟨by rw [ht]; exact hP9, va_K.moved hv hK, by rw [← hAe]; exact hD9⟩
        · refine lv_iload_n hx hb d_Ty_stateAfter_48 rfl (lv_at hl 0 rfl) ?_
          refine lv_iconst (v := iZ (2)) hx hb d_Ty_stateAfter_49 (by decide +kernel) ?_
          refine zz_icmp_ne (tgt := 57) hx hb d_Ty_stateAfter_50 (by decide) (by omega) (by omega) (fun c50 => ?_) (fun c50 => ?_)
          · refine lv_iconst (v := iZ (-1)) hx hb d_Ty_stateAfter_57 (by decide +kernel) ?_
            have hP9 : va_P D cls0 [] H := hP.sub [] rfl
            have hD9 : va_D A [] := hD.sub [] (by decide) rfl
            rw [hQ, ← hAe]
            refine r_i (v := (iZ (-1))) K (-1) hS d_Ty_stateAfter_58 ?_ (fun t ht hv => ?_)
            · refine ⟨rfl, ?_, by decide⟩
              unfold saF
              repeat' split
              all_goals first | rfl | omega | (exfalso; omega)
            · exact ⟨by rw [ht]; exact hP9, va_K.moved hv hK, by rw [← hAe]; exact hD9⟩
          · refine lv_iconst (v := iZ (5)) hx hb d_Ty_stateAfter_53 (by decide +kernel) ?_
            refine lv_goto (tgt := 58) hx hb d_Ty_stateAfter_54 (by decide) ?_
            have hP9 : va_P D cls0 [] H := hP.sub [] rfl
            have hD9 : va_D A [] := hD.sub [] (by decide) rfl
            rw [hQ, ← hAe]
            refine r_i (v := (iZ 5)) K 5 hS d_Ty_stateAfter_58 ?_ (fun t ht hv => ?_)
            · refine ⟨rfl, ?_, by decide⟩
              unfold saF
              repeat' split
              all_goals first | rfl | omega | (exfalso; omega)
            · exact ⟨by rw [ht]; exact hP9, va_K.moved hv hK, by rw [← hAe]; exact hD9⟩
      · refine lv_iload_n hx hb d_Ty_stateAfter_35 rfl (lv_at hl 0 rfl) ?_
        refine lv_iconst (v := iZ (2)) hx hb d_Ty_stateAfter_36 (by decide +kernel) ?_
        refine zz_icmp_ne (tgt := 42) hx hb d_Ty_stateAfter_37 (by decide) (by omega) (by omega) (fun c37 => ?_) (fun c37 => ?_)
        · refine lv_iload_n hx hb d_Ty_stateAfter_42 rfl (lv_at hl 1 rfl) ?_
          refine lv_bipush (v := iZ (47)) hx hb d_Ty_stateAfter_43 (by decide +kernel) ?_
          refine zz_icmp_ne (tgt := 57) hx hb d_Ty_stateAfter_45 (by decide) (by omega) (by omega) (fun c45 => ?_) (fun c45 => ?_)
          · refine lv_iconst (v := iZ (-1)) hx hb d_Ty_stateAfter_57 (by decide +kernel) ?_
            have hP9 : va_P D cls0 [] H := hP.sub [] rfl
            have hD9 : va_D A [] := hD.sub [] (by decide) rfl
            rw [hQ, ← hAe]
            refine r_i (v := (iZ (-1))) K (-1) hS d_Ty_stateAfter_58 ?_ (fun t ht hv => ?_)
            · refine ⟨rfl, ?_, by decide⟩
              unfold saF
              repeat' split
              all_goals first | rfl | omega | (exfalso; omega)
            · exact ⟨by rw [ht]; exact hP9, va_K.moved hv hK, by rw [← hAe]; exact hD9⟩
          · refine lv_iload_n hx hb d_Ty_stateAfter_48 rfl (lv_at hl 0 rfl) ?_
            refine lv_iconst (v := iZ (2)) hx hb d_Ty_stateAfter_49 (by decide +kernel) ?_
            refine zz_icmp_ne (tgt := 57) hx hb d_Ty_stateAfter_50 (by decide) (by omega) (by omega) (fun c50 => ?_) (fun c50 => ?_)
            · refine lv_iconst (v := iZ (-1)) hx hb d_Ty_stateAfter_57 (by decide +kernel) ?_
              have hP9 : va_P D cls0 [] H := hP.sub [] rfl
              have hD9 : va_D A [] := hD.sub [] (by decide) rfl
              rw [hQ, ← hAe]
              refine r_i (v := (iZ (-1))) K (-1) hS d_Ty_stateAfter_58 ?_ (fun t ht hv => ?_)
              · refine ⟨rfl, ?_, by decide⟩
                unfold saF
                repeat' split
                all_goals first | rfl | omega | (exfalso; omega)
              · exact ⟨by rw [ht]; exact hP9, va_K.moved hv hK, by rw [← hAe]; exact hD9⟩
            · refine lv_iconst (v := iZ (5)) hx hb d_Ty_stateAfter_53 (by decide +kernel) ?_
              refine lv_goto (tgt := 58) hx hb d_Ty_stateAfter_54 (by decide) ?_
              have hP9 : va_P D cls0 [] H := hP.sub [] rfl
              have hD9 : va_D A [] := hD.sub [] (by decide) rfl
              rw [hQ, ← hAe]
              refine r_i (v := (iZ 5)) K 5 hS d_Ty_stateAfter_58 ?_ (fun t ht hv => ?_)
              · refine ⟨rfl, ?_, by decide⟩
                unfold saF
                repeat' split
                all_goals first | rfl | omega | (exfalso; omega)
              · exact ⟨by rw [ht]; exact hP9, va_K.moved hv hK, by rw [← hAe]; exact hD9⟩
        · refine lv_iconst (v := iZ (3)) hx hb d_Ty_stateAfter_40 (by decide +kernel) ?_
          have hP9 : va_P D cls0 [] H := hP.sub [] rfl
          have hD9 : va_D A [] := hD.sub [] (by decide) rfl
          rw [hQ, ← hAe]
          refine r_i (v := (iZ 3)) K 3 hS d_Ty_stateAfter_41 ?_ (fun t ht hv => ?_)
          · refine ⟨rfl, ?_, by decide⟩
            unfold saF
            repeat' split
            all_goals first | rfl | omega | (exfalso; omega)
          · exact ⟨by rw [ht]; exact hP9, va_K.moved hv hK, by rw [← hAe]; exact hD9⟩
    · refine lv_iload_n hx hb d_Ty_stateAfter_23 rfl (lv_at hl 0 rfl) ?_
      refine zz_if_ne (tgt := 29) hx hb d_Ty_stateAfter_24 (by decide) (by omega) (fun c24 => ?_) (fun c24 => ?_)
      · refine lv_iload_n hx hb d_Ty_stateAfter_29 rfl (lv_at hl 1 rfl) ?_
        refine lv_bipush (v := iZ (46)) hx hb d_Ty_stateAfter_30 (by decide +kernel) ?_
        refine zz_icmp_ne (tgt := 42) hx hb d_Ty_stateAfter_32 (by decide) (by omega) (by omega) (fun c32 => ?_) (fun c32 => ?_)
        · refine lv_iload_n hx hb d_Ty_stateAfter_42 rfl (lv_at hl 1 rfl) ?_
          refine lv_bipush (v := iZ (47)) hx hb d_Ty_stateAfter_43 (by decide +kernel) ?_
          refine zz_icmp_ne (tgt := 57) hx hb d_Ty_stateAfter_45 (by decide) (by omega) (by omega) (fun c45 => ?_) (fun c45 => ?_)
          · refine lv_iconst (v := iZ (-1)) hx hb d_Ty_stateAfter_57 (by decide +kernel) ?_
            have hP9 : va_P D cls0 [] H := hP.sub [] rfl
            have hD9 : va_D A [] := hD.sub [] (by decide) rfl
            rw [hQ, ← hAe]
            refine r_i (v := (iZ (-1))) K (-1) hS d_Ty_stateAfter_58 ?_ (fun t ht hv => ?_)
            · refine ⟨rfl, ?_, by decide⟩
              unfold saF
              repeat' split
              all_goals first | rfl | omega | (exfalso; omega)
            · exact ⟨by rw [ht]; exact hP9, va_K.moved hv hK, by rw [← hAe]; exact hD9⟩
          · refine lv_iload_n hx hb d_Ty_stateAfter_48 rfl (lv_at hl 0 rfl) ?_
            refine lv_iconst (v := iZ (2)) hx hb d_Ty_stateAfter_49 (by decide +kernel) ?_
            refine zz_icmp_ne (tgt := 57) hx hb d_Ty_stateAfter_50 (by decide) (by omega) (by omega) (fun c50 => ?_) (fun c50 => ?_)
            · refine lv_iconst (v := iZ (-1)) hx hb d_Ty_stateAfter_57 (by decide +kernel) ?_
              have hP9 : va_P D cls0 [] H := hP.sub [] rfl
              have hD9 : va_D A [] := hD.sub [] (by decide) rfl
              rw [hQ, ← hAe]
              refine r_i (v := (iZ (-1))) K (-1) hS d_Ty_stateAfter_58 ?_ (fun t ht hv => ?_)
              · refine ⟨rfl, ?_, by decide⟩
                unfold saF
                repeat' split
                all_goals first | rfl | omega | (exfalso; omega)
              · exact ⟨by rw [ht]; exact hP9, va_K.moved hv hK, by rw [← hAe]; exact hD9⟩
            · refine lv_iconst (v := iZ (5)) hx hb d_Ty_stateAfter_53 (by decide +kernel) ?_
              refine lv_goto (tgt := 58) hx hb d_Ty_stateAfter_54 (by decide) ?_
              have hP9 : va_P D cls0 [] H := hP.sub [] rfl
              have hD9 : va_D A [] := hD.sub [] (by decide) rfl
              rw [hQ, ← hAe]
              refine r_i (v := (iZ 5)) K 5 hS d_Ty_stateAfter_58 ?_ (fun t ht hv => ?_)
              · refine ⟨rfl, ?_, by decide⟩
                unfold saF
                repeat' split
                all_goals first | rfl | omega | (exfalso; omega)
              · exact ⟨by rw [ht]; exact hP9, va_K.moved hv hK, by rw [← hAe]; exact hD9⟩
        · refine lv_iload_n hx hb d_Ty_stateAfter_35 rfl (lv_at hl 0 rfl) ?_
          refine lv_iconst (v := iZ (2)) hx hb d_Ty_stateAfter_36 (by decide +kernel) ?_
          refine zz_icmp_ne (tgt := 42) hx hb d_Ty_stateAfter_37 (by decide) (by omega) (by omega) (fun c37 => ?_) (fun c37 => ?_)
          · refine lv_iload_n hx hb d_Ty_stateAfter_42 rfl (lv_at hl 1 rfl) ?_
            refine lv_bipush (v := iZ (47)) hx hb d_Ty_stateAfter_43 (by decide +kernel) ?_
            refine zz_icmp_ne (tgt := 57) hx hb d_Ty_stateAfter_45 (by decide) (by omega) (by omega) (fun c45 => ?_) (fun c45 => ?_)
            · refine lv_iconst (v := iZ (-1)) hx hb d_Ty_stateAfter_57 (by decide +kernel) ?_
              have hP9 : va_P D cls0 [] H := hP.sub [] rfl
              have hD9 : va_D A [] := hD.sub [] (by decide) rfl
              rw [hQ, ← hAe]
              refine r_i (v := (iZ (-1))) K (-1) hS d_Ty_stateAfter_58 ?_ (fun t ht hv => ?_)
              · refine ⟨rfl, ?_, by decide⟩
                unfold saF
                repeat' split
                all_goals first | rfl | omega | (exfalso; omega)
              · exact ⟨by rw [ht]; exact hP9, va_K.moved hv hK, by rw [← hAe]; exact hD9⟩
            · refine lv_iload_n hx hb d_Ty_stateAfter_48 rfl (lv_at hl 0 rfl) ?_
              refine lv_iconst (v := iZ (2)) hx hb d_Ty_stateAfter_49 (by decide +kernel) ?_
              refine zz_icmp_ne (tgt := 57) hx hb d_Ty_stateAfter_50 (by decide) (by omega) (by omega) (fun c50 => ?_) (fun c50 => ?_)
              · refine lv_iconst (v := iZ (-1)) hx hb d_Ty_stateAfter_57 (by decide +kernel) ?_
                have hP9 : va_P D cls0 [] H := hP.sub [] rfl
                have hD9 : va_D A [] := hD.sub [] (by decide) rfl
                rw [hQ, ← hAe]
                refine r_i (v := (iZ (-1))) K (-1) hS d_Ty_stateAfter_58 ?_ (fun t ht hv => ?_)
                · refine ⟨rfl, ?_, by decide⟩
                  unfold saF
                  repeat' split
                  all_goals first | rfl | omega | (exfalso; omega)
                · exact ⟨by rw [ht]; exact hP9, va_K.moved hv hK, by rw [← hAe]; exact hD9⟩
              · refine lv_iconst (v := iZ (5)) hx hb d_Ty_stateAfter_53 (by decide +kernel) ?_
                refine lv_goto (tgt := 58) hx hb d_Ty_stateAfter_54 (by decide) ?_
                have hP9 : va_P D cls0 [] H := hP.sub [] rfl
                have hD9 : va_D A [] := hD.sub [] (by decide) rfl
                rw [hQ, ← hAe]
                refine r_i (v := (iZ 5)) K 5 hS d_Ty_stateAfter_58 ?_ (fun t ht hv => ?_)
                · refine ⟨rfl, ?_, by decide⟩
                  unfold saF
                  repeat' split
                  all_goals first | rfl | omega | (exfalso; omega)
                · exact ⟨by rw [ht]; exact hP9, va_K.moved hv hK, by rw [← hAe]; exact hD9⟩
          · refine lv_iconst (v := iZ (3)) hx hb d_Ty_stateAfter_40 (by decide +kernel) ?_
            have hP9 : va_P D cls0 [] H := hP.sub [] rfl
            have hD9 : va_D A [] := hD.sub [] (by decide) rfl
            rw [hQ, ← hAe]
            refine r_i (v := (iZ 3)) K 3 hS d_Ty_stateAfter_41 ?_ (fun t ht hv => ?_)
            · refine ⟨rfl, ?_, by decide⟩
              unfold saF
              repeat' split
              all_goals first | rfl | omega | (exfalso; omega)
            · exact ⟨by rw [ht]; exact hP9, va_K.moved hv hK, by rw [← hAe]; exact hD9⟩
      · refine lv_iconst (v := iZ (1)) hx hb d_Ty_stateAfter_27 (by decide +kernel) ?_
        have hP9 : va_P D cls0 [] H := hP.sub [] rfl
        have hD9 : va_D A [] := hD.sub [] (by decide) rfl
        rw [hQ, ← hAe]
        refine r_i (v := (iZ 1)) K 1 hS d_Ty_stateAfter_28 ?_ (fun t ht hv => ?_)
        · refine ⟨rfl, ?_, by decide⟩
          unfold saF
          repeat' split
          all_goals first | rfl | omega | (exfalso; omega)
        · exact ⟨by rw [ht]; exact hP9, va_K.moved hv hK, by rw [← hAe]; exact hD9⟩
  · refine lv_iload_n hx hb d_Ty_stateAfter_6 rfl (lv_at hl 1 rfl) ?_
    refine lv_bipush (v := iZ (57)) hx hb d_Ty_stateAfter_7 (by decide +kernel) ?_
    refine zz_icmp_gt (tgt := 17) hx hb d_Ty_stateAfter_9 (by decide) (by omega) (by omega) (fun c9 => ?_) (fun c9 => ?_)
    · refine lv_iload_n hx hb d_Ty_stateAfter_17 rfl (lv_at hl 1 rfl) ?_
      refine lv_bipush (v := iZ (45)) hx hb d_Ty_stateAfter_18 (by decide +kernel) ?_
      refine zz_icmp_ne (tgt := 29) hx hb d_Ty_stateAfter_20 (by decide) (by omega) (by omega) (fun c20 => ?_) (fun c20 => ?_)
      · refine lv_iload_n hx hb d_Ty_stateAfter_29 rfl (lv_at hl 1 rfl) ?_
        refine lv_bipush (v := iZ (46)) hx hb d_Ty_stateAfter_30 (by decide +kernel) ?_
        refine zz_icmp_ne (tgt := 42) hx hb d_Ty_stateAfter_32 (by decide) (by omega) (by omega) (fun c32 => ?_) (fun c32 => ?_)
        · refine lv_iload_n hx hb d_Ty_stateAfter_42 rfl (lv_at hl 1 rfl) ?_
          refine lv_bipush (v := iZ (47)) hx hb d_Ty_stateAfter_43 (by decide +kernel) ?_
          refine zz_icmp_ne (tgt := 57) hx hb d_Ty_stateAfter_45 (by decide) (by omega) (by omega) (fun c45 => ?_) (fun c45 => ?_)
          · refine lv_iconst (v := iZ (-1)) hx hb d_Ty_stateAfter_57 (by decide +kernel) ?_
            have hP9 : va_P D cls0 [] H := hP.sub [] rfl
            have hD9 : va_D A [] := hD.sub [] (by decide) rfl
            rw [hQ, ← hAe]
            refine r_i (v := (iZ (-1))) K (-1) hS d_Ty_stateAfter_58 ?_ (fun t ht hv => ?_)
            · refine ⟨rfl, ?_, by decide⟩
              unfold saF
              repeat' split
              all_goals first | rfl | omega | (exfalso; omega)
            · exact ⟨by rw [ht]; exact hP9, va_K.moved hv hK, by rw [← hAe]; exact hD9⟩
          · refine lv_iload_n hx hb d_Ty_stateAfter_48 rfl (lv_at hl 0 rfl) ?_
            refine lv_iconst (v := iZ (2)) hx hb d_Ty_stateAfter_49 (by decide +kernel) ?_
            refine zz_icmp_ne (tgt := 57) hx hb d_Ty_stateAfter_50 (by decide) (by omega) (by omega) (fun c50 => ?_) (fun c50 => ?_)
            · refine lv_iconst (v := iZ (-1)) hx hb d_Ty_stateAfter_57 (by decide +kernel) ?_
              have hP9 : va_P D cls0 [] H := hP.sub [] rfl
              have hD9 : va_D A [] := hD.sub [] (by decide) rfl
              rw [hQ, ← hAe]
              refine r_i (v := (iZ (-1))) K (-1) hS d_Ty_stateAfter_58 ?_ (fun t ht hv => ?_)
              · refine ⟨rfl, ?_, by decide⟩
                unfold saF
                repeat' split
                all_goals first | rfl | omega | (exfalso; omega)
              · exact ⟨by rw [ht]; exact hP9, va_K.moved hv hK, by rw [← hAe]; exact hD9⟩
            · refine lv_iconst (v := iZ (5)) hx hb d_Ty_stateAfter_53 (by decide +kernel) ?_
              refine lv_goto (tgt := 58) hx hb d_Ty_stateAfter_54 (by decide) ?_
              have hP9 : va_P D cls0 [] H := hP.sub [] rfl
              have hD9 : va_D A [] := hD.sub [] (by decide) rfl
              rw [hQ, ← hAe]
              refine r_i (v := (iZ 5)) K 5 hS d_Ty_stateAfter_58 ?_ (fun t ht hv => ?_)
              · refine ⟨rfl, ?_, by decide⟩
                unfold saF
                repeat' split
                all_goals first | rfl | omega | (exfalso; omega)
              · exact ⟨by rw [ht]; exact hP9, va_K.moved hv hK, by rw [← hAe]; exact hD9⟩
        · refine lv_iload_n hx hb d_Ty_stateAfter_35 rfl (lv_at hl 0 rfl) ?_
          refine lv_iconst (v := iZ (2)) hx hb d_Ty_stateAfter_36 (by decide +kernel) ?_
          refine zz_icmp_ne (tgt := 42) hx hb d_Ty_stateAfter_37 (by decide) (by omega) (by omega) (fun c37 => ?_) (fun c37 => ?_)
          · refine lv_iload_n hx hb d_Ty_stateAfter_42 rfl (lv_at hl 1 rfl) ?_
            refine lv_bipush (v := iZ (47)) hx hb d_Ty_stateAfter_43 (by decide +kernel) ?_
            refine zz_icmp_ne (tgt := 57) hx hb d_Ty_stateAfter_45 (by decide) (by omega) (by omega) (fun c45 => ?_) (fun c45 => ?_)
            · refine lv_iconst (v := iZ (-1)) hx hb d_Ty_stateAfter_57 (by decide +kernel) ?_
              have hP9 : va_P D cls0 [] H := hP.sub [] rfl
              have hD9 : va_D A [] := hD.sub [] (by decide) rfl
              rw [hQ, ← hAe]
              refine r_i (v := (iZ (-1))) K (-1) hS d_Ty_stateAfter_58 ?_ (fun t ht hv => ?_)
              · refine ⟨rfl, ?_, by decide⟩
                unfold saF
                repeat' split
                all_goals first | rfl | omega | (exfalso; omega)
              · exact ⟨by rw [ht]; exact hP9, va_K.moved hv hK, by rw [← hAe]; exact hD9⟩
            · refine lv_iload_n hx hb d_Ty_stateAfter_48 rfl (lv_at hl 0 rfl) ?_
              refine lv_iconst (v := iZ (2)) hx hb d_Ty_stateAfter_49 (by decide +kernel) ?_
              refine zz_icmp_ne (tgt := 57) hx hb d_Ty_stateAfter_50 (by decide) (by omega) (by omega) (fun c50 => ?_) (fun c50 => ?_)
              · refine lv_iconst (v := iZ (-1)) hx hb d_Ty_stateAfter_57 (by decide +kernel) ?_
                have hP9 : va_P D cls0 [] H := hP.sub [] rfl
                have hD9 : va_D A [] := hD.sub [] (by decide) rfl
                rw [hQ, ← hAe]
                refine r_i (v := (iZ (-1))) K (-1) hS d_Ty_stateAfter_58 ?_ (fun t ht hv => ?_)
                · refine ⟨rfl, ?_, by decide⟩
                  unfold saF
                  repeat' split
                  all_goals first | rfl | omega | (exfalso; omega)
                · exact ⟨by rw [ht]; exact hP9, va_K.moved hv hK, by rw [← hAe]; exact hD9⟩
              · refine lv_iconst (v := iZ (5)) hx hb d_Ty_stateAfter_53 (by decide +kernel) ?_
                refine lv_goto (tgt := 58) hx hb d_Ty_stateAfter_54 (by decide) ?_
                have hP9 : va_P D cls0 [] H := hP.sub [] rfl
                have hD9 : va_D A [] := hD.sub [] (by decide) rfl
                rw [hQ, ← hAe]
                refine r_i (v := (iZ 5)) K 5 hS d_Ty_stateAfter_58 ?_ (fun t ht hv => ?_)
                · refine ⟨rfl, ?_, by decide⟩
                  unfold saF
                  repeat' split
                  all_goals first | rfl | omega | (exfalso; omega)
                · exact ⟨by rw [ht]; exact hP9, va_K.moved hv hK, by rw [← hAe]; exact hD9⟩
          · refine lv_iconst (v := iZ (3)) hx hb d_Ty_stateAfter_40 (by decide +kernel) ?_
            have hP9 : va_P D cls0 [] H := hP.sub [] rfl
            have hD9 : va_D A [] := hD.sub [] (by decide) rfl
            rw [hQ, ← hAe]
            refine r_i (v := (iZ 3)) K 3 hS d_Ty_stateAfter_41 ?_ (fun t ht hv => ?_)
            · refine ⟨rfl, ?_, by decide⟩
              unfold saF
              repeat' split
              all_goals first | rfl | omega | (exfalso; omega)
            · exact ⟨by rw [ht]; exact hP9, va_K.moved hv hK, by rw [← hAe]; exact hD9⟩
      · refine lv_iload_n hx hb d_Ty_stateAfter_23 rfl (lv_at hl 0 rfl) ?_
        refine zz_if_ne (tgt := 29) hx hb d_Ty_stateAfter_24 (by decide) (by omega) (fun c24 => ?_) (fun c24 => ?_)
        · refine lv_iload_n hx hb d_Ty_stateAfter_29 rfl (lv_at hl 1 rfl) ?_
          refine lv_bipush (v := iZ (46)) hx hb d_Ty_stateAfter_30 (by decide +kernel) ?_
          refine zz_icmp_ne (tgt := 42) hx hb d_Ty_stateAfter_32 (by decide) (by omega) (by omega) (fun c32 => ?_) (fun c32 => ?_)
          · refine lv_iload_n hx hb d_Ty_stateAfter_42 rfl (lv_at hl 1 rfl) ?_
            refine lv_bipush (v := iZ (47)) hx hb d_Ty_stateAfter_43 (by decide +kernel) ?_
            refine zz_icmp_ne (tgt := 57) hx hb d_Ty_stateAfter_45 (by decide) (by omega) (by omega) (fun c45 => ?_) (fun c45 => ?_)
            · refine lv_iconst (v := iZ (-1)) hx hb d_Ty_stateAfter_57 (by decide +kernel) ?_
              have hP9 : va_P D cls0 [] H := hP.sub [] rfl
              have hD9 : va_D A [] := hD.sub [] (by decide) rfl
              rw [hQ, ← hAe]
              refine r_i (v := (iZ (-1))) K (-1) hS d_Ty_stateAfter_58 ?_ (fun t ht hv => ?_)
              · refine ⟨rfl, ?_, by decide⟩
                unfold saF
                repeat' split
                all_goals first | rfl | omega | (exfalso; omega)
              · exact ⟨by rw [ht]; exact hP9, va_K.moved hv hK, by rw [← hAe]; exact hD9⟩
            · refine lv_iload_n hx hb d_Ty_stateAfter_48 rfl (lv_at hl 0 rfl) ?_
              refine lv_iconst (v := iZ (2)) hx hb d_Ty_stateAfter_49 (by decide +kernel) ?_
              refine zz_icmp_ne (tgt := 57) hx hb d_Ty_stateAfter_50 (by decide) (by omega) (by omega) (fun c50 => ?_) (fun c50 => ?_)
              · refine lv_iconst (v := iZ (-1)) hx hb d_Ty_stateAfter_57 (by decide +kernel) ?_
                have hP9 : va_P D cls0 [] H := hP.sub [] rfl
                have hD9 : va_D A [] := hD.sub [] (by decide) rfl
                rw [hQ, ← hAe]
                refine r_i (v := (iZ (-1))) K (-1) hS d_Ty_stateAfter_58 ?_ (fun t ht hv => ?_)
                · refine ⟨rfl, ?_, by decide⟩
                  unfold saF
                  repeat' split
                  all_goals first | rfl | omega | (exfalso; omega)
                · exact ⟨by rw [ht]; exact hP9, va_K.moved hv hK, by rw [← hAe]; exact hD9⟩
              · refine lv_iconst (v := iZ (5)) hx hb d_Ty_stateAfter_53 (by decide +kernel) ?_
                refine lv_goto (tgt := 58) hx hb d_Ty_stateAfter_54 (by decide) ?_
                have hP9 : va_P D cls0 [] H := hP.sub [] rfl
                have hD9 : va_D A [] := hD.sub [] (by decide) rfl
                rw [hQ, ← hAe]
                refine r_i (v := (iZ 5)) K 5 hS d_Ty_stateAfter_58 ?_ (fun t ht hv => ?_)
                · refine ⟨rfl, ?_, by decide⟩
                  unfold saF
                  repeat' split
                  all_goals first | rfl | omega | (exfalso; omega)
                · exact ⟨by rw [ht]; exact hP9, va_K.moved hv hK, by rw [← hAe]; exact hD9⟩
          · refine lv_iload_n hx hb d_Ty_stateAfter_35 rfl (lv_at hl 0 rfl) ?_
            refine lv_iconst (v := iZ (2)) hx hb d_Ty_stateAfter_36 (by decide +kernel) ?_
            refine zz_icmp_ne (tgt := 42) hx hb d_Ty_stateAfter_37 (by decide) (by omega) (by omega) (fun c37 => ?_) (fun c37 => ?_)
            · refine lv_iload_n hx hb d_Ty_stateAfter_42 rfl (lv_at hl 1 rfl) ?_
              refine lv_bipush (v := iZ (47)) hx hb d_Ty_stateAfter_43 (by decide +kernel) ?_
              refine zz_icmp_ne (tgt := 57) hx hb d_Ty_stateAfter_45 (by decide) (by omega) (by omega) (fun c45 => ?_) (fun c45 => ?_)
              · refine lv_iconst (v := iZ (-1)) hx hb d_Ty_stateAfter_57 (by decide +kernel) ?_
                have hP9 : va_P D cls0 [] H := hP.sub [] rfl
                have hD9 : va_D A [] := hD.sub [] (by decide) rfl
                rw [hQ, ← hAe]
                refine r_i (v := (iZ (-1))) K (-1) hS d_Ty_stateAfter_58 ?_ (fun t ht hv => ?_)
                · refine ⟨rfl, ?_, by decide⟩
                  unfold saF
                  repeat' split
                  all_goals first | rfl | omega | (exfalso; omega)
                · exact ⟨by rw [ht]; exact hP9, va_K.moved hv hK, by rw [← hAe]; exact hD9⟩
              · refine lv_iload_n hx hb d_Ty_stateAfter_48 rfl (lv_at hl 0 rfl) ?_
                refine lv_iconst (v := iZ (2)) hx hb d_Ty_stateAfter_49 (by decide +kernel) ?_
                refine zz_icmp_ne (tgt := 57) hx hb d_Ty_stateAfter_50 (by decide) (by omega) (by omega) (fun c50 => ?_) (fun c50 => ?_)
                · refine lv_iconst (v := iZ (-1)) hx hb d_Ty_stateAfter_57 (by decide +kernel) ?_
                  have hP9 : va_P D cls0 [] H := hP.sub [] rfl
                  have hD9 : va_D A [] := hD.sub [] (by decide) rfl
                  rw [hQ, ← hAe]
                  refine r_i (v := (iZ (-1))) K (-1) hS d_Ty_stateAfter_58 ?_ (fun t ht hv => ?_)
                  · refine ⟨rfl, ?_, by decide⟩
                    unfold saF
                    repeat' split
                    all_goals first | rfl | omega | (exfalso; omega)
                  · exact ⟨by rw [ht]; exact hP9, va_K.moved hv hK, by rw [← hAe]; exact hD9⟩
                · refine lv_iconst (v := iZ (5)) hx hb d_Ty_stateAfter_53 (by decide +kernel) ?_
                  refine lv_goto (tgt := 58) hx hb d_Ty_stateAfter_54 (by decide) ?_
                  have hP9 : va_P D cls0 [] H := hP.sub [] rfl
                  have hD9 : va_D A [] := hD.sub [] (by decide) rfl
                  rw [hQ, ← hAe]
                  refine r_i (v := (iZ 5)) K 5 hS d_Ty_stateAfter_58 ?_ (fun t ht hv => ?_)
                  · refine ⟨rfl, ?_, by decide⟩
                    unfold saF
                    repeat' split
                    all_goals first | rfl | omega | (exfalso; omega)
                  · exact ⟨by rw [ht]; exact hP9, va_K.moved hv hK, by rw [← hAe]; exact hD9⟩
            · refine lv_iconst (v := iZ (3)) hx hb d_Ty_stateAfter_40 (by decide +kernel) ?_
              have hP9 : va_P D cls0 [] H := hP.sub [] rfl
              have hD9 : va_D A [] := hD.sub [] (by decide) rfl
              rw [hQ, ← hAe]
              refine r_i (v := (iZ 3)) K 3 hS d_Ty_stateAfter_41 ?_ (fun t ht hv => ?_)
              · refine ⟨rfl, ?_, by decide⟩
                unfold saF
                repeat' split
                all_goals first | rfl | omega | (exfalso; omega)
              · exact ⟨by rw [ht]; exact hP9, va_K.moved hv hK, by rw [← hAe]; exact hD9⟩
        · refine lv_iconst (v := iZ (1)) hx hb d_Ty_stateAfter_27 (by decide +kernel) ?_
          have hP9 : va_P D cls0 [] H := hP.sub [] rfl
          have hD9 : va_D A [] := hD.sub [] (by decide) rfl
          rw [hQ, ← hAe]
          refine r_i (v := (iZ 1)) K 1 hS d_Ty_stateAfter_28 ?_ (fun t ht hv => ?_)
          · refine ⟨rfl, ?_, by decide⟩
            unfold saF
            repeat' split
            all_goals first | rfl | omega | (exfalso; omega)
          · exact ⟨by rw [ht]; exact hP9, va_K.moved hv hK, by rw [← hAe]; exact hD9⟩
    · refine lv_iload_n hx hb d_Ty_stateAfter_12 rfl (lv_at hl 0 rfl) ?_
      refine cs (n := 1) (wr := []) (w1 := (fun (u : Int) => [])) (As := [.int (iZ sa)]) (rest := []) K hP hD hK hS hA hl.1 (c_Ty_stateAfterFigure l D sa H.size (by omega)) [] [] [] rfl rfl rfl (by decide) (by decide) (by decide) (big_in mw_1071 rfl) (big_in mw_7 rfl) (big_in mw_1069 rfl) (big_in mw_1070 rfl) rfl rfl (by decide +kernel) ⟨by rw [hR]; exact Nat.le_of_ble_eq_true rfl, by rw [hR]; exact Nat.le_of_ble_eq_true rfl⟩ rfl (Nat.le_of_ble_eq_true rfl) d_Ty_stateAfter_13 ⟨by rw [hR]; exact Nat.le_of_ble_eq_true rfl, by rw [hR]; exact Nat.le_of_ble_eq_true rfl⟩ rfl (fun v u H locs hp1 hP hD hS _ => ?_)
      obtain ⟨rg, rfl⟩ : ∃ z, z = u := ⟨_, rfl⟩
      obtain ⟨rfl, gg⟩ := hp1
      have hP : va_P D cls0 [] H := hP
      have hD : va_D A [] := hD
      show W p l e R s m args below meth c H locs _ _ Q (F0 m 16 ls [.int (iZ rg)])
      have hP9 : va_P D cls0 [] H := hP.sub [] rfl
      have hD9 : va_D A [] := hD.sub [] (by decide) rfl
      rw [hQ, ← hAe]
      refine r_i (v := (iZ rg)) K rg hS d_Ty_stateAfter_16 ?_ (fun t ht hv => ?_)
      · have q : rg = saF sa ch := by unfold saF; rw [if_pos (by omega)]; exact gg
        refine ⟨rfl, q, ?_⟩
        rw [gg]; unfold saG
        repeat' split
        all_goals omega
      · exact ⟨by rw [ht]; exact hP9, va_K.moved hv hK, by rw [← hAe]; exact hD9⟩
set_option maxHeartbeats 4000000 in
set_option maxRecDepth 100000 in
/-- faultOfText() -/
theorem c_Ty_faultOfText (l : Launch) (D : va_G) (hy : Nat) (ay : Nat) (fy : Nat → Int32) (ql : Int32) (cC : ClassId) (qc : Int32) (tx : Nat → Nat) (jd : Nat) (sz : Nat) (hjd : jd ≤ 400) (htx : ∀ j, j < jd → fy j = iZ (tx j : Int) ∧ tx j < 65536) : Met l y_Ty_faultOfText (wsB y_Ty_faultOfText b_Ty_faultOfText 6 (some .int)) ({ frames := 2, cells := 0, slots := 0, locals := 41 }) (va_Pc [.ref hy] (wPre D [(cC, .char)] [(hy, .inr (5, [.ref ay, .int qc, .int (iZ (jd : Int)), .int ql])), (ay, .inl (cC, 400, .inl fy))] sz)) (va_QV (fun (v_9 : Option Value) (u_9 : Int) => v_9 = some (.int (iZ u_9)) ∧ (WR tx jd u_9) ∧ (-1 ≤ u_9 ∧ u_9 ≤ 400)) (fun u_9 => wPost D [(cC, .char)] [(hy, .inr (5, [.ref ay, .int qc, .int (iZ (jd : Int)), .int ql])), (ay, .inl (cC, 400, .inl fy))] [(hy, .inr (5, [.ref ay, .int qc, .int (iZ (jd : Int)), .int ql])), (ay, .inl (cC, 400, .inl fy))] sz) (va_A [(hy, .inr (5, [.ref ay, .int qc, .int (iZ (jd : Int)), .int ql])), (ay, .inl (cC, 400, .inl fy))] sz)) 0 0 (va_A [(hy, .inr (5, [.ref ay, .int qc, .int (iZ (jd : Int)), .int ql])), (ay, .inl (cC, 400, .inl fy))] sz) := by
  refine met_enter (by decide +kernel) (Nat.le_of_ble_eq_true rfl) ?_
  intro p e s m args below meth c ls A R Q H locs K hin hAe hA hR hQ hP hK hD hS hl
  obtain ⟨hx, hb, hml, hrt, hlk, hts, hown, hno⟩ := id K
  have hl : lv_has ls 6 [(0, .ref hy)] := hl
  refine lv_iconst (v := iZ (0)) hx hb d_Ty_faultOfText_0 (by decide +kernel) ?_
  refine lv_istore_n (lv' := [(1, .int (iZ 0)), (0, .ref hy)]) hx hb d_Ty_faultOfText_1 rfl hl (by decide) rfl (fun ls hl => ?_)
  refine lv_iconst (v := iZ (0)) hx hb d_Ty_faultOfText_2 (by decide +kernel) ?_
  refine lv_istore_n (lv' := [(2, .int (iZ 0)), (1, .int (iZ 0)), (0, .ref hy)]) hx hb d_Ty_faultOfText_3 rfl hl (by decide) rfl (fun ls hl => ?_)
  refine lv_iconst (v := iZ (1)) hx hb d_Ty_faultOfText_4 (by decide +kernel) ?_
  refine lv_istore_n (lv' := [(3, .int (iZ 1)), (2, .int (iZ 0)), (1, .int (iZ 0)), (0, .ref hy)]) hx hb d_Ty_faultOfText_5 rfl hl (by decide) rfl (fun ls hl => ?_)
  refine lv_iconst (v := iZ (0)) hx hb d_Ty_faultOfText_6 (by decide +kernel) ?_
  refine lv_istore (lv' := [(4, .int (iZ 0)), (3, .int (iZ 1)), (2, .int (iZ 0)), (1, .int (iZ 0)), (0, .ref hy)]) hx hb d_Ty_faultOfText_7 hl (by decide) rfl (fun ls hl => ?_)
  have L9 : ∀ (N : Nat) (i : Nat) (sa : Int) (sl : Nat) (az : Int) (H : Heap) (locs : List Loc) (ls : Array Slot), jd - i < N → (i ≤ jd) → (AU tx jd i sa sl az) → (sl ≤ 400) → va_P D cls0 [(hy, .inr (5, [.ref ay, .int qc, .int (iZ (jd : Int)), .int ql])), (ay, .inl (cC, 400, .inl fy))] H → va_D A [(hy, .inr (5, [.ref ay, .int qc, .int (iZ (jd : Int)), .int ql])), (ay, .inl (cC, 400, .inl fy))] → va_S A s.heap H locs → lv_has ls 6 [(0, .ref hy), (1, .int (iZ sa)), (2, .int (iZ (sl : Int))), (3, .int (iZ az)), (4, .int (iZ (i : Int)))] → W p l e R s m args below meth c H locs 0 0 Q (F0 m 9 ls []) := by
    intro N
    induction N with
    | zero => intro i sa sl az H locs ls hN; exact absurd hN (Nat.not_lt_zero _)
    | succ N ih =>
      intro i sa sl az H locs ls hN ii iA isl hP hD hS hl
      refine lv_iload hx hb d_Ty_faultOfText_9 (lv_at hl 4 rfl) ?_
      refine lv_aload_n hx hb d_Ty_faultOfText_11 rfl (lv_at hl 0 rfl) ?_
      refine va_get (D := D) (ci := 5) (v := .int (iZ (jd : Int))) (C := R_Ty) (T := F_Ty) (N := 4) hx hb hts i_Ty hown hK hP 0 rfl rfl 2 (by decide) (hts _ (big_in mw_151 rfl)) (fun _ h9 => h9) rfl d_Ty_faultOfText_12 ?_
      refine zz_icmp_ge (tgt := 71) hx hb d_Ty_faultOfText_15 (by decide) (by omega) (by omega) (fun c15 => ?_) (fun c15 => ?_)
      · obtain ⟨hr1, hr2, hr3, hr4⟩ := iA.r
        refine lv_iload_n hx hb d_Ty_faultOfText_71 rfl (lv_at hl 1 rfl) ?_
        refine lv_bipush (v := iZ (6)) hx hb d_Ty_faultOfText_72 (by decide +kernel) ?_
        refine zz_icmp_ne (tgt := 87) hx hb d_Ty_faultOfText_74 (by decide) (by omega) (by omega) (fun c74 => ?_) (fun c74 => ?_)
        · refine lv_iload_n hx hb d_Ty_faultOfText_87 rfl (lv_at hl 1 rfl) ?_
          refine lv_iconst (v := iZ (2)) hx hb d_Ty_faultOfText_88 (by decide +kernel) ?_
          refine zz_icmp_eq (tgt := 97) hx hb d_Ty_faultOfText_89 (by decide) (by omega) (by omega) (fun c89 => ?_) (fun c89 => ?_)
          · refine lv_iconst (v := iZ (-1)) hx hb d_Ty_faultOfText_97 (by decide +kernel) ?_
            refine lv_goto (tgt := 105) hx hb d_Ty_faultOfText_98 (by decide) ?_
            have hP9 : va_P D cls0 [(hy, .inr (5, [.ref ay, .int qc, .int (iZ (jd : Int)), .int ql])), (ay, .inl (cC, 400, .inl fy))] H := hP.sub [0, 1] rfl
            have hD9 : va_D A [(hy, .inr (5, [.ref ay, .int qc, .int (iZ (jd : Int)), .int ql])), (ay, .inl (cC, 400, .inl fy))] := hD.sub [0, 1] (by decide) rfl
            rw [hQ, ← hAe]
            refine r_i (v := (iZ (-1))) K (-1) hS d_Ty_faultOfText_105 ?_ (fun t ht hv => ?_)
            · have ei : i = jd := by omega
              subst ei
              have q := AU.fin iA
              refine ⟨rfl, ?_, by omega⟩
              first | (rw [if_pos (by omega), if_pos (by omega)] at q; exact q) | (rw [if_pos (by omega), if_neg (by omega)] at q; exact q) | (rw [if_neg (by omega), if_pos (by omega)] at q; exact q) | (rw [if_neg (by omega), if_neg (by omega)] at q; exact q)
            · exact ⟨by rw [ht]; exact hP9, va_K.moved hv hK, by rw [← hAe]; exact hD9⟩
          · refine lv_iload_n hx hb d_Ty_faultOfText_92 rfl (lv_at hl 1 rfl) ?_
            refine lv_iconst (v := iZ (4)) hx hb d_Ty_faultOfText_93 (by decide +kernel) ?_
            refine zz_icmp_ne (tgt := 101) hx hb d_Ty_faultOfText_94 (by decide) (by omega) (by omega) (fun c94 => ?_) (fun c94 => ?_)
            · refine lv_aload_n hx hb d_Ty_faultOfText_101 rfl (lv_at hl 0 rfl) ?_
              refine va_get (D := D) (ci := 5) (v := .int (iZ (jd : Int))) (C := R_Ty) (T := F_Ty) (N := 4) hx hb hts i_Ty hown hK hP 0 rfl rfl 2 (by decide) (hts _ (big_in mw_151 rfl)) (fun _ h9 => h9) rfl d_Ty_faultOfText_102 ?_
              have hP9 : va_P D cls0 [(hy, .inr (5, [.ref ay, .int qc, .int (iZ (jd : Int)), .int ql])), (ay, .inl (cC, 400, .inl fy))] H := hP.sub [0, 1] rfl
              have hD9 : va_D A [(hy, .inr (5, [.ref ay, .int qc, .int (iZ (jd : Int)), .int ql])), (ay, .inl (cC, 400, .inl fy))] := hD.sub [0, 1] (by decide) rfl
              rw [hQ, ← hAe]
              refine r_i (v := (iZ (jd : Int))) K (jd : Int) hS d_Ty_faultOfText_105 ?_ (fun t ht hv => ?_)
              · have ei : i = jd := by omega
                subst ei
                have q := AU.fin iA
                refine ⟨rfl, ?_, by omega⟩
                first | (rw [if_pos (by omega), if_pos (by omega)] at q; exact q) | (rw [if_pos (by omega), if_neg (by omega)] at q; exact q) | (rw [if_neg (by omega), if_pos (by omega)] at q; exact q) | (rw [if_neg (by omega), if_neg (by omega)] at q; exact q)
              · exact ⟨by rw [ht]; exact hP9, va_K.moved hv hK, by rw [← hAe]; exact hD9⟩
            · refine lv_iconst (v := iZ (-1)) hx hb d_Ty_faultOfText_97 (by decide +kernel) ?_
              refine lv_goto (tgt := 105) hx hb d_Ty_faultOfText_98 (by decide) ?_
              have hP9 : va_P D cls0 [(hy, .inr (5, [.ref ay, .int qc, .int (iZ (jd : Int)), .int ql])), (ay, .inl (cC, 400, .inl fy))] H := hP.sub [0, 1] rfl
              have hD9 : va_D A [(hy, .inr (5, [.ref ay, .int qc, .int (iZ (jd : Int)), .int ql])), (ay, .inl (cC, 400, .inl fy))] := hD.sub [0, 1] (by decide) rfl
              rw [hQ, ← hAe]
              refine r_i (v := (iZ (-1))) K (-1) hS d_Ty_faultOfText_105 ?_ (fun t ht hv => ?_)
              · have ei : i = jd := by omega
                subst ei
                have q := AU.fin iA
                refine ⟨rfl, ?_, by omega⟩
                first | (rw [if_pos (by omega), if_pos (by omega)] at q; exact q) | (rw [if_pos (by omega), if_neg (by omega)] at q; exact q) | (rw [if_neg (by omega), if_pos (by omega)] at q; exact q) | (rw [if_neg (by omega), if_neg (by omega)] at q; exact q)
              · exact ⟨by rw [ht]; exact hP9, va_K.moved hv hK, by rw [← hAe]; exact hD9⟩
        · refine lv_iload_n hx hb d_Ty_faultOfText_77 rfl (lv_at hl 3 rfl) ?_
          refine zz_if_eq (tgt := 85) hx hb d_Ty_faultOfText_78 (by decide) (by omega) (fun c78 => ?_) (fun c78 => ?_)
          · refine lv_iconst (v := iZ (-1)) hx hb d_Ty_faultOfText_85 (by decide +kernel) ?_
            have hP9 : va_P D cls0 [(hy, .inr (5, [.ref ay, .int qc, .int (iZ (jd : Int)), .int ql])), (ay, .inl (cC, 400, .inl fy))] H := hP.sub [0, 1] rfl
            have hD9 : va_D A [(hy, .inr (5, [.ref ay, .int qc, .int (iZ (jd : Int)), .int ql])), (ay, .inl (cC, 400, .inl fy))] := hD.sub [0, 1] (by decide) rfl
            rw [hQ, ← hAe]
            refine r_i (v := (iZ (-1))) K (-1) hS d_Ty_faultOfText_86 ?_ (fun t ht hv => ?_)
            · have ei : i = jd := by omega
              subst ei
              have q := AU.fin iA
              refine ⟨rfl, ?_, by omega⟩
              first | (rw [if_pos (by omega), if_pos (by omega)] at q; exact q) | (rw [if_pos (by omega), if_neg (by omega)] at q; exact q) | (rw [if_neg (by omega), if_pos (by omega)] at q; exact q) | (rw [if_neg (by omega), if_neg (by omega)] at q; exact q)
            · exact ⟨by rw [ht]; exact hP9, va_K.moved hv hK, by rw [← hAe]; exact hD9⟩
          · refine lv_iload_n hx hb d_Ty_faultOfText_81 rfl (lv_at hl 2 rfl) ?_
            refine lv_goto (tgt := 86) hx hb d_Ty_faultOfText_82 (by decide) ?_
            have hP9 : va_P D cls0 [(hy, .inr (5, [.ref ay, .int qc, .int (iZ (jd : Int)), .int ql])), (ay, .inl (cC, 400, .inl fy))] H := hP.sub [0, 1] rfl
            have hD9 : va_D A [(hy, .inr (5, [.ref ay, .int qc, .int (iZ (jd : Int)), .int ql])), (ay, .inl (cC, 400, .inl fy))] := hD.sub [0, 1] (by decide) rfl
            rw [hQ, ← hAe]
            refine r_i (v := (iZ (sl : Int))) K (sl : Int) hS d_Ty_faultOfText_86 ?_ (fun t ht hv => ?_)
            · have ei : i = jd := by omega
              subst ei
              have q := AU.fin iA
              refine ⟨rfl, ?_, by omega⟩
              first | (rw [if_pos (by omega), if_pos (by omega)] at q; exact q) | (rw [if_pos (by omega), if_neg (by omega)] at q; exact q) | (rw [if_neg (by omega), if_pos (by omega)] at q; exact q) | (rw [if_neg (by omega), if_neg (by omega)] at q; exact q)
            · exact ⟨by rw [ht]; exact hP9, va_K.moved hv hK, by rw [← hAe]; exact hD9⟩
      · obtain ⟨hr1, hr2, hr3, hr4⟩ := iA.r
        refine lv_aload_n hx hb d_Ty_faultOfText_18 rfl (lv_at hl 0 rfl) ?_
        refine va_get (D := D) (ci := 5) (v := .ref ay) (C := R_Ty) (T := F_Ty) (N := 4) hx hb hts i_Ty hown hK hP 0 rfl rfl 0 (by decide) (hts _ (big_in mw_149 rfl)) (fun _ h9 => h9) rfl d_Ty_faultOfText_19 ?_
        refine lv_iload hx hb d_Ty_faultOfText_22 (lv_at hl 4 rfl) ?_
        refine zz_cald hx hb hK hP 1 0 rfl rfl (i) (by omega) (by omega) (by omega) d_Ty_faultOfText_24 ?_
        obtain ⟨hc1, hc2⟩ := htx i (by omega)
        rw [hc1]
        refine lv_istore (lv' := [(5, .int (iZ (tx i : Int))), (0, .ref hy), (1, .int (iZ sa)), (2, .int (iZ (sl : Int))), (3, .int (iZ az)), (4, .int (iZ (i : Int)))]) hx hb d_Ty_faultOfText_25 hl (by decide) rfl (fun ls hl => ?_)
        refine lv_iload_n hx hb d_Ty_faultOfText_27 rfl (lv_at hl 2 rfl) ?_
        refine lv_iload hx hb d_Ty_faultOfText_28 (lv_at hl 0 rfl) ?_
        rw [show ((tx i : Int) : Int) = ((tx i : Nat) : Int) by omega]
        refine cs (n := 2) (wr := [(hy, .inr (5, [.ref ay, .int qc, .int (iZ (jd : Int)), .int ql])), (ay, .inl (cC, 400, .inl fy))]) (w1 := (fun (u : Int) => [])) (As := [.int (iZ sa), .int (iZ ((tx i : Nat) : Int))]) (rest := []) K hP hD hK hS hA hl.1 (c_Ty_stateAfter l D sa (tx i) H.size (by omega) (by omega)) [] [0, 1] [] rfl rfl rfl (by decide) (by decide) (by decide) (big_in mw_1068 rfl) (big_in mw_7 rfl) (big_in mw_1066 rfl) (big_in mw_1067 rfl) rfl rfl (by decide +kernel) ⟨by rw [hR]; exact Nat.le_of_ble_eq_true rfl, by rw [hR]; exact Nat.le_of_ble_eq_true rfl⟩ rfl (Nat.le_of_ble_eq_true rfl) d_Ty_faultOfText_30 ⟨by rw [hR]; exact Nat.le_of_ble_eq_true rfl, by rw [hR]; exact Nat.le_of_ble_eq_true rfl⟩ rfl (fun v u H locs hp1 hP hD hS _ => ?_)
        obtain ⟨sn, rfl⟩ : ∃ z, z = u := ⟨_, rfl⟩
        obtain ⟨rfl, es, esr⟩ := hp1
        have hP : va_P D cls0 [(hy, .inr (5, [.ref ay, .int qc, .int (iZ (jd : Int)), .int ql])), (ay, .inl (cC, 400, .inl fy))] H := hP
        have hD : va_D A [(hy, .inr (5, [.ref ay, .int qc, .int (iZ (jd : Int)), .int ql])), (ay, .inl (cC, 400, .inl fy))] := hD
        show W p l e R s m args below meth c H locs _ _ Q (F0 m 33 ls [.int (iZ sn)])
        refine lv_istore_n (lv' := [(1, .int (iZ sn)), (5, .int (iZ (tx i : Int))), (0, .ref hy), (2, .int (iZ (sl : Int))), (3, .int (iZ az)), (4, .int (iZ (i : Int)))]) hx hb d_Ty_faultOfText_33 rfl hl (by decide) rfl (fun ls hl => ?_)
        refine lv_iload_n hx hb d_Ty_faultOfText_34 rfl (lv_at hl 0 rfl) ?_
        refine lv_iconst (v := iZ (-1)) hx hb d_Ty_faultOfText_35 (by decide +kernel) ?_
        refine zz_icmp_ne (tgt := 42) hx hb d_Ty_faultOfText_36 (by decide) (by omega) (by omega) (fun c36 => ?_) (fun c36 => ?_)
        · refine lv_iload_n hx hb d_Ty_faultOfText_42 rfl (lv_at hl 0 rfl) ?_
          refine lv_iconst (v := iZ (5)) hx hb d_Ty_faultOfText_43 (by decide +kernel) ?_
          refine zz_icmp_ne (tgt := 50) hx hb d_Ty_faultOfText_44 (by decide) (by omega) (by omega) (fun c44 => ?_) (fun c44 => ?_)
          · refine lv_iload_n hx hb d_Ty_faultOfText_50 rfl (lv_at hl 0 rfl) ?_
            refine lv_bipush (v := iZ (6)) hx hb d_Ty_faultOfText_51 (by decide +kernel) ?_
            refine zz_icmp_ne (tgt := 65) hx hb d_Ty_faultOfText_53 (by decide) (by omega) (by omega) (fun c53 => ?_) (fun c53 => ?_)
            · refine lv_iinc (v := iZ ((i : Int) + 1)) (lv' := [(4, .int (iZ ((i : Int) + 1))), (1, .int (iZ sn)), (5, .int (iZ (tx i : Int))), (0, .ref hy), (2, .int (iZ (sl : Int))), (3, .int (iZ az))]) hx hb d_Ty_faultOfText_65 hl (k := 5) rfl (iZ_add _ _) (by decide) rfl (fun ls hl => ?_)
              refine lv_goto (tgt := 9) hx hb d_Ty_faultOfText_68 (by decide) ?_
              rw [show ((i : Int) + 1 : Int) = ((i + 1 : Nat) : Int) by omega] at hl
              exact ih (i + 1) sn sl az _ _ _ (by omega) (by omega) (by rw [es]; exact AU.step iA (by omega) (by omega) (by first | (exfalso; omega) | (rw [if_pos (by omega)]) | (rw [if_neg (by omega)])) (by first | (exfalso; omega) | (rw [if_pos (by omega)]) | (rw [if_neg (by omega)]))) (by omega) (hP.sub (ws' := [(hy, .inr (5, [.ref ay, .int qc, .int (iZ (jd : Int)), .int ql])), (ay, .inl (cC, 400, .inl fy))]) [0, 1] rfl) (hD.sub (ws' := [(hy, .inr (5, [.ref ay, .int qc, .int (iZ (jd : Int)), .int ql])), (ay, .inl (cC, 400, .inl fy))]) [0, 1] (by decide) rfl) hS (lv_sub hl [3, 1, 4, 5, 0] rfl)
            · refine lv_iload hx hb d_Ty_faultOfText_56 (lv_at hl 1 rfl) ?_
              refine lv_bipush (v := iZ (48)) hx hb d_Ty_faultOfText_58 (by decide +kernel) ?_
              refine zz_icmp_eq (tgt := 65) hx hb d_Ty_faultOfText_60 (by decide) (by omega) (by omega) (fun c60 => ?_) (fun c60 => ?_)
              · refine lv_iinc (v := iZ ((i : Int) + 1)) (lv' := [(4, .int (iZ ((i : Int) + 1))), (1, .int (iZ sn)), (5, .int (iZ (tx i : Int))), (0, .ref hy), (2, .int (iZ (sl : Int))), (3, .int (iZ az))]) hx hb d_Ty_faultOfText_65 hl (k := 5) rfl (iZ_add _ _) (by decide) rfl (fun ls hl => ?_)
                refine lv_goto (tgt := 9) hx hb d_Ty_faultOfText_68 (by decide) ?_
                rw [show ((i : Int) + 1 : Int) = ((i + 1 : Nat) : Int) by omega] at hl
                exact ih (i + 1) sn sl az _ _ _ (by omega) (by omega) (by rw [es]; exact AU.step iA (by omega) (by omega) (by first | (exfalso; omega) | (rw [if_pos (by omega)]) | (rw [if_neg (by omega)])) (by first | (exfalso; omega) | (rw [if_pos (by omega)]) | (rw [if_neg (by omega)]))) (by omega) (hP.sub (ws' := [(hy, .inr (5, [.ref ay, .int qc, .int (iZ (jd : Int)), .int ql])), (ay, .inl (cC, 400, .inl fy))]) [0, 1] rfl) (hD.sub (ws' := [(hy, .inr (5, [.ref ay, .int qc, .int (iZ (jd : Int)), .int ql])), (ay, .inl (cC, 400, .inl fy))]) [0, 1] (by decide) rfl) hS (lv_sub hl [3, 1, 4, 5, 0] rfl)
              · refine lv_iconst (v := iZ (0)) hx hb d_Ty_faultOfText_63 (by decide +kernel) ?_
                refine lv_istore_n (lv' := [(3, .int (iZ 0)), (1, .int (iZ sn)), (5, .int (iZ (tx i : Int))), (0, .ref hy), (2, .int (iZ (sl : Int))), (4, .int (iZ (i : Int)))]) hx hb d_Ty_faultOfText_64 rfl hl (by decide) rfl (fun ls hl => ?_)
                refine lv_iinc (v := iZ ((i : Int) + 1)) (lv' := [(4, .int (iZ ((i : Int) + 1))), (3, .int (iZ 0)), (1, .int (iZ sn)), (5, .int (iZ (tx i : Int))), (0, .ref hy), (2, .int (iZ (sl : Int)))]) hx hb d_Ty_faultOfText_65 hl (k := 5) rfl (iZ_add _ _) (by decide) rfl (fun ls hl => ?_)
                refine lv_goto (tgt := 9) hx hb d_Ty_faultOfText_68 (by decide) ?_
                rw [show ((i : Int) + 1 : Int) = ((i + 1 : Nat) : Int) by omega] at hl
                exact ih (i + 1) sn sl 0 _ _ _ (by omega) (by omega) (by rw [es]; exact AU.step iA (by omega) (by omega) (by first | (exfalso; omega) | (rw [if_pos (by omega)]) | (rw [if_neg (by omega)])) (by first | (exfalso; omega) | (rw [if_pos (by omega)]) | (rw [if_neg (by omega)]))) (by omega) (hP.sub (ws' := [(hy, .inr (5, [.ref ay, .int qc, .int (iZ (jd : Int)), .int ql])), (ay, .inl (cC, 400, .inl fy))]) [0, 1] rfl) (hD.sub (ws' := [(hy, .inr (5, [.ref ay, .int qc, .int (iZ (jd : Int)), .int ql])), (ay, .inl (cC, 400, .inl fy))]) [0, 1] (by decide) rfl) hS (lv_sub hl [4, 2, 5, 1, 0] rfl)
          · refine lv_iload hx hb d_Ty_faultOfText_47 (lv_at hl 5 rfl) ?_
            refine lv_istore_n (lv' := [(2, .int (iZ (i : Int))), (1, .int (iZ sn)), (5, .int (iZ (tx i : Int))), (0, .ref hy), (3, .int (iZ az)), (4, .int (iZ (i : Int)))]) hx hb d_Ty_faultOfText_49 rfl hl (by decide) rfl (fun ls hl => ?_)
            refine lv_iload_n hx hb d_Ty_faultOfText_50 rfl (lv_at hl 1 rfl) ?_
            refine lv_bipush (v := iZ (6)) hx hb d_Ty_faultOfText_51 (by decide +kernel) ?_
            refine zz_icmp_ne (tgt := 65) hx hb d_Ty_faultOfText_53 (by decide) (by omega) (by omega) (fun c53 => ?_) (fun c53 => ?_)
            · refine lv_iinc (v := iZ ((i : Int) + 1)) (lv' := [(4, .int (iZ ((i : Int) + 1))), (2, .int (iZ (i : Int))), (1, .int (iZ sn)), (5, .int (iZ (tx i : Int))), (0, .ref hy), (3, .int (iZ az))]) hx hb d_Ty_faultOfText_65 hl (k := 5) rfl (iZ_add _ _) (by decide) rfl (fun ls hl => ?_)
              refine lv_goto (tgt := 9) hx hb d_Ty_faultOfText_68 (by decide) ?_
              rw [show ((i : Int) + 1 : Int) = ((i + 1 : Nat) : Int) by omega] at hl
              exact ih (i + 1) sn i az _ _ _ (by omega) (by omega) (by rw [es]; exact AU.step iA (by omega) (by omega) (by first | (exfalso; omega) | (rw [if_pos (by omega)]) | (rw [if_neg (by omega)])) (by first | (exfalso; omega) | (rw [if_pos (by omega)]) | (rw [if_neg (by omega)]))) (by omega) (hP.sub (ws' := [(hy, .inr (5, [.ref ay, .int qc, .int (iZ (jd : Int)), .int ql])), (ay, .inl (cC, 400, .inl fy))]) [0, 1] rfl) (hD.sub (ws' := [(hy, .inr (5, [.ref ay, .int qc, .int (iZ (jd : Int)), .int ql])), (ay, .inl (cC, 400, .inl fy))]) [0, 1] (by decide) rfl) hS (lv_sub hl [4, 2, 1, 5, 0] rfl)
            · refine lv_iload hx hb d_Ty_faultOfText_56 (lv_at hl 2 rfl) ?_
              refine lv_bipush (v := iZ (48)) hx hb d_Ty_faultOfText_58 (by decide +kernel) ?_
              refine zz_icmp_eq (tgt := 65) hx hb d_Ty_faultOfText_60 (by decide) (by omega) (by omega) (fun c60 => ?_) (fun c60 => ?_)
              · refine lv_iinc (v := iZ ((i : Int) + 1)) (lv' := [(4, .int (iZ ((i : Int) + 1))), (2, .int (iZ (i : Int))), (1, .int (iZ sn)), (5, .int (iZ (tx i : Int))), (0, .ref hy), (3, .int (iZ az))]) hx hb d_Ty_faultOfText_65 hl (k := 5) rfl (iZ_add _ _) (by decide) rfl (fun ls hl => ?_)
                refine lv_goto (tgt := 9) hx hb d_Ty_faultOfText_68 (by decide) ?_
                rw [show ((i : Int) + 1 : Int) = ((i + 1 : Nat) : Int) by omega] at hl
                exact ih (i + 1) sn i az _ _ _ (by omega) (by omega) (by rw [es]; exact AU.step iA (by omega) (by omega) (by first | (exfalso; omega) | (rw [if_pos (by omega)]) | (rw [if_neg (by omega)])) (by first | (exfalso; omega) | (rw [if_pos (by omega)]) | (rw [if_neg (by omega)]))) (by omega) (hP.sub (ws' := [(hy, .inr (5, [.ref ay, .int qc, .int (iZ (jd : Int)), .int ql])), (ay, .inl (cC, 400, .inl fy))]) [0, 1] rfl) (hD.sub (ws' := [(hy, .inr (5, [.ref ay, .int qc, .int (iZ (jd : Int)), .int ql])), (ay, .inl (cC, 400, .inl fy))]) [0, 1] (by decide) rfl) hS (lv_sub hl [4, 2, 1, 5, 0] rfl)
              · refine lv_iconst (v := iZ (0)) hx hb d_Ty_faultOfText_63 (by decide +kernel) ?_
                refine lv_istore_n (lv' := [(3, .int (iZ 0)), (2, .int (iZ (i : Int))), (1, .int (iZ sn)), (5, .int (iZ (tx i : Int))), (0, .ref hy), (4, .int (iZ (i : Int)))]) hx hb d_Ty_faultOfText_64 rfl hl (by decide) rfl (fun ls hl => ?_)
                refine lv_iinc (v := iZ ((i : Int) + 1)) (lv' := [(4, .int (iZ ((i : Int) + 1))), (3, .int (iZ 0)), (2, .int (iZ (i : Int))), (1, .int (iZ sn)), (5, .int (iZ (tx i : Int))), (0, .ref hy)]) hx hb d_Ty_faultOfText_65 hl (k := 5) rfl (iZ_add _ _) (by decide) rfl (fun ls hl => ?_)
                refine lv_goto (tgt := 9) hx hb d_Ty_faultOfText_68 (by decide) ?_
                rw [show ((i : Int) + 1 : Int) = ((i + 1 : Nat) : Int) by omega] at hl
                exact ih (i + 1) sn i 0 _ _ _ (by omega) (by omega) (by rw [es]; exact AU.step iA (by omega) (by omega) (by first | (exfalso; omega) | (rw [if_pos (by omega)]) | (rw [if_neg (by omega)])) (by first | (exfalso; omega) | (rw [if_pos (by omega)]) | (rw [if_neg (by omega)]))) (by omega) (hP.sub (ws' := [(hy, .inr (5, [.ref ay, .int qc, .int (iZ (jd : Int)), .int ql])), (ay, .inl (cC, 400, .inl fy))]) [0, 1] rfl) (hD.sub (ws' := [(hy, .inr (5, [.ref ay, .int qc, .int (iZ (jd : Int)), .int ql])), (ay, .inl (cC, 400, .inl fy))]) [0, 1] (by decide) rfl) hS (lv_sub hl [5, 3, 2, 1, 0] rfl)
        · refine lv_iload hx hb d_Ty_faultOfText_39 (lv_at hl 5 rfl) ?_
          have hP9 : va_P D cls0 [(hy, .inr (5, [.ref ay, .int qc, .int (iZ (jd : Int)), .int ql])), (ay, .inl (cC, 400, .inl fy))] H := hP.sub [0, 1] rfl
          have hD9 : va_D A [(hy, .inr (5, [.ref ay, .int qc, .int (iZ (jd : Int)), .int ql])), (ay, .inl (cC, 400, .inl fy))] := hD.sub [0, 1] (by decide) rfl
          rw [hQ, ← hAe]
          refine r_i (v := (iZ (i : Int))) K (i : Int) hS d_Ty_faultOfText_41 ?_ (fun t ht hv => ?_)
          · exact ⟨rfl, AU.stop iA (by omega) (by omega), by omega⟩
          · exact ⟨by rw [ht]; exact hP9, va_K.moved hv hK, by rw [← hAe]; exact hD9⟩
  exact L9 _ 0 0 0 1 _ _ _ (Nat.lt_succ_self _) (by omega) (Or.inl ⟨rfl, rfl, rfl⟩) (by omega) (hP.sub (ws' := [(hy, .inr (5, [.ref ay, .int qc, .int (iZ (jd : Int)), .int ql])), (ay, .inl (cC, 400, .inl fy))]) [0, 1] rfl) (hD.sub (ws' := [(hy, .inr (5, [.ref ay, .int qc, .int (iZ (jd : Int)), .int ql])), (ay, .inl (cC, 400, .inl fy))]) [0, 1] (by decide) rfl) hS (lv_sub hl [4, 3, 2, 1, 0] rfl)
set_option maxHeartbeats 4000000 in
set_option maxRecDepth 100000 in
/-- judge() -/
theorem c_Ty_judge (l : Launch) (D : va_G) (hy : Nat) (ay : Nat) (fy : Nat → Int32) (qj : Int32) (ql : Int32) (cC : ClassId) (tx : Nat → Nat) (jd : Nat) (sz : Nat) (hjd : jd ≤ 400) (htx : ∀ j, j < jd → fy j = iZ (tx j : Int) ∧ tx j < 65536) : Met l y_Ty_judge (wsB y_Ty_judge b_Ty_judge 1 none) ({ frames := 3, cells := 0, slots := 0, locals := 66 }) (va_Pc [.ref hy] (wPre D [(cC, .char)] [(hy, .inr (5, [.ref ay, .int (iZ (jd : Int)), .int qj, .int ql])), (ay, .inl (cC, 400, .inl fy))] sz)) (va_QV (fun (v_9 : Option Value) (u_9 : Int) => v_9 = none ∧ (WR tx jd u_9) ∧ (-1 ≤ u_9 ∧ u_9 ≤ 400)) (fun u_9 => wPost D [(cC, .char)] [(hy, .inr (5, [.ref ay, .int (iZ (jd : Int)), .int qj, .int ql])), (ay, .inl (cC, 400, .inl fy))] [(hy, .inr (5, [.ref ay, .int (iZ 0), .int (iZ (jd : Int)), .int (iZ u_9)])), (ay, .inl (cC, 400, .inl fy))] sz) (va_A [(hy, .inr (5, [.ref ay, .int (iZ (jd : Int)), .int qj, .int ql])), (ay, .inl (cC, 400, .inl fy))] sz)) 0 0 (va_A [(hy, .inr (5, [.ref ay, .int (iZ (jd : Int)), .int qj, .int ql])), (ay, .inl (cC, 400, .inl fy))] sz) := by
  refine met_enter (by decide +kernel) (Nat.le_of_ble_eq_true rfl) ?_
  intro p e s m args below meth c ls A R Q H locs K hin hAe hA hR hQ hP hK hD hS hl
  obtain ⟨hx, hb, hml, hrt, hlk, hts, hown, hno⟩ := id K
  have hl : lv_has ls 1 [(0, .ref hy)] := hl
  refine lv_aload_n hx hb d_Ty_judge_0 rfl (lv_at hl 0 rfl) ?_
  refine lv_aload_n hx hb d_Ty_judge_1 rfl (lv_at hl 0 rfl) ?_
  refine va_get (D := D) (ci := 5) (v := .int (iZ (jd : Int))) (C := R_Ty) (T := F_Ty) (N := 4) hx hb hts i_Ty hown hK hP 0 rfl rfl 1 (by decide) (hts _ (big_in mw_150 rfl)) (fun _ h9 => h9) rfl d_Ty_judge_2 ?_
  refine va_put (D := D) (ci := 5) (v := .int (iZ (jd : Int))) (ty := .int) (C := R_Ty) (T := F_Ty) (N := 4) hx hb hts i_Ty t_Ty t_Ty_ok n_Ty hown hK hP hD hS 0 rfl rfl 2 (by decide) (hts _ (big_in mw_151 rfl)) (fun _ h9 => h9) rfl (by decide +kernel) rfl rfl (Nat.le_of_ble_eq_true rfl) d_Ty_judge_5 (fun H locs hP hD hS => ?_)
  have hP : va_P D cls0 [(hy, .inr (5, [.ref ay, .int (iZ (jd : Int)), .int (iZ (jd : Int)), .int ql])), (ay, .inl (cC, 400, .inl fy))] H := hP
  have hD : va_D A [(hy, .inr (5, [.ref ay, .int (iZ (jd : Int)), .int (iZ (jd : Int)), .int ql])), (ay, .inl (cC, 400, .inl fy))] := hD
  refine lv_aload_n hx hb d_Ty_judge_8 rfl (lv_at hl 0 rfl) ?_
  refine lv_aload_n hx hb d_Ty_judge_9 rfl (lv_at hl 0 rfl) ?_
  refine cv (n := 0) (wr := []) (w1 := (fun (u : Int) => [(hy, .inr (5, [.ref ay, .int (iZ (jd : Int)), .int (iZ (jd : Int)), .int ql])), (ay, .inl (cC, 400, .inl fy))])) (As := []) (rest := [.ref hy]) K hP hD hK hS hA hl.1 (c_Ty_faultOfText l D hy ay fy ql cC (iZ (jd : Int)) tx jd H.size hjd htx) [0, 1] [] [0] rfl rfl rfl (by decide) (by decide) (by decide) 0 rfl rfl (big_in mw_1065 rfl) (big_in mw_7 rfl) (big_in mw_1062 rfl) (big_in mw_1064 rfl) (big_in sp_14 rfl) rfl rfl (by decide +kernel) ⟨by rw [hR]; exact Nat.le_of_ble_eq_true rfl, by rw [hR]; exact Nat.le_of_ble_eq_true rfl⟩ rfl (Nat.le_of_ble_eq_true rfl) d_Ty_judge_10 ⟨by rw [hR]; exact Nat.le_of_ble_eq_true rfl, by rw [hR]; exact Nat.le_of_ble_eq_true rfl⟩ rfl (fun v u H locs hp1 hP hD hS _ => ?_)
  obtain ⟨rf, rfl⟩ : ∃ z, z = u := ⟨_, rfl⟩
  obtain ⟨rfl, gf, gr⟩ := hp1
  have hP : va_P D cls0 [(hy, .inr (5, [.ref ay, .int (iZ (jd : Int)), .int (iZ (jd : Int)), .int ql])), (ay, .inl (cC, 400, .inl fy))] H := hP
  have hD : va_D A [(hy, .inr (5, [.ref ay, .int (iZ (jd : Int)), .int (iZ (jd : Int)), .int ql])), (ay, .inl (cC, 400, .inl fy))] := hD
  show W p l e R s m args below meth c H locs _ _ Q (F0 m 13 ls [.int (iZ rf), .ref hy])
  refine va_put (D := D) (ci := 5) (v := .int (iZ rf)) (ty := .int) (C := R_Ty) (T := F_Ty) (N := 4) hx hb hts i_Ty t_Ty t_Ty_ok n_Ty hown hK hP hD hS 0 rfl rfl 3 (by decide) (hts _ (big_in mw_152 rfl)) (fun _ h9 => h9) rfl (by decide +kernel) rfl rfl (Nat.le_of_ble_eq_true rfl) d_Ty_judge_13 (fun H locs hP hD hS => ?_)
  have hP : va_P D cls0 [(hy, .inr (5, [.ref ay, .int (iZ (jd : Int)), .int (iZ (jd : Int)), .int (iZ rf)])), (ay, .inl (cC, 400, .inl fy))] H := hP
  have hD : va_D A [(hy, .inr (5, [.ref ay, .int (iZ (jd : Int)), .int (iZ (jd : Int)), .int (iZ rf)])), (ay, .inl (cC, 400, .inl fy))] := hD
  refine lv_aload_n hx hb d_Ty_judge_16 rfl (lv_at hl 0 rfl) ?_
  refine lv_iconst (v := iZ (0)) hx hb d_Ty_judge_17 (by decide +kernel) ?_
  refine va_put (D := D) (ci := 5) (v := .int (iZ 0)) (ty := .int) (C := R_Ty) (T := F_Ty) (N := 4) hx hb hts i_Ty t_Ty t_Ty_ok n_Ty hown hK hP hD hS 0 rfl rfl 1 (by decide) (hts _ (big_in mw_150 rfl)) (fun _ h9 => h9) rfl (by decide +kernel) rfl rfl (Nat.le_of_ble_eq_true rfl) d_Ty_judge_18 (fun H locs hP hD hS => ?_)
  have hP : va_P D cls0 [(hy, .inr (5, [.ref ay, .int (iZ 0), .int (iZ (jd : Int)), .int (iZ rf)])), (ay, .inl (cC, 400, .inl fy))] H := hP
  have hD : va_D A [(hy, .inr (5, [.ref ay, .int (iZ 0), .int (iZ (jd : Int)), .int (iZ rf)])), (ay, .inl (cC, 400, .inl fy))] := hD
  have hP9 : va_P D cls0 [(hy, .inr (5, [.ref ay, .int (iZ 0), .int (iZ (jd : Int)), .int (iZ rf)])), (ay, .inl (cC, 400, .inl fy))] H := hP.sub [0, 1] rfl
  have hD9 : va_D A [(hy, .inr (5, [.ref ay, .int (iZ 0), .int (iZ (jd : Int)), .int (iZ rf)])), (ay, .inl (cC, 400, .inl fy))] := hD.sub [0, 1] (by decide) rfl
  rw [hQ, ← hAe]
  refine r_v K rf hS d_Ty_judge_21 ?_ (fun t ht hv => ?_)
  · exact ⟨rfl, gf, gr⟩
  · exact ⟨by rw [ht]; exact hP9, va_K.moved hv hK, by rw [← hAe]; exact hD9⟩
