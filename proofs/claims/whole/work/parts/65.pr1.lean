/-! PRINTED: the text, lowest figures first -/
/-- the k lowest figures, the highest of them first -/
def dg : Nat → Nat → List Nat
  | 0, _ => []
  | k + 1, v => (48 + v / 10 ^ k % 10) :: dg k v
theorem dg_len (k v : Nat) : (dg k v).length = k := by
  induction k with
  | zero => rfl
  | succ k ih => show (dg k v).length + 1 = k + 1; rw [ih]
theorem dg_cat (a b v : Nat) : dg (a + b) v = dg a (v / 10 ^ b) ++ dg b v := by
  induction a with
  | zero => rw [Nat.zero_add]; rfl
  | succ a ih =>
    rw [show a + 1 + b = (a + b) + 1 by omega]
    show (48 + v / 10 ^ (a + b) % 10) :: dg (a + b) v = (48 + v / 10 ^ b / 10 ^ a % 10) :: (dg a (v / 10 ^ b) ++ dg b v)
    rw [ih, Nat.div_div_eq_div_mul, ← Nat.pow_add, Nat.add_comm b a]
theorem dg_mod (k j v : Nat) (h : k ≤ j) : dg k (v % 10 ^ j) = dg k v := by
  induction k with
  | zero => rfl
  | succ k ih =>
    show (48 + v % 10 ^ j / 10 ^ k % 10) :: dg k (v % 10 ^ j) = (48 + v / 10 ^ k % 10) :: dg k v
    rw [ih (by omega)]
    congr 2
    have e : 10 ^ j = 10 ^ k * (10 * 10 ^ (j - k - 1)) := by rw [← Nat.mul_assoc, ← Nat.pow_succ, ← Nat.pow_add]; congr 1; omega
    rw [e, Nat.mod_mul_right_div_self, Nat.mod_mul_right_mod]
/-- v has k figures -/
def IsD (v k : Nat) : Prop := 1 ≤ k ∧ v < 10 ^ k ∧ (k = 1 ∨ 10 ^ (k - 1) ≤ v)
theorem IsD.uniq {v k j : Nat} (h : IsD v k) (g : IsD v j) : k = j := by
  have aux : ∀ {k j : Nat}, IsD v k → IsD v j → k < j → False := fun {k j} h g q => by
    rcases g.2.2 with z | z
    · have := h.1; omega
    · have := Nat.pow_le_pow_right (show 0 < 10 by decide) (show k ≤ j - 1 by omega)
      have := h.2.1
      omega
  rcases Nat.lt_trichotomy k j with q | q | q
  · exact (aux h g q).elim
  · exact q
  · exact (aux g h q).elim
theorem p10_le {k : Nat} : pB k ≤ 10 ^ (10 * k) := by
  unfold pB
  rw [Nat.pow_mul]
  exact Nat.pow_le_pow_left (by decide) k
theorem IsD.le {v k n : Nat} {f : Nat → Int32} (h : IsD v k) (r : Rp f n v) (hn : 0 < n) : k ≤ 10 * n := by
  rcases h.2.2 with z | z
  · omega
  · have h1 := r.lt
    have h2 := p10_le (k := n)
    have h3 : 10 ^ (k - 1) < 10 ^ (10 * n) := by omega
    have := (Nat.pow_lt_pow_iff_right (show 1 < 10 by decide)).mp h3
    omega
/-- the row's end holds the text -/
def TX (f : Nat → Int32) (fr nq : Nat) (l : List Nat) : Prop := fr + l.length = nq ∧ ∀ i, i < l.length → f (fr + i) = iZ (l.getD i 0 : Int)
theorem TX.put {f : Nat → Int32} {fr nq ch : Nat} {l : List Nat} (h : TX f fr nq l) (hf : 0 < fr) : TX (upd f (fr - 1) (iZ (ch : Int))) (fr - 1) nq (ch :: l) := by
  refine ⟨by have := h.1; rw [List.length_cons]; omega, fun i hi => ?_⟩
  rw [List.length_cons] at hi
  cases i with
  | zero => rw [Nat.add_zero, pk_us]; rfl
  | succ i =>
    rw [pk_un (by omega), show fr - 1 + (i + 1) = fr + i by omega, h.2 i (by omega)]
    rfl
theorem TX.nil {f : Nat → Int32} {nq : Nat} : TX f nq nq [] := ⟨rfl, fun i hi => absurd hi (Nat.not_lt_zero _)⟩
set_option maxHeartbeats 4000000 in
set_option maxRecDepth 100000 in
/-- put(c) -/
theorem c_Pr_put (l : Launch) (D : va_G) (hp_ : Nat) (aq : Nat) (nq : Nat) (fq : Nat → Int32) (fr : Nat) (cC : ClassId) (li : List Nat) (ch : Nat) (sz : Nat) (hT : TX fq fr nq li) (hnq : nq ≤ 20000) (h0 : 0 < fr) (hch : ch < 65536) : Met l y_Pr_put (wsB y_Pr_put b_Pr_put 2 none) ({ frames := 0, cells := 0, slots := 0, locals := 0 }) (va_Pc [.ref hp_, .int (iZ (ch : Int))] (wPre D [(cC, .char)] [(hp_, .inr (6, [.ref aq, .int (iZ (fr : Int))])), (aq, .inl (cC, nq, .inl fq))] sz)) (va_QV (fun (v_9 : Option Value) (u_9 : Nat × (Nat → Int32)) => v_9 = none ∧ (TX u_9.2 u_9.1 nq (ch :: li))) (fun u_9 => wPost D [(cC, .char)] [(hp_, .inr (6, [.ref aq, .int (iZ (fr : Int))])), (aq, .inl (cC, nq, .inl fq))] [(hp_, .inr (6, [.ref aq, .int (iZ (u_9.1 : Int))])), (aq, .inl (cC, nq, .inl u_9.2))] sz) (va_A [(hp_, .inr (6, [.ref aq, .int (iZ (fr : Int))])), (aq, .inl (cC, nq, .inl fq))] sz)) 0 0 (va_A [(hp_, .inr (6, [.ref aq, .int (iZ (fr : Int))])), (aq, .inl (cC, nq, .inl fq))] sz) := by
  refine met_enter (by decide +kernel) (Nat.le_of_ble_eq_true rfl) ?_
  intro p e s m args below meth c ls A R Q H locs K hin hAe hA hR hQ hP hK hD hS hl
  obtain ⟨hx, hb, hml, hrt, hlk, hts, hown, hno⟩ := id K
  have hl : lv_has ls 2 [(0, .ref hp_), (1, .int (iZ (ch : Int)))] := hl
  have hTl := hT.1
  refine lv_aload_n hx hb d_Pr_put_0 rfl (lv_at hl 0 rfl) ?_
  refine va_get (D := D) (ci := 6) (v := .int (iZ (fr : Int))) (C := R_Pr) (T := F_Pr) (N := 2) hx hb hts i_Pr hown hK hP 0 rfl rfl 1 (by decide) (hts _ (big_in mw_172 rfl)) (fun _ h9 => h9) rfl d_Pr_put_1 ?_
  refine zz_if_le (tgt := 27) hx hb d_Pr_put_4 (by decide) (by omega) (fun c4 => False.elim (by omega)) (fun c4 => ?_)
  refine lv_aload_n hx hb d_Pr_put_7 rfl (lv_at hl 0 rfl) ?_
  refine lv_dup hx hb d_Pr_put_8 rfl ?_
  refine va_get (D := D) (ci := 6) (v := .int (iZ (fr : Int))) (C := R_Pr) (T := F_Pr) (N := 2) hx hb hts i_Pr hown hK hP 0 rfl rfl 1 (by decide) (hts _ (big_in mw_172 rfl)) (fun _ h9 => h9) rfl d_Pr_put_9 ?_
  refine lv_iconst (v := iZ (1)) hx hb d_Pr_put_12 (by decide +kernel) ?_
  refine zz_isub hx hb d_Pr_put_13 ?_
  obtain ⟨f2, hf2, bf2⟩ : ∃ x : Nat, x = fr - 1 ∧ x < 20000 := ⟨_, rfl, by omega⟩
  rw [show ((fr : Int) - 1 : Int) = (f2 : Int) by rw [hf2]; omega] 
  refine va_put (D := D) (ci := 6) (v := .int (iZ (f2 : Int))) (ty := .int) (C := R_Pr) (T := F_Pr) (N := 2) hx hb hts i_Pr t_Pr t_Pr_ok n_Pr hown hK hP hD hS 0 rfl rfl 1 (by decide) (hts _ (big_in mw_172 rfl)) (fun _ h9 => h9) rfl (by decide +kernel) rfl rfl (Nat.le_of_ble_eq_true rfl) d_Pr_put_14 (fun H locs hP hD hS => ?_)
  have hP : va_P D cls0 [(hp_, .inr (6, [.ref aq, .int (iZ (f2 : Int))])), (aq, .inl (cC, nq, .inl fq))] H := hP
  have hD : va_D A [(hp_, .inr (6, [.ref aq, .int (iZ (f2 : Int))])), (aq, .inl (cC, nq, .inl fq))] := hD
  refine lv_aload_n hx hb d_Pr_put_17 rfl (lv_at hl 0 rfl) ?_
  refine va_get (D := D) (ci := 6) (v := .ref aq) (C := R_Pr) (T := F_Pr) (N := 2) hx hb hts i_Pr hown hK hP 0 rfl rfl 0 (by decide) (hts _ (big_in mw_171 rfl)) (fun _ h9 => h9) rfl d_Pr_put_18 ?_
  refine lv_aload_n hx hb d_Pr_put_21 rfl (lv_at hl 0 rfl) ?_
  refine va_get (D := D) (ci := 6) (v := .int (iZ (f2 : Int))) (C := R_Pr) (T := F_Pr) (N := 2) hx hb hts i_Pr hown hK hP 0 rfl rfl 1 (by decide) (hts _ (big_in mw_172 rfl)) (fun _ h9 => h9) rfl d_Pr_put_22 ?_
  refine lv_iload_n hx hb d_Pr_put_25 rfl (lv_at hl 1 rfl) ?_
  refine zz_cast hx hb hK hP hD hS 1 0 rfl rfl (f2) (by omega) (by omega) (by omega) (by omega) d_Pr_put_26 (fun H locs hP hD hS => ?_)
  have hP : va_P D cls0 [(hp_, .inr (6, [.ref aq, .int (iZ (f2 : Int))])), (aq, .inl (cC, nq, .inl (upd fq f2 (iZ (ch : Int)))))] H := hP
  have hD : va_D A [(hp_, .inr (6, [.ref aq, .int (iZ (f2 : Int))])), (aq, .inl (cC, nq, .inl (upd fq f2 (iZ (ch : Int)))))] := hD
  have hP9 : va_P D cls0 [(hp_, .inr (6, [.ref aq, .int (iZ (f2 : Int))])), (aq, .inl (cC, nq, .inl (upd fq f2 (iZ (ch : Int)))))] H := hP.sub [0, 1] rfl
  have hD9 : va_D A [(hp_, .inr (6, [.ref aq, .int (iZ (f2 : Int))])), (aq, .inl (cC, nq, .inl (upd fq f2 (iZ (ch : Int)))))] := hD.sub [0, 1] (by decide) rfl
  rw [hQ, ← hAe]
  refine r_v K (f2, upd fq f2 (iZ (ch : Int))) hS d_Pr_put_27 ?_ (fun t ht hv => ?_)
  · try dsimp only
    exact ⟨rfl, by rw [hf2]; exact hT.put h0⟩
  · exact ⟨by rw [ht]; exact hP9, va_K.moved hv hK, by rw [← hAe]; exact hD9⟩
set_option maxHeartbeats 4000000 in
set_option maxRecDepth 100000 in
/-- count() -/
theorem c_Pr_count (l : Launch) (D : va_G) (hp_ : Nat) (aq : Nat) (nq : Nat) (fq : Nat → Int32) (fr : Nat) (cC : ClassId) (li : List Nat) (sz : Nat) (hT : TX fq fr nq li) (hnq : nq ≤ 20000) : Met l y_Pr_count (wsB y_Pr_count b_Pr_count 1 (some .int)) ({ frames := 0, cells := 0, slots := 0, locals := 0 }) (va_Pc [.ref hp_] (wPre D [(cC, .char)] [(hp_, .inr (6, [.ref aq, .int (iZ (fr : Int))])), (aq, .inl (cC, nq, .inl fq))] sz)) (va_QV (fun (v_9 : Option Value) (u_9 : Unit) => v_9 = some (.int (iZ (li.length : Int)))) (fun u_9 => wPost D [(cC, .char)] [(hp_, .inr (6, [.ref aq, .int (iZ (fr : Int))])), (aq, .inl (cC, nq, .inl fq))] [(hp_, .inr (6, [.ref aq, .int (iZ (fr : Int))])), (aq, .inl (cC, nq, .inl fq))] sz) (va_A [(hp_, .inr (6, [.ref aq, .int (iZ (fr : Int))])), (aq, .inl (cC, nq, .inl fq))] sz)) 0 0 (va_A [(hp_, .inr (6, [.ref aq, .int (iZ (fr : Int))])), (aq, .inl (cC, nq, .inl fq))] sz) := by
  refine met_enter (by decide +kernel) (Nat.le_of_ble_eq_true rfl) ?_
  intro p e s m args below meth c ls A R Q H locs K hin hAe hA hR hQ hP hK hD hS hl
  obtain ⟨hx, hb, hml, hrt, hlk, hts, hown, hno⟩ := id K
  have hl : lv_has ls 1 [(0, .ref hp_)] := hl
  have hTl := hT.1
  refine lv_aload_n hx hb d_Pr_count_0 rfl (lv_at hl 0 rfl) ?_
  refine va_get (D := D) (ci := 6) (v := .ref aq) (C := R_Pr) (T := F_Pr) (N := 2) hx hb hts i_Pr hown hK hP 0 rfl rfl 0 (by decide) (hts _ (big_in mw_171 rfl)) (fun _ h9 => h9) rfl d_Pr_count_1 ?_
  refine va_alen hx hb hK hP 1 0 rfl rfl (v := iZ (nq : Int)) (nI_iZ _) d_Pr_count_4 ?_
  refine lv_aload_n hx hb d_Pr_count_5 rfl (lv_at hl 0 rfl) ?_
  refine va_get (D := D) (ci := 6) (v := .int (iZ (fr : Int))) (C := R_Pr) (T := F_Pr) (N := 2) hx hb hts i_Pr hown hK hP 0 rfl rfl 1 (by decide) (hts _ (big_in mw_172 rfl)) (fun _ h9 => h9) rfl d_Pr_count_6 ?_
  refine zz_isub hx hb d_Pr_count_9 ?_
  rw [show ((nq : Int) - (fr : Int) : Int) = (li.length : Int) by omega]
  have hP9 : va_P D cls0 [(hp_, .inr (6, [.ref aq, .int (iZ (fr : Int))])), (aq, .inl (cC, nq, .inl fq))] H := hP.sub [0, 1] rfl
  have hD9 : va_D A [(hp_, .inr (6, [.ref aq, .int (iZ (fr : Int))])), (aq, .inl (cC, nq, .inl fq))] := hD.sub [0, 1] (by decide) rfl
  rw [hQ, ← hAe]
  refine r_i (v := (iZ (li.length : Int))) K () hS d_Pr_count_10 ?_ (fun t ht hv => ?_)
  · exact rfl
  · exact ⟨by rw [ht]; exact hP9, va_K.moved hv hK, by rw [← hAe]; exact hD9⟩
set_option maxHeartbeats 4000000 in
set_option maxRecDepth 100000 in
/-- at(i) -/
theorem c_Pr_at (l : Launch) (D : va_G) (hp_ : Nat) (aq : Nat) (nq : Nat) (fq : Nat → Int32) (fr : Nat) (cC : ClassId) (li : List Nat) (z : Int) (sz : Nat) (hT : TX fq fr nq li) (hnq : nq ≤ 20000) (hz : -2147483648 ≤ z ∧ z < 2147483648) (hli : ∀ i, i < li.length → li.getD i 0 < 65536) : Met l y_Pr_at (wsB y_Pr_at b_Pr_at 2 (some .int)) ({ frames := 1, cells := 0, slots := 0, locals := 20 }) (va_Pc [.ref hp_, .int (iZ z)] (wPre D [(cC, .char)] [(hp_, .inr (6, [.ref aq, .int (iZ (fr : Int))])), (aq, .inl (cC, nq, .inl fq))] sz)) (va_QV (fun (v_9 : Option Value) (u_9 : Int) => v_9 = some (.int (iZ u_9)) ∧ (u_9 = if 0 ≤ z ∧ z < li.length then (li.getD z.toNat 0 : Int) else -1)) (fun u_9 => wPost D [(cC, .char)] [(hp_, .inr (6, [.ref aq, .int (iZ (fr : Int))])), (aq, .inl (cC, nq, .inl fq))] [(hp_, .inr (6, [.ref aq, .int (iZ (fr : Int))])), (aq, .inl (cC, nq, .inl fq))] sz) (va_A [(hp_, .inr (6, [.ref aq, .int (iZ (fr : Int))])), (aq, .inl (cC, nq, .inl fq))] sz)) 0 0 (va_A [(hp_, .inr (6, [.ref aq, .int (iZ (fr : Int))])), (aq, .inl (cC, nq, .inl fq))] sz) := by
  refine met_enter (by decide +kernel) (Nat.le_of_ble_eq_true rfl) ?_
  intro p e s m args below meth c ls A R Q H locs K hin hAe hA hR hQ hP hK hD hS hl
  obtain ⟨hx, hb, hml, hrt, hlk, hts, hown, hno⟩ := id K
  have hl : lv_has ls 2 [(0, .ref hp_), (1, .int (iZ z))] := hl
  have hTl := hT.1
  refine lv_iload_n hx hb d_Pr_at_0 rfl (lv_at hl 1 rfl) ?_
  refine zz_if_lt (tgt := 26) hx hb d_Pr_at_1 (by decide) (by omega) (fun c1 => ?_) (fun c1 => ?_)
  · refine lv_iconst (v := iZ (-1)) hx hb d_Pr_at_26 (by decide +kernel) ?_
    have hP9 : va_P D cls0 [(hp_, .inr (6, [.ref aq, .int (iZ (fr : Int))])), (aq, .inl (cC, nq, .inl fq))] H := hP.sub [0, 1] rfl
    have hD9 : va_D A [(hp_, .inr (6, [.ref aq, .int (iZ (fr : Int))])), (aq, .inl (cC, nq, .inl fq))] := hD.sub [0, 1] (by decide) rfl
    rw [hQ, ← hAe]
    refine r_i (v := (iZ (-1))) K (-1) hS d_Pr_at_27 ?_ (fun t ht hv => ?_)
    · refine ⟨rfl, ?_⟩
      first | (rw [if_pos (by omega)]) | (rw [if_neg (by omega)])
    · exact ⟨by rw [ht]; exact hP9, va_K.moved hv hK, by rw [← hAe]; exact hD9⟩
  · refine lv_iload_n hx hb d_Pr_at_4 rfl (lv_at hl 1 rfl) ?_
    refine lv_aload_n hx hb d_Pr_at_5 rfl (lv_at hl 0 rfl) ?_
    refine cv (n := 0) (wr := []) (w1 := (fun (u : Unit) => [(hp_, .inr (6, [.ref aq, .int (iZ (fr : Int))])), (aq, .inl (cC, nq, .inl fq))])) (As := []) (rest := [.int (iZ z)]) K hP hD hK hS hA hl.1 (c_Pr_count l D hp_ aq nq fq fr cC li H.size hT (by omega)) [0, 1] [] [0] rfl rfl rfl (by decide) (by decide) (by decide) 0 rfl rfl (big_in mw_272 rfl) (big_in mw_8 rfl) (big_in mw_269 rfl) (big_in mw_270 rfl) (big_in mw_271 rfl) rfl rfl (by decide +kernel) ⟨by rw [hR]; exact Nat.le_of_ble_eq_true rfl, by rw [hR]; exact Nat.le_of_ble_eq_true rfl⟩ rfl (Nat.le_of_ble_eq_true rfl) d_Pr_at_6 ⟨by rw [hR]; exact Nat.le_of_ble_eq_true rfl, by rw [hR]; exact Nat.le_of_ble_eq_true rfl⟩ rfl (fun v u H locs hp1 hP hD hS _ => ?_)
    obtain rfl := hp1
    have hP : va_P D cls0 [(hp_, .inr (6, [.ref aq, .int (iZ (fr : Int))])), (aq, .inl (cC, nq, .inl fq))] H := hP
    have hD : va_D A [(hp_, .inr (6, [.ref aq, .int (iZ (fr : Int))])), (aq, .inl (cC, nq, .inl fq))] := hD
    show W p l e R s m args below meth c H locs _ _ Q (F0 m 9 ls [.int (iZ (li.length : Int)), .int (iZ z)])
    refine zz_icmp_ge (tgt := 26) hx hb d_Pr_at_9 (by decide) (by omega) (by omega) (fun c9 => ?_) (fun c9 => ?_)
    · refine lv_iconst (v := iZ (-1)) hx hb d_Pr_at_26 (by decide +kernel) ?_
      have hP9 : va_P D cls0 [(hp_, .inr (6, [.ref aq, .int (iZ (fr : Int))])), (aq, .inl (cC, nq, .inl fq))] H := hP.sub [0, 1] rfl
      have hD9 : va_D A [(hp_, .inr (6, [.ref aq, .int (iZ (fr : Int))])), (aq, .inl (cC, nq, .inl fq))] := hD.sub [0, 1] (by decide) rfl
      rw [hQ, ← hAe]
      refine r_i (v := (iZ (-1))) K (-1) hS d_Pr_at_27 ?_ (fun t ht hv => ?_)
      · refine ⟨rfl, ?_⟩
        first | (rw [if_pos (by omega)]) | (rw [if_neg (by omega)])
      · exact ⟨by rw [ht]; exact hP9, va_K.moved hv hK, by rw [← hAe]; exact hD9⟩
    · refine lv_aload_n hx hb d_Pr_at_12 rfl (lv_at hl 0 rfl) ?_
      refine va_get (D := D) (ci := 6) (v := .ref aq) (C := R_Pr) (T := F_Pr) (N := 2) hx hb hts i_Pr hown hK hP 0 rfl rfl 0 (by decide) (hts _ (big_in mw_171 rfl)) (fun _ h9 => h9) rfl d_Pr_at_13 ?_
      refine lv_aload_n hx hb d_Pr_at_16 rfl (lv_at hl 0 rfl) ?_
      refine va_get (D := D) (ci := 6) (v := .int (iZ (fr : Int))) (C := R_Pr) (T := F_Pr) (N := 2) hx hb hts i_Pr hown hK hP 0 rfl rfl 1 (by decide) (hts _ (big_in mw_172 rfl)) (fun _ h9 => h9) rfl d_Pr_at_17 ?_
      refine lv_iload_n hx hb d_Pr_at_20 rfl (lv_at hl 1 rfl) ?_
      refine zz_iadd hx hb d_Pr_at_21 ?_
      refine zz_cald hx hb hK hP 1 0 rfl rfl (fr + z.toNat) (by omega) (by omega) (by omega) d_Pr_at_22 ?_
      rw [hT.2 z.toNat (by omega)]
      refine lv_goto (tgt := 27) hx hb d_Pr_at_23 (by decide) ?_
      have hP9 : va_P D cls0 [(hp_, .inr (6, [.ref aq, .int (iZ (fr : Int))])), (aq, .inl (cC, nq, .inl fq))] H := hP.sub [0, 1] rfl
      have hD9 : va_D A [(hp_, .inr (6, [.ref aq, .int (iZ (fr : Int))])), (aq, .inl (cC, nq, .inl fq))] := hD.sub [0, 1] (by decide) rfl
      rw [hQ, ← hAe]
      refine r_i (v := (iZ (li.getD z.toNat 0 : Int))) K (li.getD z.toNat 0 : Int) hS d_Pr_at_27 ?_ (fun t ht hv => ?_)
      · refine ⟨rfl, ?_⟩
        first | (rw [if_pos (by omega)]) | (rw [if_neg (by omega)])
      · exact ⟨by rw [ht]; exact hP9, va_K.moved hv hK, by rw [← hAe]; exact hD9⟩
theorem nine_ge {fg rs i : Nat} (h : rs = fg / 10 ^ i) (h0 : 0 < rs) : 10 ^ i ≤ fg := by
  apply Nat.le_of_not_lt
  intro q
  rw [Nat.div_eq_of_lt q] at h
  omega
set_option maxHeartbeats 4000000 in
set_option maxRecDepth 100000 in
/-- putNine(figures, withZeros) -/
theorem c_Pr_putNine1 (l : Launch) (D : va_G) (hp_ : Nat) (aq : Nat) (nq : Nat) (fq : Nat → Int32) (fr : Nat) (cC : ClassId) (li : List Nat) (fg : Nat) (sz : Nat) (hT : TX fq fr nq li) (hnq : nq ≤ 20000) (hfg : fg < 1000000000) (h9 : 9 ≤ fr) : Met l y_Pr_putNine (wsB y_Pr_putNine b_Pr_putNine 5 none) ({ frames := 1, cells := 0, slots := 0, locals := 21 }) (va_Pc [.ref hp_, .int (iZ (fg : Int)), .int (iZ 1)] (wPre D [(cC, .char)] [(hp_, .inr (6, [.ref aq, .int (iZ (fr : Int))])), (aq, .inl (cC, nq, .inl fq))] sz)) (va_QV (fun (v_9 : Option Value) (u_9 : Nat × (Nat → Int32)) => v_9 = none ∧ (TX u_9.2 u_9.1 nq (dg 9 fg ++ li))) (fun u_9 => wPost D [(cC, .char)] [(hp_, .inr (6, [.ref aq, .int (iZ (fr : Int))])), (aq, .inl (cC, nq, .inl fq))] [(hp_, .inr (6, [.ref aq, .int (iZ (u_9.1 : Int))])), (aq, .inl (cC, nq, .inl u_9.2))] sz) (va_A [(hp_, .inr (6, [.ref aq, .int (iZ (fr : Int))])), (aq, .inl (cC, nq, .inl fq))] sz)) 0 0 (va_A [(hp_, .inr (6, [.ref aq, .int (iZ (fr : Int))])), (aq, .inl (cC, nq, .inl fq))] sz) := by
  refine met_enter (by decide +kernel) (Nat.le_of_ble_eq_true rfl) ?_
  intro p e s m args below meth c ls A R Q H locs K hin hAe hA hR hQ hP hK hD hS hl
  obtain ⟨hx, hb, hml, hrt, hlk, hts, hown, hno⟩ := id K
  have hl : lv_has ls 5 [(0, .ref hp_), (1, .int (iZ (fg : Int))), (2, .int (iZ 1))] := hl
  have hTl := hT.1
  refine lv_iload_n hx hb d_Pr_putNine_0 rfl (lv_at hl 1 rfl) ?_
  refine lv_istore_n (lv' := [(3, .int (iZ (fg : Int))), (0, .ref hp_), (1, .int (iZ (fg : Int))), (2, .int (iZ 1))]) hx hb d_Pr_putNine_1 rfl hl (by decide) rfl (fun ls hl => ?_)
  refine lv_iconst (v := iZ (0)) hx hb d_Pr_putNine_2 (by decide +kernel) ?_
  refine lv_istore (lv' := [(4, .int (iZ 0)), (3, .int (iZ (fg : Int))), (0, .ref hp_), (1, .int (iZ (fg : Int))), (2, .int (iZ 1))]) hx hb d_Pr_putNine_3 hl (by decide) rfl (fun ls hl => ?_)
  have L5 : ∀ (N : Nat) (i : Nat) (rs : Nat) (fx : Nat) (gx : Nat → Int32) (H : Heap) (locs : List Loc) (ls : Array Slot), 9 - i < N → (i ≤ 9) → (TX gx fx nq (dg i fg ++ li)) → (rs = fg / 10 ^ i) → va_P D cls0 [(hp_, .inr (6, [.ref aq, .int (iZ (fx : Int))])), (aq, .inl (cC, nq, .inl gx))] H → va_D A [(hp_, .inr (6, [.ref aq, .int (iZ (fx : Int))])), (aq, .inl (cC, nq, .inl gx))] → va_S A s.heap H locs → lv_has ls 5 [(0, .ref hp_), (1, .int (iZ (fg : Int))), (2, .int (iZ 1)), (3, .int (iZ (rs : Int))), (4, .int (iZ (i : Int)))] → W p l e R s m args below meth c H locs 0 0 Q (F0 m 5 ls []) := by
    intro N
    induction N with
    | zero => intro i rs fx gx H locs ls hN; exact absurd hN (Nat.not_lt_zero _)
    | succ N ih =>
      intro i rs fx gx H locs ls hN ii iT ir hP hD hS hl
      refine lv_iload hx hb d_Pr_putNine_5 (lv_at hl 4 rfl) ?_
      refine lv_bipush (v := iZ (9)) hx hb d_Pr_putNine_7 (by decide +kernel) ?_
      refine zz_icmp_ge (tgt := 43) hx hb d_Pr_putNine_9 (by decide) (by omega) (by omega) (fun c9 => ?_) (fun c9 => ?_)
      · have hP9 : va_P D cls0 [(hp_, .inr (6, [.ref aq, .int (iZ (fx : Int))])), (aq, .inl (cC, nq, .inl gx))] H := hP.sub [0, 1] rfl
        have hD9 : va_D A [(hp_, .inr (6, [.ref aq, .int (iZ (fx : Int))])), (aq, .inl (cC, nq, .inl gx))] := hD.sub [0, 1] (by decide) rfl
        rw [hQ, ← hAe]
        refine r_v K (fx, gx) hS d_Pr_putNine_43 ?_ (fun t ht hv => ?_)
        · try dsimp only
          have ei : i = 9 := by omega
          subst ei
          exact ⟨rfl, iT⟩
        · exact ⟨by rw [ht]; exact hP9, va_K.moved hv hK, by rw [← hAe]; exact hD9⟩
      · have hTx := iT.1
        rw [List.length_append, dg_len] at hTx
        have hrs : rs ≤ fg := by rw [ir]; exact Nat.div_le_self _ _
        refine lv_iload_n hx hb d_Pr_putNine_12 rfl (lv_at hl 2 rfl) ?_
        refine zz_if_ne (tgt := 20) hx hb d_Pr_putNine_13 (by decide) (by omega) (fun c13 => ?_) (fun c13 => False.elim (by omega))
        refine lv_aload_n hx hb d_Pr_putNine_20 rfl (lv_at hl 0 rfl) ?_
        refine lv_bipush (v := iZ (48)) hx hb d_Pr_putNine_21 (by decide +kernel) ?_
        refine lv_iload_n hx hb d_Pr_putNine_23 rfl (lv_at hl 3 rfl) ?_
        refine lv_bipush (v := iZ (10)) hx hb d_Pr_putNine_24 (by decide +kernel) ?_
        refine zz_irem hx hb d_Pr_putNine_26 (by omega) (by omega) ?_
        refine zz_iadd hx hb d_Pr_putNine_27 ?_
        refine zz_i2c hx hb d_Pr_putNine_28 (by omega) ?_
        rw [show (48 + ((rs : Int) % 10) : Int) = ((48 + rs % 10 : Nat) : Int) by omega]
        refine cv (n := 1) (wr := []) (w1 := (fun (u : Nat × (Nat → Int32)) => [(hp_, .inr (6, [.ref aq, .int (iZ (u.1 : Int))])), (aq, .inl (cC, nq, .inl u.2))])) (As := [.int (iZ ((48 + rs % 10 : Nat) : Int))]) (rest := []) K hP hD hK hS hA hl.1 (c_Pr_put l D hp_ aq nq gx fx cC (dg i fg ++ li) (48 + rs % 10) H.size iT (by omega) (by omega) (by omega)) [0, 1] [] [0] rfl rfl rfl (by decide) (by decide) (by decide) 0 rfl rfl (big_in mw_1099 rfl) (big_in mw_8 rfl) (big_in mw_1096 rfl) (big_in mw_1098 rfl) (big_in sp_16 rfl) rfl rfl (by decide +kernel) ⟨by rw [hR]; exact Nat.le_of_ble_eq_true rfl, by rw [hR]; exact Nat.le_of_ble_eq_true rfl⟩ rfl (Nat.le_of_ble_eq_true rfl) d_Pr_putNine_29 ⟨by rw [hR]; exact Nat.le_of_ble_eq_true rfl, by rw [hR]; exact Nat.le_of_ble_eq_true rfl⟩ rfl (fun v u H locs hp1 hP hD hS _ => ?_)
        obtain ⟨fz, gz⟩ := u
        try dsimp only at hp1
        obtain ⟨rfl, pT⟩ := hp1
        have hP : va_P D cls0 [(hp_, .inr (6, [.ref aq, .int (iZ (fz : Int))])), (aq, .inl (cC, nq, .inl gz))] H := hP
        have hD : va_D A [(hp_, .inr (6, [.ref aq, .int (iZ (fz : Int))])), (aq, .inl (cC, nq, .inl gz))] := hD
        show W p l e R s m args below meth c H locs _ _ Q (F0 m 32 ls [])
        refine lv_iload_n hx hb d_Pr_putNine_32 rfl (lv_at hl 3 rfl) ?_
        refine lv_bipush (v := iZ (10)) hx hb d_Pr_putNine_33 (by decide +kernel) ?_
        refine zz_idiv hx hb d_Pr_putNine_35 (by omega) (by omega) ?_
        refine lv_istore_n (lv' := [(3, .int (iZ ((rs : Int) / 10))), (0, .ref hp_), (1, .int (iZ (fg : Int))), (2, .int (iZ 1)), (4, .int (iZ (i : Int)))]) hx hb d_Pr_putNine_36 rfl hl (by decide) rfl (fun ls hl => ?_)
        refine lv_iinc (v := iZ ((i : Int) + 1)) (lv' := [(4, .int (iZ ((i : Int) + 1))), (3, .int (iZ ((rs : Int) / 10))), (0, .ref hp_), (1, .int (iZ (fg : Int))), (2, .int (iZ 1))]) hx hb d_Pr_putNine_37 hl (k := 4) rfl (iZ_add _ _) (by decide) rfl (fun ls hl => ?_)
        refine lv_goto (tgt := 5) hx hb d_Pr_putNine_40 (by decide) ?_
        rw [show ((rs : Int) / 10 : Int) = ((rs / 10 : Nat) : Int) by omega] at hl
        rw [show ((i : Int) + 1 : Int) = ((i + 1 : Nat) : Int) by omega] at hl
        exact ih (i + 1) (rs / 10) fz gz _ _ _ (by omega) (by omega) (by rw [ir] at pT; exact pT) (by rw [ir, Nat.div_div_eq_div_mul, ← Nat.pow_succ]) (hP.sub (ws' := [(hp_, .inr (6, [.ref aq, .int (iZ (fz : Int))])), (aq, .inl (cC, nq, .inl gz))]) [0, 1] rfl) (hD.sub (ws' := [(hp_, .inr (6, [.ref aq, .int (iZ (fz : Int))])), (aq, .inl (cC, nq, .inl gz))]) [0, 1] (by decide) rfl) hS (lv_sub hl [2, 3, 4, 1, 0] rfl)
  exact L5 _ 0 fg fr fq _ _ _ (Nat.lt_succ_self _) (by omega) hT (by rw [Nat.pow_zero, Nat.div_one]) (hP.sub (ws' := [(hp_, .inr (6, [.ref aq, .int (iZ (fr : Int))])), (aq, .inl (cC, nq, .inl fq))]) [0, 1] rfl) (hD.sub (ws' := [(hp_, .inr (6, [.ref aq, .int (iZ (fr : Int))])), (aq, .inl (cC, nq, .inl fq))]) [0, 1] (by decide) rfl) hS (lv_sub hl [2, 3, 4, 1, 0] rfl)
set_option maxHeartbeats 4000000 in
set_option maxRecDepth 100000 in
/-- putNine(figures, withZeros) -/
theorem c_Pr_putNine0 (l : Launch) (D : va_G) (hp_ : Nat) (aq : Nat) (nq : Nat) (fq : Nat → Int32) (fr : Nat) (cC : ClassId) (li : List Nat) (fg : Nat) (dj : Nat) (sz : Nat) (hT : TX fq fr nq li) (hnq : nq ≤ 20000) (hfg : fg < 1000000000) (hdj : fg < 10 ^ dj) (hdr : dj ≤ fr) : Met l y_Pr_putNine (wsB y_Pr_putNine b_Pr_putNine 5 none) ({ frames := 1, cells := 0, slots := 0, locals := 21 }) (va_Pc [.ref hp_, .int (iZ (fg : Int)), .int (iZ 0)] (wPre D [(cC, .char)] [(hp_, .inr (6, [.ref aq, .int (iZ (fr : Int))])), (aq, .inl (cC, nq, .inl fq))] sz)) (va_QV (fun (v_9 : Option Value) (u_9 : Nat × (Nat → Int32) × Nat) => v_9 = none ∧ (TX u_9.2.1 u_9.1 nq (dg u_9.2.2 fg ++ li)) ∧ (fg < 10 ^ u_9.2.2) ∧ (u_9.2.2 = 0 ∨ 10 ^ (u_9.2.2 - 1) ≤ fg)) (fun u_9 => wPost D [(cC, .char)] [(hp_, .inr (6, [.ref aq, .int (iZ (fr : Int))])), (aq, .inl (cC, nq, .inl fq))] [(hp_, .inr (6, [.ref aq, .int (iZ (u_9.1 : Int))])), (aq, .inl (cC, nq, .inl u_9.2.1))] sz) (va_A [(hp_, .inr (6, [.ref aq, .int (iZ (fr : Int))])), (aq, .inl (cC, nq, .inl fq))] sz)) 0 0 (va_A [(hp_, .inr (6, [.ref aq, .int (iZ (fr : Int))])), (aq, .inl (cC, nq, .inl fq))] sz) := by
  refine met_enter (by decide +kernel) (Nat.le_of_ble_eq_true rfl) ?_
  intro p e s m args below meth c ls A R Q H locs K hin hAe hA hR hQ hP hK hD hS hl
  obtain ⟨hx, hb, hml, hrt, hlk, hts, hown, hno⟩ := id K
  have hl : lv_has ls 5 [(0, .ref hp_), (1, .int (iZ (fg : Int))), (2, .int (iZ 0))] := hl
  have hTl := hT.1
  refine lv_iload_n hx hb d_Pr_putNine_0 rfl (lv_at hl 1 rfl) ?_
  refine lv_istore_n (lv' := [(3, .int (iZ (fg : Int))), (0, .ref hp_), (1, .int (iZ (fg : Int))), (2, .int (iZ 0))]) hx hb d_Pr_putNine_1 rfl hl (by decide) rfl (fun ls hl => ?_)
  refine lv_iconst (v := iZ (0)) hx hb d_Pr_putNine_2 (by decide +kernel) ?_
  refine lv_istore (lv' := [(4, .int (iZ 0)), (3, .int (iZ (fg : Int))), (0, .ref hp_), (1, .int (iZ (fg : Int))), (2, .int (iZ 0))]) hx hb d_Pr_putNine_3 hl (by decide) rfl (fun ls hl => ?_)
  have L5 : ∀ (N : Nat) (i : Nat) (rs : Nat) (fx : Nat) (gx : Nat → Int32) (H : Heap) (locs : List Loc) (ls : Array Slot), 9 - i < N → (i ≤ 9) → (TX gx fx nq (dg i fg ++ li)) → (rs = fg / 10 ^ i) → (i = 0 ∨ 10 ^ (i - 1) ≤ fg) → va_P D cls0 [(hp_, .inr (6, [.ref aq, .int (iZ (fx : Int))])), (aq, .inl (cC, nq, .inl gx))] H → va_D A [(hp_, .inr (6, [.ref aq, .int (iZ (fx : Int))])), (aq, .inl (cC, nq, .inl gx))] → va_S A s.heap H locs → lv_has ls 5 [(0, .ref hp_), (1, .int (iZ (fg : Int))), (2, .int (iZ 0)), (3, .int (iZ (rs : Int))), (4, .int (iZ (i : Int)))] → W p l e R s m args below meth c H locs 0 0 Q (F0 m 5 ls []) := by
    intro N
    induction N with
    | zero => intro i rs fx gx H locs ls hN; exact absurd hN (Nat.not_lt_zero _)
    | succ N ih =>
      intro i rs fx gx H locs ls hN ii iT ir iz hP hD hS hl
      refine lv_iload hx hb d_Pr_putNine_5 (lv_at hl 4 rfl) ?_
      refine lv_bipush (v := iZ (9)) hx hb d_Pr_putNine_7 (by decide +kernel) ?_
      refine zz_icmp_ge (tgt := 43) hx hb d_Pr_putNine_9 (by decide) (by omega) (by omega) (fun c9 => ?_) (fun c9 => ?_)
      · have hP9 : va_P D cls0 [(hp_, .inr (6, [.ref aq, .int (iZ (fx : Int))])), (aq, .inl (cC, nq, .inl gx))] H := hP.sub [0, 1] rfl
        have hD9 : va_D A [(hp_, .inr (6, [.ref aq, .int (iZ (fx : Int))])), (aq, .inl (cC, nq, .inl gx))] := hD.sub [0, 1] (by decide) rfl
        rw [hQ, ← hAe]
        refine r_v K (fx, gx, i) hS d_Pr_putNine_43 ?_ (fun t ht hv => ?_)
        · try dsimp only
          refine ⟨rfl, iT, ?_, iz⟩
          rcases (show i = 9 ∨ rs = 0 by omega) with q | q
          · rw [q]; omega
          · rw [q] at ir; have := (Nat.div_eq_zero_iff.mp ir.symm); have := Nat.pow_pos (n := i) (show 0 < 10 by decide); omega
        · exact ⟨by rw [ht]; exact hP9, va_K.moved hv hK, by rw [← hAe]; exact hD9⟩
      · have hTx := iT.1
        rw [List.length_append, dg_len] at hTx
        have hrs : rs ≤ fg := by rw [ir]; exact Nat.div_le_self _ _
        refine lv_iload_n hx hb d_Pr_putNine_12 rfl (lv_at hl 2 rfl) ?_
        refine zz_if_ne (tgt := 20) hx hb d_Pr_putNine_13 (by decide) (by omega) (fun c13 => False.elim (by omega)) (fun c13 => ?_)
        refine lv_iload_n hx hb d_Pr_putNine_16 rfl (lv_at hl 3 rfl) ?_
        refine zz_if_le (tgt := 43) hx hb d_Pr_putNine_17 (by decide) (by omega) (fun c17 => ?_) (fun c17 => ?_)
        · have hP9 : va_P D cls0 [(hp_, .inr (6, [.ref aq, .int (iZ (fx : Int))])), (aq, .inl (cC, nq, .inl gx))] H := hP.sub [0, 1] rfl
          have hD9 : va_D A [(hp_, .inr (6, [.ref aq, .int (iZ (fx : Int))])), (aq, .inl (cC, nq, .inl gx))] := hD.sub [0, 1] (by decide) rfl
          rw [hQ, ← hAe]
          refine r_v K (fx, gx, i) hS d_Pr_putNine_43 ?_ (fun t ht hv => ?_)
          · try dsimp only
            refine ⟨rfl, iT, ?_, iz⟩
            rcases (show i = 9 ∨ rs = 0 by omega) with q | q
            · rw [q]; omega
            · rw [q] at ir; have := (Nat.div_eq_zero_iff.mp ir.symm); have := Nat.pow_pos (n := i) (show 0 < 10 by decide); omega
          · exact ⟨by rw [ht]; exact hP9, va_K.moved hv hK, by rw [← hAe]; exact hD9⟩
        · have hij : i < dj := by
            apply Nat.lt_of_not_le
            intro q
            have q2 := Nat.pow_le_pow_right (show 0 < 10 by decide) q
            rw [Nat.div_eq_of_lt (by omega)] at ir
            omega
          refine lv_aload_n hx hb d_Pr_putNine_20 rfl (lv_at hl 0 rfl) ?_
          refine lv_bipush (v := iZ (48)) hx hb d_Pr_putNine_21 (by decide +kernel) ?_
          refine lv_iload_n hx hb d_Pr_putNine_23 rfl (lv_at hl 3 rfl) ?_
          refine lv_bipush (v := iZ (10)) hx hb d_Pr_putNine_24 (by decide +kernel) ?_
          refine zz_irem hx hb d_Pr_putNine_26 (by omega) (by omega) ?_
          refine zz_iadd hx hb d_Pr_putNine_27 ?_
          refine zz_i2c hx hb d_Pr_putNine_28 (by omega) ?_
          rw [show (48 + ((rs : Int) % 10) : Int) = ((48 + rs % 10 : Nat) : Int) by omega]
          refine cv (n := 1) (wr := []) (w1 := (fun (u : Nat × (Nat → Int32)) => [(hp_, .inr (6, [.ref aq, .int (iZ (u.1 : Int))])), (aq, .inl (cC, nq, .inl u.2))])) (As := [.int (iZ ((48 + rs % 10 : Nat) : Int))]) (rest := []) K hP hD hK hS hA hl.1 (c_Pr_put l D hp_ aq nq gx fx cC (dg i fg ++ li) (48 + rs % 10) H.size iT (by omega) (by omega) (by omega)) [0, 1] [] [0] rfl rfl rfl (by decide) (by decide) (by decide) 0 rfl rfl (big_in mw_1099 rfl) (big_in mw_8 rfl) (big_in mw_1096 rfl) (big_in mw_1098 rfl) (big_in sp_16 rfl) rfl rfl (by decide +kernel) ⟨by rw [hR]; exact Nat.le_of_ble_eq_true rfl, by rw [hR]; exact Nat.le_of_ble_eq_true rfl⟩ rfl (Nat.le_of_ble_eq_true rfl) d_Pr_putNine_29 ⟨by rw [hR]; exact Nat.le_of_ble_eq_true rfl, by rw [hR]; exact Nat.le_of_ble_eq_true rfl⟩ rfl (fun v u H locs hp1 hP hD hS _ => ?_)
          obtain ⟨fz, gz⟩ := u
          try dsimp only at hp1
          obtain ⟨rfl, pT⟩ := hp1
          have hP : va_P D cls0 [(hp_, .inr (6, [.ref aq, .int (iZ (fz : Int))])), (aq, .inl (cC, nq, .inl gz))] H := hP
          have hD : va_D A [(hp_, .inr (6, [.ref aq, .int (iZ (fz : Int))])), (aq, .inl (cC, nq, .inl gz))] := hD
          show W p l e R s m args below meth c H locs _ _ Q (F0 m 32 ls [])
          refine lv_iload_n hx hb d_Pr_putNine_32 rfl (lv_at hl 3 rfl) ?_
          refine lv_bipush (v := iZ (10)) hx hb d_Pr_putNine_33 (by decide +kernel) ?_
          refine zz_idiv hx hb d_Pr_putNine_35 (by omega) (by omega) ?_
          refine lv_istore_n (lv' := [(3, .int (iZ ((rs : Int) / 10))), (0, .ref hp_), (1, .int (iZ (fg : Int))), (2, .int (iZ 0)), (4, .int (iZ (i : Int)))]) hx hb d_Pr_putNine_36 rfl hl (by decide) rfl (fun ls hl => ?_)
          refine lv_iinc (v := iZ ((i : Int) + 1)) (lv' := [(4, .int (iZ ((i : Int) + 1))), (3, .int (iZ ((rs : Int) / 10))), (0, .ref hp_), (1, .int (iZ (fg : Int))), (2, .int (iZ 0))]) hx hb d_Pr_putNine_37 hl (k := 4) rfl (iZ_add _ _) (by decide) rfl (fun ls hl => ?_)
          refine lv_goto (tgt := 5) hx hb d_Pr_putNine_40 (by decide) ?_
          rw [show ((rs : Int) / 10 : Int) = ((rs / 10 : Nat) : Int) by omega] at hl
          rw [show ((i : Int) + 1 : Int) = ((i + 1 : Nat) : Int) by omega] at hl
          exact ih (i + 1) (rs / 10) fz gz _ _ _ (by omega) (by omega) (by rw [ir] at pT; exact pT) (by rw [ir, Nat.div_div_eq_div_mul, ← Nat.pow_succ]) (Or.inr (by rw [Nat.add_sub_cancel]; exact nine_ge ir (by omega))) (hP.sub (ws' := [(hp_, .inr (6, [.ref aq, .int (iZ (fz : Int))])), (aq, .inl (cC, nq, .inl gz))]) [0, 1] rfl) (hD.sub (ws' := [(hp_, .inr (6, [.ref aq, .int (iZ (fz : Int))])), (aq, .inl (cC, nq, .inl gz))]) [0, 1] (by decide) rfl) hS (lv_sub hl [2, 3, 4, 1, 0] rfl)
  exact L5 _ 0 fg fr fq _ _ _ (Nat.lt_succ_self _) (by omega) hT (by rw [Nat.pow_zero, Nat.div_one]) (Or.inl rfl) (hP.sub (ws' := [(hp_, .inr (6, [.ref aq, .int (iZ (fr : Int))])), (aq, .inl (cC, nq, .inl fq))]) [0, 1] rfl) (hD.sub (ws' := [(hp_, .inr (6, [.ref aq, .int (iZ (fr : Int))])), (aq, .inl (cC, nq, .inl fq))]) [0, 1] (by decide) rfl) hS (lv_sub hl [2, 3, 4, 1, 0] rfl)
