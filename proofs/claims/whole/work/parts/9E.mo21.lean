/-- what is printed so far -/
def PX (f : Nat → Int32) (l : List Nat) : Prop := ∀ i, i < l.length → f i = iZ (l.getD i 0 : Int)
theorem PX.nil (f : Nat → Int32) : PX f [] := fun i hi => absurd hi (Nat.not_lt_zero _)
theorem PX.put {f : Nat → Int32} {l : List Nat} {ch : Nat} {x : Int32} (h : PX f l) (hx : x = iZ (ch : Int)) : PX (upd f l.length x) (l ++ [ch]) := by
  intro i hi
  rw [List.length_append, List.length_cons, List.length_nil] at hi
  by_cases e : i = l.length
  · subst e
    rw [pk_us, hx, List.getD_eq_getElem?_getD, List.getElem?_append_right (Nat.le_refl _), Nat.sub_self]
    rfl
  · rw [pk_un e, List.getD_eq_getElem?_getD, List.getElem?_append_left (by omega), ← List.getD_eq_getElem?_getD]
    exact h i (by omega)
/-- m figures of v / 10^E are printed: none where it is 0 -/
def SY (v E m : Nat) : Prop := (v / 10 ^ E = 0 ∧ m = 0) ∨ (0 < v / 10 ^ E ∧ IsD (v / 10 ^ E) m)
theorem p10_s (v E : Nat) : v / 10 ^ (E + 1) = v / 10 ^ E / 10 := by rw [Nat.pow_succ, Nat.div_div_eq_div_mul]
theorem SY.print {v E m : Nat} (h : SY v (E + 1) m) (hp : 0 < v / 10 ^ E) : SY v E (m + 1) := by
  right
  refine ⟨hp, ?_⟩
  unfold SY at h
  rw [p10_s] at h
  generalize v / 10 ^ E = x at *
  rcases h with ⟨h1, h2⟩ | ⟨h1, h2⟩
  · subst h2
    exact ⟨by omega, by show x < 10 ^ 1; omega, Or.inl rfl⟩
  · obtain ⟨k1, k2, k3⟩ := h2
    refine ⟨by omega, ?_, Or.inr ?_⟩
    · rw [Nat.pow_succ]; omega
    · rw [show m + 1 - 1 = m by omega]
      rcases k3 with k3 | k3
      · subst k3; show 10 ^ 1 ≤ x; omega
      · have e : 10 ^ m = 10 ^ (m - 1) * 10 := by rw [← Nat.pow_succ]; congr 1; omega
        rw [e]; omega
theorem SY.skip {v E m : Nat} (h : SY v (E + 1) m) (hp : v / 10 ^ E = 0) : SY v E m := by
  left
  unfold SY at h
  rw [p10_s, hp] at h
  rcases h with ⟨h1, h2⟩ | ⟨h1, h2⟩
  · exact ⟨hp, h2⟩
  · omega
theorem SY.none {v E m : Nat} (h : SY v (E + 1) m) (hp : v / 10 ^ E = 0) : m = 0 := by
  rcases SY.skip h hp with z | z
  · exact z.2
  · omega
theorem dg_next (v E m : Nat) : dg (m + 1) (v / 10 ^ E) = dg m (v / 10 ^ (E + 1)) ++ [48 + v / 10 ^ E % 10] := by
  rw [dg_cat m 1, Nat.pow_one, p10_s]
  show _ ++ [48 + v / 10 ^ E / 10 ^ 0 % 10] = _
  rw [Nat.pow_zero, Nat.div_one]
theorem tB_ten (q : Nat) : tB q = 10 ^ (4 * q) := by unfold tB; rw [show (10000 : Nat) = 10 ^ 4 by decide, ← Nat.pow_mul]
theorem say_d {v q j : Nat} (hj : j < 4) : dz v q / 10 ^ j % 10 = v / 10 ^ (4 * q + j) % 10 := by
  unfold dz
  rw [tB_ten, Nat.pow_add, ← Nat.div_div_eq_div_mul]
  generalize v / 10 ^ (4 * q) = x
  rcases (show j = 0 ∨ j = 1 ∨ j = 2 ∨ j = 3 by omega) with h | h | h | h <;> subst h
  · show x % 10000 / 1 % 10 = x / 1 % 10; omega
  · show x % 10000 / 10 % 10 = x / 10 % 10; omega
  · show x % 10000 / 100 % 10 = x / 100 % 10; omega
  · show x % 10000 / 1000 % 10 = x / 1000 % 10; omega
theorem say_top {v q j : Nat} (hq : nd v = q + 1) : v / 10 ^ (4 * q + j) = dz v q / 10 ^ j := by
  have h1 : v / tB q < 10000 := Nat.div_lt_of_lt_mul (by rw [← tB_s, ← hq]; exact nd_self v)
  unfold dz
  rw [Nat.mod_eq_of_lt h1, tB_ten, Nat.pow_add, Nat.div_div_eq_div_mul]
theorem say_low {v q j : Nat} (hq : q + 1 < nd v) (hj : j ≤ 4) : 0 < v / 10 ^ (4 * q + j) := by
  apply Nat.div_pos _ (Nat.pow_pos (by decide))
  refine Nat.le_trans (Nat.pow_le_pow_right (by decide) (show 4 * q + j ≤ 4 * (q + 1) by omega)) ?_
  rw [← tB_ten]
  exact nd_lt.mp hq
theorem SY.zero {v m : Nat} (h : SY v 0 m) (hv : 0 < v) : IsD v m := by
  unfold SY at h
  rw [Nat.pow_zero, Nat.div_one] at h
  rcases h with h | h
  · omega
  · exact h.2
set_option maxHeartbeats 4000000 in
set_option maxRecDepth 100000 in
/-- say(b) -/
theorem c_Mo_say (l : Launch) (D : va_G) (mo : Nat) (qc : Int32) (np : Nat) (ow : Nat) (om : Nat) (ok_ : Nat) (oK : Nat) (og : Nat) (on_ : Nat) (oh : Nat) (ox : Nat) (qn : Int32) (qf : Int32) (op_ : Nat) (fw : Nat → Int32) (fm : Nat → Int32) (cI : ClassId) (fq : Nat → Int32) (val : Nat → Nat) (li : List Nat) (b : Nat) (sz : Nat) (hW : WB fw fm val) (hPX : PX fq li) (hll : li.length ≤ 10800) (hb9 : b < 9) (hcap : nd (val b) ≤ 2700) : Met l y_Mo_say (wsB y_Mo_say b_Mo_say 5 none) ({ frames := 0, cells := 0, slots := 0, locals := 0 }) (va_Pc [.ref mo, .int (iZ (b : Int))] (wPre D [(cI, .int)] [(mo, .inr (8, [.int qc, .int (iZ (np : Int)), .ref ow, .ref om, .ref ok_, .ref oK, .ref og, .ref on_, .ref oh, .ref ox, .int qn, .int qf, .ref op_, .int (iZ (li.length : Int))])), (ow, .inl (cI, 108000, .inl fw)), (om, .inl (cI, 9, .inl fm)), (op_, .inl (cI, 22000, .inl fq))] sz)) (va_QV (fun (v_9 : Option Value) (u_9 : (Nat → Int32) × Nat) => v_9 = none ∧ (PX u_9.1 (li ++ dg u_9.2 (val b))) ∧ ((val b = 0 ∧ u_9.2 = 0) ∨ (0 < val b ∧ IsD (val b) u_9.2))) (fun u_9 => wPost D [(cI, .int)] [(mo, .inr (8, [.int qc, .int (iZ (np : Int)), .ref ow, .ref om, .ref ok_, .ref oK, .ref og, .ref on_, .ref oh, .ref ox, .int qn, .int qf, .ref op_, .int (iZ (li.length : Int))])), (ow, .inl (cI, 108000, .inl fw)), (om, .inl (cI, 9, .inl fm)), (op_, .inl (cI, 22000, .inl fq))] [(mo, .inr (8, [.int qc, .int (iZ (np : Int)), .ref ow, .ref om, .ref ok_, .ref oK, .ref og, .ref on_, .ref oh, .ref ox, .int qn, .int qf, .ref op_, .int (iZ ((li ++ dg u_9.2 (val b)).length : Int))])), (ow, .inl (cI, 108000, .inl fw)), (om, .inl (cI, 9, .inl fm)), (op_, .inl (cI, 22000, .inl u_9.1))] sz) (va_A [(mo, .inr (8, [.int qc, .int (iZ (np : Int)), .ref ow, .ref om, .ref ok_, .ref oK, .ref og, .ref on_, .ref oh, .ref ox, .int qn, .int qf, .ref op_, .int (iZ (li.length : Int))])), (ow, .inl (cI, 108000, .inl fw)), (om, .inl (cI, 9, .inl fm)), (op_, .inl (cI, 22000, .inl fq))] sz)) 0 0 (va_A [(mo, .inr (8, [.int qc, .int (iZ (np : Int)), .ref ow, .ref om, .ref ok_, .ref oK, .ref og, .ref on_, .ref oh, .ref ox, .int qn, .int qf, .ref op_, .int (iZ (li.length : Int))])), (ow, .inl (cI, 108000, .inl fw)), (om, .inl (cI, 9, .inl fm)), (op_, .inl (cI, 22000, .inl fq))] sz) := by
  refine met_enter (by decide +kernel) (Nat.le_of_ble_eq_true rfl) ?_
  intro p e s m args below meth c ls A R Q H locs K hin hAe hA hR hQ hP hK hD hS hl
  obtain ⟨hx, hb, hml, hrt, hlk, hts, hown, hno⟩ := id K
  have hl : lv_has ls 5 [(0, .ref mo), (1, .int (iZ (b : Int)))] := hl
  refine lv_aload_n hx hb d_Mo_say_0 rfl (lv_at hl 0 rfl) ?_
  refine va_get (D := D) (ci := 8) (v := .ref om) (C := R_Mo) (T := F_Mo) (N := 14) hx hb hts i_Mo hown hK hP 0 rfl rfl 3 (by decide) (hts _ (big_in mw_1118 rfl)) (fun _ h9 => h9) rfl d_Mo_say_1 ?_
  refine lv_iload_n hx hb d_Mo_say_4 rfl (lv_at hl 1 rfl) ?_
  refine zz_iald hx hb hK hP 2 0 rfl rfl (b) (by omega) (by omega) (by omega) d_Mo_say_5 ?_
  rw [hW.m hb9]
  refine lv_iconst (v := iZ (1)) hx hb d_Mo_say_6 (by decide +kernel) ?_
  refine zz_isub hx hb d_Mo_say_7 ?_
  refine lv_istore_n (lv' := [(2, .int (iZ ((nd (val b) : Int) - 1))), (0, .ref mo), (1, .int (iZ (b : Int)))]) hx hb d_Mo_say_8 rfl hl (by decide) rfl (fun ls hl => ?_)
  have L9 : ∀ (N : Nat) (q : Nat) (mm : Nat) (pl : Nat) (fg : Nat → Int32) (H : Heap) (locs : List Loc) (ls : Array Slot), q < N → (q ≤ nd (val b)) → (PX fg (li ++ dg mm (val b / 10 ^ (4 * q)))) → (SY (val b) (4 * q) mm) → (pl = li.length + mm) → (mm + 4 * q ≤ 4 * nd (val b)) → va_P D cls0 [(mo, .inr (8, [.int qc, .int (iZ (np : Int)), .ref ow, .ref om, .ref ok_, .ref oK, .ref og, .ref on_, .ref oh, .ref ox, .int qn, .int qf, .ref op_, .int (iZ (pl : Int))])), (ow, .inl (cI, 108000, .inl fw)), (om, .inl (cI, 9, .inl fm)), (op_, .inl (cI, 22000, .inl fg))] H → va_D A [(mo, .inr (8, [.int qc, .int (iZ (np : Int)), .ref ow, .ref om, .ref ok_, .ref oK, .ref og, .ref on_, .ref oh, .ref ox, .int qn, .int qf, .ref op_, .int (iZ (pl : Int))])), (ow, .inl (cI, 108000, .inl fw)), (om, .inl (cI, 9, .inl fm)), (op_, .inl (cI, 22000, .inl fg))] → va_S A s.heap H locs → lv_has ls 5 [(0, .ref mo), (1, .int (iZ (b : Int))), (2, .int (iZ ((q : Int) - 1)))] → W p l e R s m args below meth c H locs 0 0 Q (F0 m 9 ls []) := by
    intro N
    induction N with
    | zero => intro q mm pl fg H locs ls hN; exact absurd hN (Nat.not_lt_zero _)
    | succ N ih =>
      intro q mm pl fg H locs ls hN iq iP iS ipl im hP hD hS hl
      refine lv_iload_n hx hb d_Mo_say_9 rfl (lv_at hl 2 rfl) ?_
      refine zz_if_lt (tgt := 105) hx hb d_Mo_say_10 (by decide) (by omega) (fun c10 => ?_) (fun c10 => ?_)
      · have hlen : (li ++ dg mm (val b)).length = pl := by rw [List.length_append, dg_len]; omega
        rw [show ((pl : Int) : Int) = ((li ++ dg mm (val b)).length : Int) by omega] at hP hD
        have hP9 : va_P D cls0 [(mo, .inr (8, [.int qc, .int (iZ (np : Int)), .ref ow, .ref om, .ref ok_, .ref oK, .ref og, .ref on_, .ref oh, .ref ox, .int qn, .int qf, .ref op_, .int (iZ ((li ++ dg mm (val b)).length : Int))])), (ow, .inl (cI, 108000, .inl fw)), (om, .inl (cI, 9, .inl fm)), (op_, .inl (cI, 22000, .inl fg))] H := hP.sub [0, 1, 2, 3] rfl
        have hD9 : va_D A [(mo, .inr (8, [.int qc, .int (iZ (np : Int)), .ref ow, .ref om, .ref ok_, .ref oK, .ref og, .ref on_, .ref oh, .ref ox, .int qn, .int qf, .ref op_, .int (iZ ((li ++ dg mm (val b)).length : Int))])), (ow, .inl (cI, 108000, .inl fw)), (om, .inl (cI, 9, .inl fm)), (op_, .inl (cI, 22000, .inl fg))] := hD.sub [0, 1, 2, 3] (by decide) rfl
        rw [hQ, ← hAe]
        refine r_v K (fg, mm) hS d_Mo_say_105 ?_ (fun t ht hv => ?_)
        · try dsimp only
          refine ⟨rfl, ?_, ?_⟩
          · rw [show 4 * q = 0 by omega, Nat.pow_zero, Nat.div_one] at iP; exact iP
          · rw [show 4 * q = 0 by omega] at iS; unfold SY at iS; rw [Nat.pow_zero, Nat.div_one] at iS; exact iS
        · exact ⟨by rw [ht]; exact hP9, va_K.moved hv hK, by rw [← hAe]; exact hD9⟩
      · refine lv_aload_n hx hb d_Mo_say_13 rfl (lv_at hl 0 rfl) ?_
        refine va_get (D := D) (ci := 8) (v := .ref ow) (C := R_Mo) (T := F_Mo) (N := 14) hx hb hts i_Mo hown hK hP 0 rfl rfl 2 (by decide) (hts _ (big_in mw_1117 rfl)) (fun _ h9 => h9) rfl d_Mo_say_14 ?_
        refine lv_sipush (v := iZ (12000)) hx hb d_Mo_say_17 (by decide +kernel) ?_
        refine lv_iload_n hx hb d_Mo_say_20 rfl (lv_at hl 1 rfl) ?_
        refine zz_imul hx hb d_Mo_say_21 ?_
        refine lv_iload_n hx hb d_Mo_say_22 rfl (lv_at hl 2 rfl) ?_
        refine zz_iadd hx hb d_Mo_say_23 ?_
        refine zz_iald hx hb hK hP 1 0 rfl rfl (12000 * b + (q - 1)) (by omega) (by omega) (by omega) d_Mo_say_24 ?_
        rw [hW.d hb9 (by omega)]
        refine lv_istore_n (lv' := [(3, .int (iZ (dz (val b) (q - 1) : Int))), (0, .ref mo), (1, .int (iZ (b : Int))), (2, .int (iZ ((q : Int) - 1)))]) hx hb d_Mo_say_25 rfl hl (by decide) rfl (fun ls hl => ?_)
        refine lv_sipush (v := iZ (1000)) hx hb d_Mo_say_26 (by decide +kernel) ?_
        refine lv_istore (lv' := [(4, .int (iZ 1000)), (3, .int (iZ (dz (val b) (q - 1) : Int))), (0, .ref mo), (1, .int (iZ (b : Int))), (2, .int (iZ ((q : Int) - 1)))]) hx hb d_Mo_say_29 hl (by decide) rfl (fun ls hl => ?_)
        have L31 : ∀ (N : Nat) (jj : Nat) (un : Nat) (mm : Nat) (pl : Nat) (fg : Nat → Int32) (H : Heap) (locs : List Loc) (ls : Array Slot), jj < N → ((un = 1000 ∧ jj = 4) ∨ (un = 100 ∧ jj = 3) ∨ (un = 10 ∧ jj = 2) ∨ (un = 1 ∧ jj = 1) ∨ (un = 0 ∧ jj = 0)) → (PX fg (li ++ dg mm (val b / 10 ^ (4 * (q - 1) + jj)))) → (SY (val b) (4 * (q - 1) + jj) mm) → (pl = li.length + mm) → (mm + (4 * (q - 1) + jj) ≤ 4 * nd (val b)) → va_P D cls0 [(mo, .inr (8, [.int qc, .int (iZ (np : Int)), .ref ow, .ref om, .ref ok_, .ref oK, .ref og, .ref on_, .ref oh, .ref ox, .int qn, .int qf, .ref op_, .int (iZ (pl : Int))])), (ow, .inl (cI, 108000, .inl fw)), (om, .inl (cI, 9, .inl fm)), (op_, .inl (cI, 22000, .inl fg))] H → va_D A [(mo, .inr (8, [.int qc, .int (iZ (np : Int)), .ref ow, .ref om, .ref ok_, .ref oK, .ref og, .ref on_, .ref oh, .ref ox, .int qn, .int qf, .ref op_, .int (iZ (pl : Int))])), (ow, .inl (cI, 108000, .inl fw)), (om, .inl (cI, 9, .inl fm)), (op_, .inl (cI, 22000, .inl fg))] → va_S A s.heap H locs → lv_has ls 5 [(0, .ref mo), (1, .int (iZ (b : Int))), (2, .int (iZ ((q : Int) - 1))), (3, .int (iZ (dz (val b) (q - 1) : Int))), (4, .int (iZ (un : Int)))] → W p l e R s m args below meth c H locs 0 0 Q (F0 m 31 ls []) := by
          intro N
          induction N with
          | zero => intro jj un mm pl fg H locs ls hN; exact absurd hN (Nat.not_lt_zero _)
          | succ N ih_L31 =>
            intro jj un mm pl fg H locs ls hN iu iP iS ipl im hP hD hS hl
            refine lv_iload hx hb d_Mo_say_31 (lv_at hl 4 rfl) ?_
            refine zz_if_le (tgt := 99) hx hb d_Mo_say_33 (by decide) (by omega) (fun c33 => ?_) (fun c33 => ?_)
            · refine lv_iinc (v := iZ ((q : Int) - 1 - 1)) (lv' := [(2, .int (iZ ((q : Int) - 1 - 1))), (0, .ref mo), (1, .int (iZ (b : Int))), (3, .int (iZ (dz (val b) (q - 1) : Int))), (4, .int (iZ (un : Int)))]) hx hb d_Mo_say_99 hl (k := 2) rfl (iZ_add _ _) (by decide) rfl (fun ls hl => ?_)
              refine lv_goto (tgt := 9) hx hb d_Mo_say_102 (by decide) ?_
              rw [show ((q : Int) - 1 - 1 : Int) = ((q - 1 : Nat) : Int) - 1 by omega] at hl
              exact ih (q - 1) mm pl fg _ _ _ (by omega) (by omega) (by rw [show 4 * (q - 1) + jj = 4 * (q - 1) by omega] at iP; exact iP) (by rw [show 4 * (q - 1) + jj = 4 * (q - 1) by omega] at iS; exact iS) ipl (by omega) (hP.sub (ws' := [(mo, .inr (8, [.int qc, .int (iZ (np : Int)), .ref ow, .ref om, .ref ok_, .ref oK, .ref og, .ref on_, .ref oh, .ref ox, .int qn, .int qf, .ref op_, .int (iZ (pl : Int))])), (ow, .inl (cI, 108000, .inl fw)), (om, .inl (cI, 9, .inl fm)), (op_, .inl (cI, 22000, .inl fg))]) [0, 1, 2, 3] rfl) (hD.sub (ws' := [(mo, .inr (8, [.int qc, .int (iZ (np : Int)), .ref ow, .ref om, .ref ok_, .ref oK, .ref og, .ref on_, .ref oh, .ref ox, .int qn, .int qf, .ref op_, .int (iZ (pl : Int))])), (ow, .inl (cI, 108000, .inl fw)), (om, .inl (cI, 9, .inl fm)), (op_, .inl (cI, 22000, .inl fg))]) [0, 1, 2, 3] (by decide) rfl) hS (lv_sub hl [1, 2, 0] rfl)
            · have fb := dz_lt (val b) (q - 1)
              have jp : 0 < jj := by omega
              have ej := say_d (v := val b) (q := q - 1) (j := jj - 1) (by omega)
              have ep : un = 10 ^ (jj - 1) := by rcases iu with z | z | z | z | z <;> rw [z.1, z.2] <;> first | rfl | (exfalso; omega)
              refine lv_iload_n hx hb d_Mo_say_36 rfl (lv_at hl 2 rfl) ?_
              refine lv_aload_n hx hb d_Mo_say_37 rfl (lv_at hl 0 rfl) ?_
              refine va_get (D := D) (ci := 8) (v := .ref om) (C := R_Mo) (T := F_Mo) (N := 14) hx hb hts i_Mo hown hK hP 0 rfl rfl 3 (by decide) (hts _ (big_in mw_1118 rfl)) (fun _ h9 => h9) rfl d_Mo_say_38 ?_
              refine lv_iload_n hx hb d_Mo_say_41 rfl (lv_at hl 1 rfl) ?_
              refine zz_iald hx hb hK hP 2 0 rfl rfl (b) (by omega) (by omega) (by omega) d_Mo_say_42 ?_
              rw [hW.m hb9]
              refine lv_iconst (v := iZ (1)) hx hb d_Mo_say_43 (by decide +kernel) ?_
              refine zz_isub hx hb d_Mo_say_44 ?_
              refine zz_icmp_lt (tgt := 60) hx hb d_Mo_say_45 (by decide) (by omega) (by omega) (fun c45 => ?_) (fun c45 => ?_)
              · have hpo : 0 < val b / 10 ^ (4 * (q - 1) + (jj - 1)) := by
                  rcases Nat.lt_or_ge q (nd (val b)) with z | z
                  · exact say_low (by omega) (by omega)
                  · rw [say_top (by omega), ← ep]
                    have ht := dz_top (v := val b) (by omega)
                    rw [show nd (val b) - 1 = q - 1 by omega] at ht
                    exact Nat.div_pos (by omega) (by omega)
                refine lv_aload_n hx hb d_Mo_say_60 rfl (lv_at hl 0 rfl) ?_
                refine va_get (D := D) (ci := 8) (v := .ref op_) (C := R_Mo) (T := F_Mo) (N := 14) hx hb hts i_Mo hown hK hP 0 rfl rfl 12 (by decide) (hts _ (big_in mw_1127 rfl)) (fun _ h9 => h9) rfl d_Mo_say_61 ?_
                refine lv_aload_n hx hb d_Mo_say_64 rfl (lv_at hl 0 rfl) ?_
                refine va_get (D := D) (ci := 8) (v := .int (iZ (pl : Int))) (C := R_Mo) (T := F_Mo) (N := 14) hx hb hts i_Mo hown hK hP 0 rfl rfl 13 (by decide) (hts _ (big_in mw_1128 rfl)) (fun _ h9 => h9) rfl d_Mo_say_65 ?_
                refine lv_bipush (v := iZ (48)) hx hb d_Mo_say_68 (by decide +kernel) ?_
                refine lv_iload_n hx hb d_Mo_say_70 rfl (lv_at hl 3 rfl) ?_
                refine lv_iload hx hb d_Mo_say_71 (lv_at hl 4 rfl) ?_
                refine zz_idiv hx hb d_Mo_say_73 (by omega) (by omega) ?_
                obtain ⟨dq, hdq⟩ : ∃ x : Nat, x = dz (val b) (q - 1) / un := ⟨_, rfl⟩
                rw [show ((dz (val b) (q - 1) : Int) / (un : Int) : Int) = (dq : Int) by rw [hdq]; simp]
                have bdq : dq ≤ dz (val b) (q - 1) := by rw [hdq]; exact Nat.div_le_self _ _
                refine lv_bipush (v := iZ (10)) hx hb d_Mo_say_74 (by decide +kernel) ?_
                refine zz_irem hx hb d_Mo_say_76 (by omega) (by omega) ?_
                obtain ⟨dd, hdd⟩ : ∃ x : Nat, x = val b / 10 ^ (4 * (q - 1) + (jj - 1)) % 10 := ⟨_, rfl⟩
                rw [show ((dq : Int) % 10 : Int) = (dd : Int) by rw [hdd, ← ej, ← ep, ← hdq]; simp]
                have bdd : dd < 10 := by rw [hdd]; exact Nat.mod_lt _ (by decide)
                refine zz_iadd hx hb d_Mo_say_77 ?_
                refine zz_iast hx hb hK hP hD hS 3 0 rfl rfl (pl) (by omega) (by omega) (by omega) d_Mo_say_78 (fun H locs hP hD hS => ?_)
                have hP : va_P D cls0 [(mo, .inr (8, [.int qc, .int (iZ (np : Int)), .ref ow, .ref om, .ref ok_, .ref oK, .ref og, .ref on_, .ref oh, .ref ox, .int qn, .int qf, .ref op_, .int (iZ (pl : Int))])), (ow, .inl (cI, 108000, .inl fw)), (om, .inl (cI, 9, .inl fm)), (op_, .inl (cI, 22000, .inl (upd fg pl (iZ (48 + (dd : Int))))))] H := hP
                have hD : va_D A [(mo, .inr (8, [.int qc, .int (iZ (np : Int)), .ref ow, .ref om, .ref ok_, .ref oK, .ref og, .ref on_, .ref oh, .ref ox, .int qn, .int qf, .ref op_, .int (iZ (pl : Int))])), (ow, .inl (cI, 108000, .inl fw)), (om, .inl (cI, 9, .inl fm)), (op_, .inl (cI, 22000, .inl (upd fg pl (iZ (48 + (dd : Int))))))] := hD
                refine lv_aload_n hx hb d_Mo_say_79 rfl (lv_at hl 0 rfl) ?_
                refine lv_dup hx hb d_Mo_say_80 rfl ?_
                refine va_get (D := D) (ci := 8) (v := .int (iZ (pl : Int))) (C := R_Mo) (T := F_Mo) (N := 14) hx hb hts i_Mo hown hK hP 0 rfl rfl 13 (by decide) (hts _ (big_in mw_1128 rfl)) (fun _ h9 => h9) rfl d_Mo_say_81 ?_
                refine lv_iconst (v := iZ (1)) hx hb d_Mo_say_84 (by decide +kernel) ?_
                refine zz_iadd hx hb d_Mo_say_85 ?_
                refine va_put (D := D) (ci := 8) (v := .int (iZ ((pl : Int) + 1))) (ty := .int) (C := R_Mo) (T := F_Mo) (N := 14) hx hb hts i_Mo t_Mo t_Mo_ok n_Mo hown hK hP hD hS 0 rfl rfl 13 (by decide) (hts _ (big_in mw_1128 rfl)) (fun _ h9 => h9) rfl (by decide +kernel) rfl rfl (Nat.le_of_ble_eq_true rfl) d_Mo_say_86 (fun H locs hP hD hS => ?_)
                have hP : va_P D cls0 [(mo, .inr (8, [.int qc, .int (iZ (np : Int)), .ref ow, .ref om, .ref ok_, .ref oK, .ref og, .ref on_, .ref oh, .ref ox, .int qn, .int qf, .ref op_, .int (iZ ((pl : Int) + 1))])), (ow, .inl (cI, 108000, .inl fw)), (om, .inl (cI, 9, .inl fm)), (op_, .inl (cI, 22000, .inl (upd fg pl (iZ (48 + (dd : Int))))))] H := hP
                have hD : va_D A [(mo, .inr (8, [.int qc, .int (iZ (np : Int)), .ref ow, .ref om, .ref ok_, .ref oK, .ref og, .ref on_, .ref oh, .ref ox, .int qn, .int qf, .ref op_, .int (iZ ((pl : Int) + 1))])), (ow, .inl (cI, 108000, .inl fw)), (om, .inl (cI, 9, .inl fm)), (op_, .inl (cI, 22000, .inl (upd fg pl (iZ (48 + (dd : Int))))))] := hD
                refine lv_iload hx hb d_Mo_say_89 (lv_at hl 4 rfl) ?_
                refine lv_bipush (v := iZ (10)) hx hb d_Mo_say_91 (by decide +kernel) ?_
                refine zz_idiv hx hb d_Mo_say_93 (by omega) (by omega) ?_
                refine lv_istore (lv' := [(4, .int (iZ ((un : Int) / 10))), (0, .ref mo), (1, .int (iZ (b : Int))), (2, .int (iZ ((q : Int) - 1))), (3, .int (iZ (dz (val b) (q - 1) : Int)))]) hx hb d_Mo_say_94 hl (by decide) rfl (fun ls hl => ?_)
                refine lv_goto (tgt := 31) hx hb d_Mo_say_96 (by decide) ?_
                rw [show ((pl : Int) + 1 : Int) = ((pl + 1 : Nat) : Int) by omega] at hP hD
                rw [show ((un : Int) / 10 : Int) = ((un / 10 : Nat) : Int) by omega] at hl
                exact ih_L31 (jj - 1) (un / 10) (mm + 1) (pl + 1) (upd fg pl (iZ (48 + (dd : Int)))) _ _ _ (by omega) (by omega) (by rw [show 4 * (q - 1) + jj = 4 * (q - 1) + (jj - 1) + 1 by omega] at iP; rw [dg_next, ← List.append_assoc]; have z := iP.put (ch := 48 + val b / 10 ^ (4 * (q - 1) + (jj - 1)) % 10) (x := iZ (48 + (dd : Int))) (by congr 1; omega); rw [List.length_append, dg_len, ← ipl] at z; exact z) (by rw [show 4 * (q - 1) + jj = 4 * (q - 1) + (jj - 1) + 1 by omega] at iS; exact iS.print hpo) (by omega) (by omega) (hP.sub (ws' := [(mo, .inr (8, [.int qc, .int (iZ (np : Int)), .ref ow, .ref om, .ref ok_, .ref oK, .ref og, .ref on_, .ref oh, .ref ox, .int qn, .int qf, .ref op_, .int (iZ ((pl + 1 : Nat) : Int))])), (ow, .inl (cI, 108000, .inl fw)), (om, .inl (cI, 9, .inl fm)), (op_, .inl (cI, 22000, .inl (upd fg pl (iZ (48 + (dd : Int))))))]) [0, 1, 2, 3] rfl) (hD.sub (ws' := [(mo, .inr (8, [.int qc, .int (iZ (np : Int)), .ref ow, .ref om, .ref ok_, .ref oK, .ref og, .ref on_, .ref oh, .ref ox, .int qn, .int qf, .ref op_, .int (iZ ((pl + 1 : Nat) : Int))])), (ow, .inl (cI, 108000, .inl fw)), (om, .inl (cI, 9, .inl fm)), (op_, .inl (cI, 22000, .inl (upd fg pl (iZ (48 + (dd : Int))))))]) [0, 1, 2, 3] (by decide) rfl) hS (lv_sub hl [1, 2, 3, 4, 0] rfl)
              · refine lv_iload_n hx hb d_Mo_say_48 rfl (lv_at hl 3 rfl) ?_
                refine lv_iload hx hb d_Mo_say_49 (lv_at hl 4 rfl) ?_
                refine zz_icmp_ge (tgt := 60) hx hb d_Mo_say_51 (by decide) (by omega) (by omega) (fun c51 => ?_) (fun c51 => ?_)
                · have hpo : 0 < val b / 10 ^ (4 * (q - 1) + (jj - 1)) := by
                    rcases Nat.lt_or_ge q (nd (val b)) with z | z
                    · exact say_low (by omega) (by omega)
                    · rw [say_top (by omega), ← ep]
                      have ht := dz_top (v := val b) (by omega)
                      rw [show nd (val b) - 1 = q - 1 by omega] at ht
                      exact Nat.div_pos (by omega) (by omega)
                  refine lv_aload_n hx hb d_Mo_say_60 rfl (lv_at hl 0 rfl) ?_
                  refine va_get (D := D) (ci := 8) (v := .ref op_) (C := R_Mo) (T := F_Mo) (N := 14) hx hb hts i_Mo hown hK hP 0 rfl rfl 12 (by decide) (hts _ (big_in mw_1127 rfl)) (fun _ h9 => h9) rfl d_Mo_say_61 ?_
                  refine lv_aload_n hx hb d_Mo_say_64 rfl (lv_at hl 0 rfl) ?_
                  refine va_get (D := D) (ci := 8) (v := .int (iZ (pl : Int))) (C := R_Mo) (T := F_Mo) (N := 14) hx hb hts i_Mo hown hK hP 0 rfl rfl 13 (by decide) (hts _ (big_in mw_1128 rfl)) (fun _ h9 => h9) rfl d_Mo_say_65 ?_
                  refine lv_bipush (v := iZ (48)) hx hb d_Mo_say_68 (by decide +kernel) ?_
                  refine lv_iload_n hx hb d_Mo_say_70 rfl (lv_at hl 3 rfl) ?_
                  refine lv_iload hx hb d_Mo_say_71 (lv_at hl 4 rfl) ?_
                  refine zz_idiv hx hb d_Mo_say_73 (by omega) (by omega) ?_
                  obtain ⟨dq, hdq⟩ : ∃ x : Nat, x = dz (val b) (q - 1) / un := ⟨_, rfl⟩
                  rw [show ((dz (val b) (q - 1) : Int) / (un : Int) : Int) = (dq : Int) by rw [hdq]; simp]
                  have bdq : dq ≤ dz (val b) (q - 1) := by rw [hdq]; exact Nat.div_le_self _ _
                  refine lv_bipush (v := iZ (10)) hx hb d_Mo_say_74 (by decide +kernel) ?_
                  refine zz_irem hx hb d_Mo_say_76 (by omega) (by omega) ?_
                  obtain ⟨dd, hdd⟩ : ∃ x : Nat, x = val b / 10 ^ (4 * (q - 1) + (jj - 1)) % 10 := ⟨_, rfl⟩
                  rw [show ((dq : Int) % 10 : Int) = (dd : Int) by rw [hdd, ← ej, ← ep, ← hdq]; simp]
                  have bdd : dd < 10 := by rw [hdd]; exact Nat.mod_lt _ (by decide)
                  refine zz_iadd hx hb d_Mo_say_77 ?_
                  refine zz_iast hx hb hK hP hD hS 3 0 rfl rfl (pl) (by omega) (by omega) (by omega) d_Mo_say_78 (fun H locs hP hD hS => ?_)
                  have hP : va_P D cls0 [(mo, .inr (8, [.int qc, .int (iZ (np : Int)), .ref ow, .ref om, .ref ok_, .ref oK, .ref og, .ref on_, .ref oh, .ref ox, .int qn, .int qf, .ref op_, .int (iZ (pl : Int))])), (ow, .inl (cI, 108000, .inl fw)), (om, .inl (cI, 9, .inl fm)), (op_, .inl (cI, 22000, .inl (upd fg pl (iZ (48 + (dd : Int))))))] H := hP
                  have hD : va_D A [(mo, .inr (8, [.int qc, .int (iZ (np : Int)), .ref ow, .ref om, .ref ok_, .ref oK, .ref og, .ref on_, .ref oh, .ref ox, .int qn, .int qf, .ref op_, .int (iZ (pl : Int))])), (ow, .inl (cI, 108000, .inl fw)), (om, .inl (cI, 9, .inl fm)), (op_, .inl (cI, 22000, .inl (upd fg pl (iZ (48 + (dd : Int))))))] := hD
                  refine lv_aload_n hx hb d_Mo_say_79 rfl (lv_at hl 0 rfl) ?_
                  refine lv_dup hx hb d_Mo_say_80 rfl ?_
                  refine va_get (D := D) (ci := 8) (v := .int (iZ (pl : Int))) (C := R_Mo) (T := F_Mo) (N := 14) hx hb hts i_Mo hown hK hP 0 rfl rfl 13 (by decide) (hts _ (big_in mw_1128 rfl)) (fun _ h9 => h9) rfl d_Mo_say_81 ?_
                  refine lv_iconst (v := iZ (1)) hx hb d_Mo_say_84 (by decide +kernel) ?_
                  refine zz_iadd hx hb d_Mo_say_85 ?_
                  refine va_put (D := D) (ci := 8) (v := .int (iZ ((pl : Int) + 1))) (ty := .int) (C := R_Mo) (T := F_Mo) (N := 14) hx hb hts i_Mo t_Mo t_Mo_ok n_Mo hown hK hP hD hS 0 rfl rfl 13 (by decide) (hts _ (big_in mw_1128 rfl)) (fun _ h9 => h9) rfl (by decide +kernel) rfl rfl (Nat.le_of_ble_eq_true rfl) d_Mo_say_86 (fun H locs hP hD hS => ?_)
                  have hP : va_P D cls0 [(mo, .inr (8, [.int qc, .int (iZ (np : Int)), .ref ow, .ref om, .ref ok_, .ref oK, .ref og, .ref on_, .ref oh, .ref ox, .int qn, .int qf, .ref op_, .int (iZ ((pl : Int) + 1))])), (ow, .inl (cI, 108000, .inl fw)), (om, .inl (cI, 9, .inl fm)), (op_, .inl (cI, 22000, .inl (upd fg pl (iZ (48 + (dd : Int))))))] H := hP
                  have hD : va_D A [(mo, .inr (8, [.int qc, .int (iZ (np : Int)), .ref ow, .ref om, .ref ok_, .ref oK, .ref og, .ref on_, .ref oh, .ref ox, .int qn, .int qf, .ref op_, .int (iZ ((pl : Int) + 1))])), (ow, .inl (cI, 108000, .inl fw)), (om, .inl (cI, 9, .inl fm)), (op_, .inl (cI, 22000, .inl (upd fg pl (iZ (48 + (dd : Int))))))] := hD
                  refine lv_iload hx hb d_Mo_say_89 (lv_at hl 4 rfl) ?_
                  refine lv_bipush (v := iZ (10)) hx hb d_Mo_say_91 (by decide +kernel) ?_
                  refine zz_idiv hx hb d_Mo_say_93 (by omega) (by omega) ?_
                  refine lv_istore (lv' := [(4, .int (iZ ((un : Int) / 10))), (0, .ref mo), (1, .int (iZ (b : Int))), (2, .int (iZ ((q : Int) - 1))), (3, .int (iZ (dz (val b) (q - 1) : Int)))]) hx hb d_Mo_say_94 hl (by decide) rfl (fun ls hl => ?_)
                  refine lv_goto (tgt := 31) hx hb d_Mo_say_96 (by decide) ?_
                  rw [show ((pl : Int) + 1 : Int) = ((pl + 1 : Nat) : Int) by omega] at hP hD
                  rw [show ((un : Int) / 10 : Int) = ((un / 10 : Nat) : Int) by omega] at hl
                  exact ih_L31 (jj - 1) (un / 10) (mm + 1) (pl + 1) (upd fg pl (iZ (48 + (dd : Int)))) _ _ _ (by omega) (by omega) (by rw [show 4 * (q - 1) + jj = 4 * (q - 1) + (jj - 1) + 1 by omega] at iP; rw [dg_next, ← List.append_assoc]; have z := iP.put (ch := 48 + val b / 10 ^ (4 * (q - 1) + (jj - 1)) % 10) (x := iZ (48 + (dd : Int))) (by congr 1; omega); rw [List.length_append, dg_len, ← ipl] at z; exact z) (by rw [show 4 * (q - 1) + jj = 4 * (q - 1) + (jj - 1) + 1 by omega] at iS; exact iS.print hpo) (by omega) (by omega) (hP.sub (ws' := [(mo, .inr (8, [.int qc, .int (iZ (np : Int)), .ref ow, .ref om, .ref ok_, .ref oK, .ref og, .ref on_, .ref oh, .ref ox, .int qn, .int qf, .ref op_, .int (iZ ((pl + 1 : Nat) : Int))])), (ow, .inl (cI, 108000, .inl fw)), (om, .inl (cI, 9, .inl fm)), (op_, .inl (cI, 22000, .inl (upd fg pl (iZ (48 + (dd : Int))))))]) [0, 1, 2, 3] rfl) (hD.sub (ws' := [(mo, .inr (8, [.int qc, .int (iZ (np : Int)), .ref ow, .ref om, .ref ok_, .ref oK, .ref og, .ref on_, .ref oh, .ref ox, .int qn, .int qf, .ref op_, .int (iZ ((pl + 1 : Nat) : Int))])), (ow, .inl (cI, 108000, .inl fw)), (om, .inl (cI, 9, .inl fm)), (op_, .inl (cI, 22000, .inl (upd fg pl (iZ (48 + (dd : Int))))))]) [0, 1, 2, 3] (by decide) rfl) hS (lv_sub hl [1, 2, 3, 4, 0] rfl)
                · refine lv_iload hx hb d_Mo_say_54 (lv_at hl 4 rfl) ?_
                  refine lv_iconst (v := iZ (1)) hx hb d_Mo_say_56 (by decide +kernel) ?_
                  refine zz_icmp_ne (tgt := 89) hx hb d_Mo_say_57 (by decide) (by omega) (by omega) (fun c57 => ?_) (fun c57 => ?_)
                  · have hno : val b / 10 ^ (4 * (q - 1) + (jj - 1)) = 0 := by rw [say_top (by omega), ← ep]; exact Nat.div_eq_of_lt (by omega)
                    refine lv_iload hx hb d_Mo_say_89 (lv_at hl 4 rfl) ?_
                    refine lv_bipush (v := iZ (10)) hx hb d_Mo_say_91 (by decide +kernel) ?_
                    refine zz_idiv hx hb d_Mo_say_93 (by omega) (by omega) ?_
                    refine lv_istore (lv' := [(4, .int (iZ ((un : Int) / 10))), (0, .ref mo), (1, .int (iZ (b : Int))), (2, .int (iZ ((q : Int) - 1))), (3, .int (iZ (dz (val b) (q - 1) : Int)))]) hx hb d_Mo_say_94 hl (by decide) rfl (fun ls hl => ?_)
                    refine lv_goto (tgt := 31) hx hb d_Mo_say_96 (by decide) ?_
                    rw [show ((un : Int) / 10 : Int) = ((un / 10 : Nat) : Int) by omega] at hl
                    exact ih_L31 (jj - 1) (un / 10) mm pl fg _ _ _ (by omega) (by omega) (by have m0 : mm = 0 := SY.none (by rw [show 4 * (q - 1) + jj = 4 * (q - 1) + (jj - 1) + 1 by omega] at iS; exact iS) hno; rw [m0] at iP ⊢; exact iP) (by rw [show 4 * (q - 1) + jj = 4 * (q - 1) + (jj - 1) + 1 by omega] at iS; exact iS.skip hno) (by omega) (by omega) (hP.sub (ws' := [(mo, .inr (8, [.int qc, .int (iZ (np : Int)), .ref ow, .ref om, .ref ok_, .ref oK, .ref og, .ref on_, .ref oh, .ref ox, .int qn, .int qf, .ref op_, .int (iZ (pl : Int))])), (ow, .inl (cI, 108000, .inl fw)), (om, .inl (cI, 9, .inl fm)), (op_, .inl (cI, 22000, .inl fg))]) [0, 1, 2, 3] rfl) (hD.sub (ws' := [(mo, .inr (8, [.int qc, .int (iZ (np : Int)), .ref ow, .ref om, .ref ok_, .ref oK, .ref og, .ref on_, .ref oh, .ref ox, .int qn, .int qf, .ref op_, .int (iZ (pl : Int))])), (ow, .inl (cI, 108000, .inl fw)), (om, .inl (cI, 9, .inl fm)), (op_, .inl (cI, 22000, .inl fg))]) [0, 1, 2, 3] (by decide) rfl) hS (lv_sub hl [1, 2, 3, 4, 0] rfl)
                  · have hpo : 0 < val b / 10 ^ (4 * (q - 1) + (jj - 1)) := by
                      rcases Nat.lt_or_ge q (nd (val b)) with z | z
                      · exact say_low (by omega) (by omega)
                      · rw [say_top (by omega), ← ep]
                        have ht := dz_top (v := val b) (by omega)
                        rw [show nd (val b) - 1 = q - 1 by omega] at ht
                        exact Nat.div_pos (by omega) (by omega)
                    refine lv_aload_n hx hb d_Mo_say_60 rfl (lv_at hl 0 rfl) ?_
                    refine va_get (D := D) (ci := 8) (v := .ref op_) (C := R_Mo) (T := F_Mo) (N := 14) hx hb hts i_Mo hown hK hP 0 rfl rfl 12 (by decide) (hts _ (big_in mw_1127 rfl)) (fun _ h9 => h9) rfl d_Mo_say_61 ?_
                    refine lv_aload_n hx hb d_Mo_say_64 rfl (lv_at hl 0 rfl) ?_
                    refine va_get (D := D) (ci := 8) (v := .int (iZ (pl : Int))) (C := R_Mo) (T := F_Mo) (N := 14) hx hb hts i_Mo hown hK hP 0 rfl rfl 13 (by decide) (hts _ (big_in mw_1128 rfl)) (fun _ h9 => h9) rfl d_Mo_say_65 ?_
                    refine lv_bipush (v := iZ (48)) hx hb d_Mo_say_68 (by decide +kernel) ?_
                    refine lv_iload_n hx hb d_Mo_say_70 rfl (lv_at hl 3 rfl) ?_
                    refine lv_iload hx hb d_Mo_say_71 (lv_at hl 4 rfl) ?_
                    refine zz_idiv hx hb d_Mo_say_73 (by omega) (by omega) ?_
                    obtain ⟨dq, hdq⟩ : ∃ x : Nat, x = dz (val b) (q - 1) / un := ⟨_, rfl⟩
                    rw [show ((dz (val b) (q - 1) : Int) / (un : Int) : Int) = (dq : Int) by rw [hdq]; simp]
                    have bdq : dq ≤ dz (val b) (q - 1) := by rw [hdq]; exact Nat.div_le_self _ _
                    refine lv_bipush (v := iZ (10)) hx hb d_Mo_say_74 (by decide +kernel) ?_
                    refine zz_irem hx hb d_Mo_say_76 (by omega) (by omega) ?_
                    obtain ⟨dd, hdd⟩ : ∃ x : Nat, x = val b / 10 ^ (4 * (q - 1) + (jj - 1)) % 10 := ⟨_, rfl⟩
                    rw [show ((dq : Int) % 10 : Int) = (dd : Int) by rw [hdd, ← ej, ← ep, ← hdq]; simp]
                    have bdd : dd < 10 := by rw [hdd]; exact Nat.mod_lt _ (by decide)
                    refine zz_iadd hx hb d_Mo_say_77 ?_
                    refine zz_iast hx hb hK hP hD hS 3 0 rfl rfl (pl) (by omega) (by omega) (by omega) d_Mo_say_78 (fun H locs hP hD hS => ?_)
                    have hP : va_P D cls0 [(mo, .inr (8, [.int qc, .int (iZ (np : Int)), .ref ow, .ref om, .ref ok_, .ref oK, .ref og, .ref on_, .ref oh, .ref ox, .int qn, .int qf, .ref op_, .int (iZ (pl : Int))])), (ow, .inl (cI, 108000, .inl fw)), (om, .inl (cI, 9, .inl fm)), (op_, .inl (cI, 22000, .inl (upd fg pl (iZ (48 + (dd : Int))))))] H := hP
                    have hD : va_D A [(mo, .inr (8, [.int qc, .int (iZ (np : Int)), .ref ow, .ref om, .ref ok_, .ref oK, .ref og, .ref on_, .ref oh, .ref ox, .int qn, .int qf, .ref op_, .int (iZ (pl : Int))])), (ow, .inl (cI, 108000, .inl fw)), (om, .inl (cI, 9, .inl fm)), (op_, .inl (cI, 22000, .inl (upd fg pl (iZ (48 + (dd : Int))))))] := hD
                    refine lv_aload_n hx hb d_Mo_say_79 rfl (lv_at hl 0 rfl) ?_
                    refine lv_dup hx hb d_Mo_say_80 rfl ?_
                    refine va_get (D := D) (ci := 8) (v := .int (iZ (pl : Int))) (C := R_Mo) (T := F_Mo) (N := 14) hx hb hts i_Mo hown hK hP 0 rfl rfl 13 (by decide) (hts _ (big_in mw_1128 rfl)) (fun _ h9 => h9) rfl d_Mo_say_81 ?_
                    refine lv_iconst (v := iZ (1)) hx hb d_Mo_say_84 (by decide +kernel) ?_
                    refine zz_iadd hx hb d_Mo_say_85 ?_
                    refine va_put (D := D) (ci := 8) (v := .int (iZ ((pl : Int) + 1))) (ty := .int) (C := R_Mo) (T := F_Mo) (N := 14) hx hb hts i_Mo t_Mo t_Mo_ok n_Mo hown hK hP hD hS 0 rfl rfl 13 (by decide) (hts _ (big_in mw_1128 rfl)) (fun _ h9 => h9) rfl (by decide +kernel) rfl rfl (Nat.le_of_ble_eq_true rfl) d_Mo_say_86 (fun H locs hP hD hS => ?_)
                    have hP : va_P D cls0 [(mo, .inr (8, [.int qc, .int (iZ (np : Int)), .ref ow, .ref om, .ref ok_, .ref oK, .ref og, .ref on_, .ref oh, .ref ox, .int qn, .int qf, .ref op_, .int (iZ ((pl : Int) + 1))])), (ow, .inl (cI, 108000, .inl fw)), (om, .inl (cI, 9, .inl fm)), (op_, .inl (cI, 22000, .inl (upd fg pl (iZ (48 + (dd : Int))))))] H := hP
                    have hD : va_D A [(mo, .inr (8, [.int qc, .int (iZ (np : Int)), .ref ow, .ref om, .ref ok_, .ref oK, .ref og, .ref on_, .ref oh, .ref ox, .int qn, .int qf, .ref op_, .int (iZ ((pl : Int) + 1))])), (ow, .inl (cI, 108000, .inl fw)), (om, .inl (cI, 9, .inl fm)), (op_, .inl (cI, 22000, .inl (upd fg pl (iZ (48 + (dd : Int))))))] := hD
                    refine lv_iload hx hb d_Mo_say_89 (lv_at hl 4 rfl) ?_
                    refine lv_bipush (v := iZ (10)) hx hb d_Mo_say_91 (by decide +kernel) ?_
                    refine zz_idiv hx hb d_Mo_say_93 (by omega) (by omega) ?_
                    refine lv_istore (lv' := [(4, .int (iZ ((un : Int) / 10))), (0, .ref mo), (1, .int (iZ (b : Int))), (2, .int (iZ ((q : Int) - 1))), (3, .int (iZ (dz (val b) (q - 1) : Int)))]) hx hb d_Mo_say_94 hl (by decide) rfl (fun ls hl => ?_)
                    refine lv_goto (tgt := 31) hx hb d_Mo_say_96 (by decide) ?_
                    rw [show ((pl : Int) + 1 : Int) = ((pl + 1 : Nat) : Int) by omega] at hP hD
                    rw [show ((un : Int) / 10 : Int) = ((un / 10 : Nat) : Int) by omega] at hl
                    exact ih_L31 (jj - 1) (un / 10) (mm + 1) (pl + 1) (upd fg pl (iZ (48 + (dd : Int)))) _ _ _ (by omega) (by omega) (by rw [show 4 * (q - 1) + jj = 4 * (q - 1) + (jj - 1) + 1 by omega] at iP; rw [dg_next, ← List.append_assoc]; have z := iP.put (ch := 48 + val b / 10 ^ (4 * (q - 1) + (jj - 1)) % 10) (x := iZ (48 + (dd : Int))) (by congr 1; omega); rw [List.length_append, dg_len, ← ipl] at z; exact z) (by rw [show 4 * (q - 1) + jj = 4 * (q - 1) + (jj - 1) + 1 by omega] at iS; exact iS.print hpo) (by omega) (by omega) (hP.sub (ws' := [(mo, .inr (8, [.int qc, .int (iZ (np : Int)), .ref ow, .ref om, .ref ok_, .ref oK, .ref og, .ref on_, .ref oh, .ref ox, .int qn, .int qf, .ref op_, .int (iZ ((pl + 1 : Nat) : Int))])), (ow, .inl (cI, 108000, .inl fw)), (om, .inl (cI, 9, .inl fm)), (op_, .inl (cI, 22000, .inl (upd fg pl (iZ (48 + (dd : Int))))))]) [0, 1, 2, 3] rfl) (hD.sub (ws' := [(mo, .inr (8, [.int qc, .int (iZ (np : Int)), .ref ow, .ref om, .ref ok_, .ref oK, .ref og, .ref on_, .ref oh, .ref ox, .int qn, .int qf, .ref op_, .int (iZ ((pl + 1 : Nat) : Int))])), (ow, .inl (cI, 108000, .inl fw)), (om, .inl (cI, 9, .inl fm)), (op_, .inl (cI, 22000, .inl (upd fg pl (iZ (48 + (dd : Int))))))]) [0, 1, 2, 3] (by decide) rfl) hS (lv_sub hl [1, 2, 3, 4, 0] rfl)
        exact L31 _ 4 1000 mm pl fg _ _ _ (Nat.lt_succ_self _) (by omega) (by rw [show 4 * (q - 1) + 4 = 4 * q by omega]; exact iP) (by rw [show 4 * (q - 1) + 4 = 4 * q by omega]; exact iS) ipl (by omega) (hP.sub (ws' := [(mo, .inr (8, [.int qc, .int (iZ (np : Int)), .ref ow, .ref om, .ref ok_, .ref oK, .ref og, .ref on_, .ref oh, .ref ox, .int qn, .int qf, .ref op_, .int (iZ (pl : Int))])), (ow, .inl (cI, 108000, .inl fw)), (om, .inl (cI, 9, .inl fm)), (op_, .inl (cI, 22000, .inl fg))]) [0, 1, 2, 3] rfl) (hD.sub (ws' := [(mo, .inr (8, [.int qc, .int (iZ (np : Int)), .ref ow, .ref om, .ref ok_, .ref oK, .ref og, .ref on_, .ref oh, .ref ox, .int qn, .int qf, .ref op_, .int (iZ (pl : Int))])), (ow, .inl (cI, 108000, .inl fw)), (om, .inl (cI, 9, .inl fm)), (op_, .inl (cI, 22000, .inl fg))]) [0, 1, 2, 3] (by decide) rfl) hS (lv_sub hl [2, 3, 4, 1, 0] rfl)
  rw [show ((li.length : Int) : Int) = ((li.length : Nat) : Int) by omega] at hP hD
  rw [show ((nd (val b) : Int) - 1 : Int) = ((nd (val b) : Nat) : Int) - 1 by omega] at hl
  exact L9 _ (nd (val b)) 0 li.length fq _ _ _ (Nat.lt_succ_self _) (Nat.le_refl _) (by show PX fq (li ++ []); rw [List.append_nil]; exact hPX) (Or.inl ⟨Nat.div_eq_of_lt (by rw [← tB_ten]; exact nd_self _), rfl⟩) (by omega) (by omega) (hP.sub (ws' := [(mo, .inr (8, [.int qc, .int (iZ (np : Int)), .ref ow, .ref om, .ref ok_, .ref oK, .ref og, .ref on_, .ref oh, .ref ox, .int qn, .int qf, .ref op_, .int (iZ ((li.length : Nat) : Int))])), (ow, .inl (cI, 108000, .inl fw)), (om, .inl (cI, 9, .inl fm)), (op_, .inl (cI, 22000, .inl fq))]) [0, 1, 2, 3] rfl) (hD.sub (ws' := [(mo, .inr (8, [.int qc, .int (iZ (np : Int)), .ref ow, .ref om, .ref ok_, .ref oK, .ref og, .ref on_, .ref oh, .ref ox, .int qn, .int qf, .ref op_, .int (iZ ((li.length : Nat) : Int))])), (ow, .inl (cI, 108000, .inl fw)), (om, .inl (cI, 9, .inl fm)), (op_, .inl (cI, 22000, .inl fq))]) [0, 1, 2, 3] (by decide) rfl) hS (lv_sub hl [1, 2, 0] rfl)
