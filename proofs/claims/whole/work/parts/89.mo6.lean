def ovh (fw : Nat → Int32) (t lo hi Q : Nat) : Nat → Int32 := fun j => if 12000 * t + lo ≤ j ∧ j < 12000 * t + hi then iZ (dz Q (j - 12000 * t) : Int) else fw j
theorem ovh_out {fw : Nat → Int32} {t lo hi Q j : Nat} (h : j < 12000 * t + lo ∨ 12000 * t + hi ≤ j) : ovh fw t lo hi Q j = fw j := if_neg (by omega)
theorem ovh_e (fw : Nat → Int32) (t e Q : Nat) : ovh fw t e e Q = fw := by funext j; exact ovh_out (by omega)
theorem ovh_0 (fw : Nat → Int32) (t e Q : Nat) : ovh fw t 0 e Q = ovr fw t e Q := rfl
theorem ovh_s {fw : Nat → Int32} {t q e Q b L X : Nat} {x : Int32} (hq : 0 < q) (hqe : q ≤ e) (he : e ≤ 12000) (hL : L ≤ 12000) (htb : t ≠ b) (h : x = iZ (dz Q (q - 1) : Int)) : upd (ovr (ovh fw t q e Q) b L X) (12000 * t + (q - 1)) x = ovr (ovh fw t (q - 1) e Q) b L X := by
  funext j
  by_cases r : j = 12000 * t + (q - 1)
  · rw [r, pk_us, ovr_out (by omega)]
    unfold ovh
    rw [if_pos ⟨by omega, by omega⟩, h, show 12000 * t + (q - 1) - 12000 * t = q - 1 by omega]
  · rw [pk_un r]
    by_cases z : 12000 * b ≤ j ∧ j < 12000 * b + L
    · obtain ⟨i, rfl⟩ : ∃ i, j = 12000 * b + i := ⟨j - 12000 * b, by omega⟩
      rw [ovr_in (by omega), ovr_in (by omega)]
    · rw [ovr_out (by omega), ovr_out (by omega)]
      unfold ovh
      by_cases y : 12000 * t + q ≤ j ∧ j < 12000 * t + e
      · rw [if_pos y, if_pos (by omega)]
      · rw [if_neg y, if_neg (by omega)]
theorem dv_in {fw : Nat → Int32} {b m U : Nat} (hm : nd U = m) (h : ∀ i, i < m → fw (12000 * b + i) = iZ (dz U i : Int)) : upd fw (12000 * b + m) (iZ 0) = ovr fw b (m + 1) U := by
  conv => lhs; rw [ovr_same h]
  exact ovr_s (by rw [dz_hi (by omega)]; rfl)
theorem rmk_top {U C e : Nat} (hC : 0 < C) (h : nd U + 1 ≤ nd C + e) : rmk U C e = U := by
  unfold rmk
  apply Nat.mod_eq_of_lt
  have h1 : tB (nd C - 1) ≤ C := nd_lt.mp (by have := nd_pos.mpr hC; omega)
  have h2 := Nat.mul_le_mul_right (tB e) h1
  rw [← tB_add] at h2
  exact Nat.lt_of_lt_of_le (nd_self U) (Nat.le_trans (tB_le (by have := nd_pos.mpr hC; omega)) h2)
theorem rmk_b {U C k n : Nat} (hC : 0 < C) (hn : nd C = n) : rmk U C (k + 1) < tB (k + (n + 1)) := by
  refine Nat.lt_of_lt_of_le (rmk_lt hC (k + 1)) ?_
  have h := nd_self C
  rw [hn] at h
  rw [show k + (n + 1) = n + (k + 1) by omega, tB_add n (k + 1)]
  exact Nat.mul_le_mul_right _ (Nat.le_of_lt h)
theorem dv_R {U C : Nat} (hC : 0 < C) (k : Nat) : ∃ r, r < C ∧ rmk U C (k + 1) / tB k = dz (U / C) k * C + r := by
  refine ⟨rmk U C k / tB k, Nat.div_lt_of_lt_mul (by rw [Nat.mul_comm]; exact rmk_lt hC k), ?_⟩
  rw [rmk_s hC, Nat.add_mul_div_right _ _ (tB_pos k), Nat.add_comm]
theorem dv_yes {U C k f : Nat} (hC : 0 < C) (h : f * C ≤ rmk U C (k + 1) / tB k) : f ≤ dz (U / C) k := by
  obtain ⟨r, h1, h2⟩ := dv_R (U := U) hC k
  rw [h2] at h
  apply Nat.le_of_not_lt
  intro q
  have := Nat.mul_le_mul_right C q
  rw [Nat.succ_mul] at this
  omega
theorem dv_no {U C k f : Nat} (hC : 0 < C) (h : rmk U C (k + 1) / tB k < f * C) : dz (U / C) k < f := by
  obtain ⟨r, h1, h2⟩ := dv_R (U := U) hC k
  rw [h2] at h
  apply Nat.lt_of_not_le
  intro q
  have := Nat.mul_le_mul_right C q
  omega
theorem dv_le {U C : Nat} (hC : 0 < C) (k : Nat) : dz (U / C) k * C ≤ rmk U C (k + 1) / tB k := by
  obtain ⟨r, h1, h2⟩ := dv_R (U := U) hC k
  rw [h2]; exact Nat.le_add_right _ _
theorem dv_sub {U C : Nat} (hC : 0 < C) (k : Nat) : rmk U C (k + 1) - dz (U / C) k * C * tB k = rmk U C k := by rw [rmk_s hC]; omega
theorem top1 (X e : Nat) : X / tB e = X / tB (e + 1) * 10000 + dz X e := by
  unfold dz
  rw [tB_s, ← Nat.div_div_eq_div_mul]
  omega
theorem top0 {X e : Nat} (h : X < tB e) : X / tB e = 0 := Nat.div_eq_of_lt h
/-- the highest places of the two, as they are guessed from -/
def hiN (R n : Nat) : Nat := if n = 1 then R * 100000000 else if n = 2 then R * 10000 else R / tB (n - 3)
theorem top_1 {R : Nat} : R = R / tB 1 * 10000 + dz R 0 := by
  have a := top1 R 0
  rw [tB_0, Nat.div_one] at a
  exact a
theorem hiN_3 {R n : Nat} (hn : 0 < n) (h : R < tB n) : hiN R n = dz R (n - 1) * 100000000 + (if 1 < n then dz R (n - 2) * 10000 else 0) + (if 2 < n then dz R (n - 3) else 0) := by
  unfold hiN
  rcases (show n = 1 ∨ n = 2 ∨ ∃ k, n = k + 3 by rcases (show n = 1 ∨ n = 2 ∨ 3 ≤ n by omega) with q | q | q; exact Or.inl q; exact Or.inr (Or.inl q); exact Or.inr (Or.inr ⟨n - 3, by omega⟩)) with q | q | ⟨k, q⟩
  · subst q
    have a := top_1 (R := R)
    rw [top0 h] at a
    rw [if_pos rfl, if_neg (by omega), if_neg (by omega)]
    show R * 100000000 = dz R 0 * 100000000 + 0 + 0
    omega
  · subst q
    have a := top_1 (R := R)
    have b : R / tB 1 = R / tB 2 * 10000 + dz R 1 := top1 R 1
    rw [top0 h] at b
    rw [if_neg (by omega), if_pos rfl, if_pos (by omega), if_neg (by omega)]
    show R * 10000 = dz R 1 * 100000000 + dz R 0 * 10000 + 0
    rw [b] at a
    omega
  · subst q
    have a : R / tB k = R / tB (k + 1) * 10000 + dz R k := top1 R k
    have b : R / tB (k + 1) = R / tB (k + 2) * 10000 + dz R (k + 1) := top1 R (k + 1)
    have c : R / tB (k + 2) = R / tB (k + 3) * 10000 + dz R (k + 2) := top1 R (k + 2)
    rw [top0 h] at c
    rw [if_neg (by omega), if_neg (by omega), if_pos (by omega), if_pos (by omega)]
    show R / tB k = dz R (k + 2) * 100000000 + dz R (k + 1) * 10000 + dz R k
    rw [a, b, c]
    omega
theorem hiN_4 {R n : Nat} (hn : 0 < n) (h : R < tB (n + 1)) : hiN R n = dz R n * 1000000000000 + dz R (n - 1) * 100000000 + (if 1 < n then dz R (n - 2) * 10000 else 0) + (if 2 < n then dz R (n - 3) else 0) := by
  unfold hiN
  rcases (show n = 1 ∨ n = 2 ∨ ∃ k, n = k + 3 by rcases (show n = 1 ∨ n = 2 ∨ 3 ≤ n by omega) with q | q | q; exact Or.inl q; exact Or.inr (Or.inl q); exact Or.inr (Or.inr ⟨n - 3, by omega⟩)) with q | q | ⟨k, q⟩
  · subst q
    have a := top_1 (R := R)
    have b : R / tB 1 = R / tB 2 * 10000 + dz R 1 := top1 R 1
    rw [top0 h] at b
    rw [if_pos rfl, if_neg (by omega), if_neg (by omega)]
    show R * 100000000 = dz R 1 * 1000000000000 + dz R 0 * 100000000 + 0 + 0
    rw [b] at a
    omega
  · subst q
    have a := top_1 (R := R)
    have b : R / tB 1 = R / tB 2 * 10000 + dz R 1 := top1 R 1
    have c : R / tB 2 = R / tB 3 * 10000 + dz R 2 := top1 R 2
    rw [top0 h] at c
    rw [if_neg (by omega), if_pos rfl, if_pos (by omega), if_neg (by omega)]
    show R * 10000 = dz R 2 * 1000000000000 + dz R 1 * 100000000 + dz R 0 * 10000 + 0
    rw [b, c] at a
    omega
  · subst q
    have a : R / tB k = R / tB (k + 1) * 10000 + dz R k := top1 R k
    have b : R / tB (k + 1) = R / tB (k + 2) * 10000 + dz R (k + 1) := top1 R (k + 1)
    have c : R / tB (k + 2) = R / tB (k + 3) * 10000 + dz R (k + 2) := top1 R (k + 2)
    have d : R / tB (k + 3) = R / tB (k + 3 + 1) * 10000 + dz R (k + 3) := top1 R (k + 3)
    rw [top0 h] at d
    rw [if_neg (by omega), if_neg (by omega), if_pos (by omega), if_pos (by omega)]
    show R / tB k = dz R (k + 3) * 1000000000000 + dz R (k + 2) * 100000000 + dz R (k + 1) * 10000 + dz R k
    rw [a, b, c, d]
    omega
theorem hiN_le {R C d n : Nat} (h : d * C ≤ R) : d * hiN C n ≤ hiN R n := by
  unfold hiN
  split
  · rw [← Nat.mul_assoc]; exact Nat.mul_le_mul_right _ h
  · split
    · rw [← Nat.mul_assoc]; exact Nat.mul_le_mul_right _ h
    · exact gs_ge h
theorem hiN_lead {C n : Nat} (hn : 0 < n) (h : nd C = n) : 100000000 ≤ hiN C n ∧ hiN C n < 1000000000000 := by
  have hd : dz C (n - 1) ≠ 0 := by rw [← h]; exact dz_top (by omega)
  have h1 := dz_lt C (n - 1)
  have h2 := dz_lt C (n - 2)
  have h3 := dz_lt C (n - 3)
  rw [hiN_3 hn (by rw [← h]; exact nd_self C)]
  split <;> split <;> omega
theorem up_keep {α : Type} {f : Nat → α} {t b : Nat} {x : α} (h : b ≠ t) : up (up f t x) b (f b) = up f t x := by
  funext j
  by_cases e : j = b
  · subst e; rw [up_s, up_n h]
  · rw [up_n e]
set_option maxHeartbeats 4000000 in
set_option maxRecDepth 100000 in
/-- divideBy(to, b, c) -/
theorem c_Mo_divideBy (l : Launch) (D : va_G) (mo : Nat) (qc : Int32) (np : Nat) (ow : Nat) (om : Nat) (ok_ : Nat) (oK : Nat) (og : Nat) (on_ : Nat) (oh : Nat) (ox : Nat) (qn : Int32) (qf : Int32) (op_ : Nat) (ql : Int32) (fw : Nat → Int32) (fm : Nat → Int32) (cI : ClassId) (val : Nat → Nat) (t_ : Nat) (b : Nat) (c_ : Nat) (sz : Nat) (hW : WB fw fm val) (ht9 : t_ < 9) (hb9 : b < 9) (hc9 : c_ < 9) (htb : t_ ≠ b) (htc : t_ ≠ c_) (hbc : b ≠ c_) (hC0 : 0 < val c_) (hcap : nd (val b) < 12000) : Met l y_Mo_divideBy (wsB y_Mo_divideBy b_Mo_divideBy 12 none) ({ frames := 1, cells := 0, slots := 0, locals := 29 }) (va_Pc [.ref mo, .int (iZ (t_ : Int)), .int (iZ (b : Int)), .int (iZ (c_ : Int))] (wPre D [(cI, .int)] [(mo, .inr (8, [.int qc, .int (iZ (np : Int)), .ref ow, .ref om, .ref ok_, .ref oK, .ref og, .ref on_, .ref oh, .ref ox, .int qn, .int qf, .ref op_, .int ql])), (ow, .inl (cI, 108000, .inl fw)), (om, .inl (cI, 9, .inl fm))] sz)) (va_QV (fun (v_9 : Option Value) (u_9 : (Nat → Int32) × (Nat → Int32)) => v_9 = none ∧ (WB u_9.1 u_9.2 (up (up val t_ (val b / val c_)) b (val b % val c_)))) (fun u_9 => wPost D [(cI, .int)] [(mo, .inr (8, [.int qc, .int (iZ (np : Int)), .ref ow, .ref om, .ref ok_, .ref oK, .ref og, .ref on_, .ref oh, .ref ox, .int qn, .int qf, .ref op_, .int ql])), (ow, .inl (cI, 108000, .inl fw)), (om, .inl (cI, 9, .inl fm))] [(mo, .inr (8, [.int qc, .int (iZ (np : Int)), .ref ow, .ref om, .ref ok_, .ref oK, .ref og, .ref on_, .ref oh, .ref ox, .int qn, .int qf, .ref op_, .int ql])), (ow, .inl (cI, 108000, .inl u_9.1)), (om, .inl (cI, 9, .inl u_9.2))] sz) (va_A [(mo, .inr (8, [.int qc, .int (iZ (np : Int)), .ref ow, .ref om, .ref ok_, .ref oK, .ref og, .ref on_, .ref oh, .ref ox, .int qn, .int qf, .ref op_, .int ql])), (ow, .inl (cI, 108000, .inl fw)), (om, .inl (cI, 9, .inl fm))] sz)) 0 0 (va_A [(mo, .inr (8, [.int qc, .int (iZ (np : Int)), .ref ow, .ref om, .ref ok_, .ref oK, .ref og, .ref on_, .ref oh, .ref ox, .int qn, .int qf, .ref op_, .int ql])), (ow, .inl (cI, 108000, .inl fw)), (om, .inl (cI, 9, .inl fm))] sz) := by
  refine met_enter (by decide +kernel) (Nat.le_of_ble_eq_true rfl) ?_
  intro p e s m args below meth c ls A R Q H locs K hin hAe hA hR hQ hP hK hD hS hl
  obtain ⟨hx, hb, hml, hrt, hlk, hts, hown, hno⟩ := id K
  have hl : lv_has ls 12 [(0, .ref mo), (1, .int (iZ (t_ : Int))), (2, .int (iZ (b : Int))), (3, .int (iZ (c_ : Int)))] := hl
  have hn9 := hW.n hc9
  have hn8 := hW.n hb9
  have npos : 0 < nd (val c_) := nd_pos.mpr hC0
  refine lv_aload_n hx hb d_Mo_divideBy_0 rfl (lv_at hl 0 rfl) ?_
  refine va_get (D := D) (ci := 8) (v := .ref om) (C := R_Mo) (T := F_Mo) (N := 14) hx hb hts i_Mo hown hK hP 0 rfl rfl 3 (by decide) (hts _ (big_in mw_1118 rfl)) (fun _ h9 => h9) rfl d_Mo_divideBy_1 ?_
  refine lv_iload_n hx hb d_Mo_divideBy_4 rfl (lv_at hl 3 rfl) ?_
  refine zz_iald hx hb hK hP 2 0 rfl rfl (c_) (by omega) (by omega) (by omega) d_Mo_divideBy_5 ?_
  rw [hW.m hc9]
  refine lv_istore (lv' := [(4, .int (iZ (nd (val c_) : Int))), (0, .ref mo), (1, .int (iZ (t_ : Int))), (2, .int (iZ (b : Int))), (3, .int (iZ (c_ : Int)))]) hx hb d_Mo_divideBy_6 hl (by decide) rfl (fun ls hl => ?_)
  refine lv_aload_n hx hb d_Mo_divideBy_8 rfl (lv_at hl 1 rfl) ?_
  refine va_get (D := D) (ci := 8) (v := .ref om) (C := R_Mo) (T := F_Mo) (N := 14) hx hb hts i_Mo hown hK hP 0 rfl rfl 3 (by decide) (hts _ (big_in mw_1118 rfl)) (fun _ h9 => h9) rfl d_Mo_divideBy_9 ?_
  refine lv_iload_n hx hb d_Mo_divideBy_12 rfl (lv_at hl 3 rfl) ?_
  refine zz_iald hx hb hK hP 2 0 rfl rfl (b) (by omega) (by omega) (by omega) d_Mo_divideBy_13 ?_
  rw [hW.m hb9]
  refine lv_istore (lv' := [(5, .int (iZ (nd (val b) : Int))), (4, .int (iZ (nd (val c_) : Int))), (0, .ref mo), (1, .int (iZ (t_ : Int))), (2, .int (iZ (b : Int))), (3, .int (iZ (c_ : Int)))]) hx hb d_Mo_divideBy_14 hl (by decide) rfl (fun ls hl => ?_)
  refine lv_iload hx hb d_Mo_divideBy_16 (lv_at hl 0 rfl) ?_
  refine lv_iload hx hb d_Mo_divideBy_18 (lv_at hl 1 rfl) ?_
  refine zz_icmp_ge (tgt := 31) hx hb d_Mo_divideBy_20 (by decide) (by omega) (by omega) (fun c20 => ?_) (fun c20 => ?_)
  · have L132 : ∀ (N : Nat) (q : Nat) (ld : Nat) (H : Heap) (locs : List Loc) (ls : Array Slot), q < N → (q ≤ (nd (val b) - nd (val c_) + 1)) → (ld = hiN (val c_) (nd (val c_))) → (100000000 ≤ ld ∧ ld < 1000000000000) → va_P D cls0 [(mo, .inr (8, [.int qc, .int (iZ (np : Int)), .ref ow, .ref om, .ref ok_, .ref oK, .ref og, .ref on_, .ref oh, .ref ox, .int qn, .int qf, .ref op_, .int ql])), (ow, .inl (cI, 108000, .inl (ovr (ovh fw t_ q (nd (val b) - nd (val c_) + 1) (val b / val c_)) b (nd (val b) + 1) (rmk (val b) (val c_) q)))), (om, .inl (cI, 9, .inl fm))] H → va_D A [(mo, .inr (8, [.int qc, .int (iZ (np : Int)), .ref ow, .ref om, .ref ok_, .ref oK, .ref og, .ref on_, .ref oh, .ref ox, .int qn, .int qf, .ref op_, .int ql])), (ow, .inl (cI, 108000, .inl (ovr (ovh fw t_ q (nd (val b) - nd (val c_) + 1) (val b / val c_)) b (nd (val b) + 1) (rmk (val b) (val c_) q)))), (om, .inl (cI, 9, .inl fm))] → va_S A s.heap H locs → lv_has ls 12 [(0, .ref mo), (1, .int (iZ (t_ : Int))), (2, .int (iZ (b : Int))), (3, .int (iZ (c_ : Int))), (4, .int (iZ (nd (val c_) : Int))), (5, .int (iZ (nd (val b) : Int))), (6, .long (lZ (ld : Int))), (8, .int (iZ ((q : Int) - 1)))] → W p l e R s m args below meth c H locs 0 0 Q (F0 m 132 ls []) := by
      intro N
      induction N with
      | zero => intro q ld H locs ls hN; exact absurd hN (Nat.not_lt_zero _)
      | succ N ih =>
        intro q ld H locs ls hN iq ild ilb hP hD hS hl
        refine lv_iload hx hb d_Mo_divideBy_132 (lv_at hl 7 rfl) ?_
        refine zz_if_lt (tgt := 314) hx hb d_Mo_divideBy_134 (by decide) (by omega) (fun c134 => ?_) (fun c134 => ?_)
        · have q0 : q = 0 := by omega
          subst q0
          rw [ovh_0, rmk_0] at hP hD
          have nQ : nd (val b / val c_) ≤ (nd (val b) - nd (val c_) + 1) := nd_le.mpr (Nat.div_lt_of_lt_mul (by have z := rmk_top (U := val b) (C := val c_) (e := (nd (val b) - nd (val c_) + 1)) hC0 (by omega); have y := rmk_lt (U := val b) hC0 (nd (val b) - nd (val c_) + 1); rw [z] at y; exact y))
          have nR : nd (val b % val c_) ≤ nd (val c_) := nd_mono (Nat.le_of_lt (Nat.mod_lt _ hC0))
          refine lv_aload_n hx hb d_Mo_divideBy_314 rfl (lv_at hl 0 rfl) ?_
          refine lv_iload_n hx hb d_Mo_divideBy_315 rfl (lv_at hl 1 rfl) ?_
          refine lv_iload hx hb d_Mo_divideBy_316 (lv_at hl 5 rfl) ?_
          refine lv_iload hx hb d_Mo_divideBy_318 (lv_at hl 4 rfl) ?_
          refine zz_isub hx hb d_Mo_divideBy_320 ?_
          refine lv_iconst (v := iZ (1)) hx hb d_Mo_divideBy_321 (by decide +kernel) ?_
          refine zz_iadd hx hb d_Mo_divideBy_322 ?_
          rw [show ((nd (val b) : Int) - (nd (val c_) : Int) + 1 : Int) = (((nd (val b) - nd (val c_) + 1) : Nat) : Int) by omega]
          rw [show ((((nd (val b) - nd (val c_) + 1) : Nat) : Int) : Int) = ((((nd (val b) - nd (val c_) + 1)) : Nat) : Int) by omega]
          refine cv (n := 2) (wr := []) (w1 := (fun (u : Unit) => [(mo, .inr (8, [.int qc, .int (iZ (np : Int)), .ref ow, .ref om, .ref ok_, .ref oK, .ref og, .ref on_, .ref oh, .ref ox, .int qn, .int qf, .ref op_, .int ql])), (ow, .inl (cI, 108000, .inl (ovr (ovr fw t_ (nd (val b) - nd (val c_) + 1) (val b / val c_)) b (nd (val b) + 1) (val b % val c_)))), (om, .inl (cI, 9, .inl (upd fm t_ (iZ (nd (val b / val c_) : Int)))))])) (As := [.int (iZ (t_ : Int)), .int (iZ ((((nd (val b) - nd (val c_) + 1)) : Nat) : Int))]) (rest := []) K hP hD hK hS hA hl.1 (c_Mo_trim l D mo qc np ow om ok_ oK og on_ oh ox qn qf op_ ql (ovr (ovr fw t_ (nd (val b) - nd (val c_) + 1) (val b / val c_)) b (nd (val b) + 1) (val b % val c_)) fm cI t_ ((nd (val b) - nd (val c_) + 1)) (val b / val c_) H.size ht9 (by omega) nQ (fun i hi => by rw [ovr_out (by omega), ovr_in hi])) [0, 1, 2] [] [0] rfl rfl rfl (by decide) (by decide) (by decide) 0 rfl rfl (big_in mw_1211 rfl) (big_in mw_10 rfl) (big_in mw_1208 rfl) (big_in mw_1210 rfl) (big_in sp_26 rfl) rfl rfl (by decide +kernel) ⟨by rw [hR]; exact Nat.le_of_ble_eq_true rfl, by rw [hR]; exact Nat.le_of_ble_eq_true rfl⟩ rfl (Nat.le_of_ble_eq_true rfl) d_Mo_divideBy_323 ⟨by rw [hR]; exact Nat.le_of_ble_eq_true rfl, by rw [hR]; exact Nat.le_of_ble_eq_true rfl⟩ rfl (fun v u H locs hp1 hP hD hS _ => ?_)
          obtain rfl := hp1
          have hP : va_P D cls0 [(mo, .inr (8, [.int qc, .int (iZ (np : Int)), .ref ow, .ref om, .ref ok_, .ref oK, .ref og, .ref on_, .ref oh, .ref ox, .int qn, .int qf, .ref op_, .int ql])), (ow, .inl (cI, 108000, .inl (ovr (ovr fw t_ (nd (val b) - nd (val c_) + 1) (val b / val c_)) b (nd (val b) + 1) (val b % val c_)))), (om, .inl (cI, 9, .inl (upd fm t_ (iZ (nd (val b / val c_) : Int)))))] H := hP
          have hD : va_D A [(mo, .inr (8, [.int qc, .int (iZ (np : Int)), .ref ow, .ref om, .ref ok_, .ref oK, .ref og, .ref on_, .ref oh, .ref ox, .int qn, .int qf, .ref op_, .int ql])), (ow, .inl (cI, 108000, .inl (ovr (ovr fw t_ (nd (val b) - nd (val c_) + 1) (val b / val c_)) b (nd (val b) + 1) (val b % val c_)))), (om, .inl (cI, 9, .inl (upd fm t_ (iZ (nd (val b / val c_) : Int)))))] := hD
          show W p l e R s m args below meth c H locs _ _ Q (F0 m 326 ls [])
          refine lv_aload_n hx hb d_Mo_divideBy_326 rfl (lv_at hl 0 rfl) ?_
          refine lv_iload_n hx hb d_Mo_divideBy_327 rfl (lv_at hl 2 rfl) ?_
          refine lv_iload hx hb d_Mo_divideBy_328 (lv_at hl 4 rfl) ?_
          rw [show ((nd (val c_) : Int) : Int) = (((nd (val c_)) : Nat) : Int) by omega]
          refine cv (n := 2) (wr := []) (w1 := (fun (u : Unit) => [(mo, .inr (8, [.int qc, .int (iZ (np : Int)), .ref ow, .ref om, .ref ok_, .ref oK, .ref og, .ref on_, .ref oh, .ref ox, .int qn, .int qf, .ref op_, .int ql])), (ow, .inl (cI, 108000, .inl (ovr (ovr fw t_ (nd (val b) - nd (val c_) + 1) (val b / val c_)) b (nd (val b) + 1) (val b % val c_)))), (om, .inl (cI, 9, .inl (upd (upd fm t_ (iZ (nd (val b / val c_) : Int))) b (iZ (nd (val b % val c_) : Int)))))])) (As := [.int (iZ (b : Int)), .int (iZ (((nd (val c_)) : Nat) : Int))]) (rest := []) K hP hD hK hS hA hl.1 (c_Mo_trim l D mo qc np ow om ok_ oK og on_ oh ox qn qf op_ ql (ovr (ovr fw t_ (nd (val b) - nd (val c_) + 1) (val b / val c_)) b (nd (val b) + 1) (val b % val c_)) (upd fm t_ (iZ (nd (val b / val c_) : Int))) cI b (nd (val c_)) (val b % val c_) H.size hb9 (by omega) nR (fun i hi => ovr_in (by omega))) [0, 1, 2] [] [0] rfl rfl rfl (by decide) (by decide) (by decide) 0 rfl rfl (big_in mw_1211 rfl) (big_in mw_10 rfl) (big_in mw_1208 rfl) (big_in mw_1210 rfl) (big_in sp_26 rfl) rfl rfl (by decide +kernel) ⟨by rw [hR]; exact Nat.le_of_ble_eq_true rfl, by rw [hR]; exact Nat.le_of_ble_eq_true rfl⟩ rfl (Nat.le_of_ble_eq_true rfl) d_Mo_divideBy_330 ⟨by rw [hR]; exact Nat.le_of_ble_eq_true rfl, by rw [hR]; exact Nat.le_of_ble_eq_true rfl⟩ rfl (fun v u H locs hp2 hP hD hS _ => ?_)
          obtain rfl := hp2
          have hP : va_P D cls0 [(mo, .inr (8, [.int qc, .int (iZ (np : Int)), .ref ow, .ref om, .ref ok_, .ref oK, .ref og, .ref on_, .ref oh, .ref ox, .int qn, .int qf, .ref op_, .int ql])), (ow, .inl (cI, 108000, .inl (ovr (ovr fw t_ (nd (val b) - nd (val c_) + 1) (val b / val c_)) b (nd (val b) + 1) (val b % val c_)))), (om, .inl (cI, 9, .inl (upd (upd fm t_ (iZ (nd (val b / val c_) : Int))) b (iZ (nd (val b % val c_) : Int)))))] H := hP
          have hD : va_D A [(mo, .inr (8, [.int qc, .int (iZ (np : Int)), .ref ow, .ref om, .ref ok_, .ref oK, .ref og, .ref on_, .ref oh, .ref ox, .int qn, .int qf, .ref op_, .int ql])), (ow, .inl (cI, 108000, .inl (ovr (ovr fw t_ (nd (val b) - nd (val c_) + 1) (val b / val c_)) b (nd (val b) + 1) (val b % val c_)))), (om, .inl (cI, 9, .inl (upd (upd fm t_ (iZ (nd (val b / val c_) : Int))) b (iZ (nd (val b % val c_) : Int)))))] := hD
          show W p l e R s m args below meth c H locs _ _ Q (F0 m 333 ls [])
          have hP9 : va_P D cls0 [(mo, .inr (8, [.int qc, .int (iZ (np : Int)), .ref ow, .ref om, .ref ok_, .ref oK, .ref og, .ref on_, .ref oh, .ref ox, .int qn, .int qf, .ref op_, .int ql])), (ow, .inl (cI, 108000, .inl (ovr (ovr fw t_ (nd (val b) - nd (val c_) + 1) (val b / val c_)) b (nd (val b) + 1) (val b % val c_)))), (om, .inl (cI, 9, .inl (upd (upd fm t_ (iZ (nd (val b / val c_) : Int))) b (iZ (nd (val b % val c_) : Int)))))] H := hP.sub [0, 1, 2] rfl
          have hD9 : va_D A [(mo, .inr (8, [.int qc, .int (iZ (np : Int)), .ref ow, .ref om, .ref ok_, .ref oK, .ref og, .ref on_, .ref oh, .ref ox, .int qn, .int qf, .ref op_, .int ql])), (ow, .inl (cI, 108000, .inl (ovr (ovr fw t_ (nd (val b) - nd (val c_) + 1) (val b / val c_)) b (nd (val b) + 1) (val b % val c_)))), (om, .inl (cI, 9, .inl (upd (upd fm t_ (iZ (nd (val b / val c_) : Int))) b (iZ (nd (val b % val c_) : Int)))))] := hD.sub [0, 1, 2] (by decide) rfl
          rw [hQ, ← hAe]
          refine r_v K ((ovr (ovr fw t_ (nd (val b) - nd (val c_) + 1) (val b / val c_)) b (nd (val b) + 1) (val b % val c_)), upd (upd fm t_ (iZ (nd (val b / val c_) : Int))) b (iZ (nd (val b % val c_) : Int))) hS d_Mo_divideBy_333 ?_ (fun t ht hv => ?_)
          · try dsimp only
            exact ⟨rfl, (hW.set nQ (by omega) rfl).set (by omega) (by omega) rfl⟩
          · exact ⟨by rw [ht]; exact hP9, va_K.moved hv hK, by rw [← hAe]; exact hD9⟩
        · have qb : rmk (val b) (val c_) q < tB (q - 1 + (nd (val c_) + 1)) := by have z := rmk_b (U := val b) (k := q - 1) hC0 rfl; rw [show q - 1 + 1 = q by omega] at z; exact z
          have w0 := dz_lt (rmk (val b) (val c_) q / tB (q - 1)) (nd (val c_))
          have w1 := dz_lt (rmk (val b) (val c_) q / tB (q - 1)) (nd (val c_) - 1)
          have w2 := dz_lt (rmk (val b) (val c_) q / tB (q - 1)) (nd (val c_) - 2)
          have w3 := dz_lt (rmk (val b) (val c_) q / tB (q - 1)) (nd (val c_) - 3)
          have wq := dz_lt (val b / val c_) (q - 1)
          refine lv_aload_n hx hb d_Mo_divideBy_137 rfl (lv_at hl 0 rfl) ?_
          have L274 : ∀ (N : Nat) (f : Nat) (hg : Nat) (H : Heap) (locs : List Loc) (ls : Array Slot), f < N → (dz (val b / val c_) (q - 1) ≤ f) → (f ≤ 9999) → va_P D cls0 [(mo, .inr (8, [.int qc, .int (iZ (np : Int)), .ref ow, .ref om, .ref ok_, .ref oK, .ref og, .ref on_, .ref oh, .ref ox, .int qn, .int qf, .ref op_, .int ql])), (ow, .inl (cI, 108000, .inl (ovr (ovh fw t_ q (nd (val b) - nd (val c_) + 1) (val b / val c_)) b (nd (val b) + 1) (rmk (val b) (val c_) q)))), (om, .inl (cI, 9, .inl fm))] H → va_D A [(mo, .inr (8, [.int qc, .int (iZ (np : Int)), .ref ow, .ref om, .ref ok_, .ref oK, .ref og, .ref on_, .ref oh, .ref ox, .int qn, .int qf, .ref op_, .int ql])), (ow, .inl (cI, 108000, .inl (ovr (ovh fw t_ q (nd (val b) - nd (val c_) + 1) (val b / val c_)) b (nd (val b) + 1) (rmk (val b) (val c_) q)))), (om, .inl (cI, 9, .inl fm))] → va_S A s.heap H locs → lv_has ls 12 [(0, .ref mo), (1, .int (iZ (t_ : Int))), (2, .int (iZ (b : Int))), (3, .int (iZ (c_ : Int))), (4, .int (iZ (nd (val c_) : Int))), (5, .int (iZ (nd (val b) : Int))), (6, .long (lZ (ld : Int))), (8, .int (iZ ((q : Int) - 1))), (9, .long (lZ (hg : Int))), (11, .int (iZ (f : Int)))] → W p l e R s m args below meth c H locs 0 0 Q (F0 m 274 ls []) := by
            intro N
            induction N with
            | zero => intro f hg H locs ls hN; exact absurd hN (Nat.not_lt_zero _)
            | succ N ih_L274 =>
              intro f hg H locs ls hN jf jb hP hD hS hl
              refine lv_aload_n hx hb d_Mo_divideBy_274 rfl (lv_at hl 0 rfl) ?_
              refine lv_iload_n hx hb d_Mo_divideBy_275 rfl (lv_at hl 2 rfl) ?_
              refine lv_iload_n hx hb d_Mo_divideBy_276 rfl (lv_at hl 3 rfl) ?_
              refine lv_iload hx hb d_Mo_divideBy_277 (lv_at hl 7 rfl) ?_
              refine lv_iload hx hb d_Mo_divideBy_279 (lv_at hl 9 rfl) ?_
              rw [show ((q : Int) - 1 : Int) = ((q - 1 : Nat) : Int) by omega]
              refine cv (n := 4) (wr := []) (w1 := (fun (u : Int × (Nat → Int32)) => [(mo, .inr (8, [.int qc, .int (iZ (np : Int)), .ref ow, .ref om, .ref ok_, .ref oK, .ref og, .ref on_, .ref oh, .ref ox, .int qn, .int qf, .ref op_, .int ql])), (ow, .inl (cI, 108000, .inl u.2)), (om, .inl (cI, 9, .inl fm))])) (As := [.int (iZ (b : Int)), .int (iZ (c_ : Int)), .int (iZ ((q - 1 : Nat) : Int)), .int (iZ (f : Int))]) (rest := []) K hP hD hK hS hA hl.1 (c_Mo_takes l D mo qc np ow om ok_ oK og on_ oh ox qn qf op_ ql (ovh fw t_ q (nd (val b) - nd (val c_) + 1) (val b / val c_)) fm cI b c_ (q - 1) f (nd (val b) + 1) (rmk (val b) (val c_) q) (val c_) H.size hb9 hc9 hbc (hW.m hc9) (fun j hj => by rw [ovh_out (by omega)]; exact hW.d hc9 hj) (by omega) (by omega) qb jb) [0, 1, 2] [] [0] rfl rfl rfl (by decide) (by decide) (by decide) 0 rfl rfl (big_in mw_1207 rfl) (big_in mw_10 rfl) (big_in mw_1204 rfl) (big_in mw_1206 rfl) (big_in sp_25 rfl) rfl rfl (by decide +kernel) ⟨by rw [hR]; exact Nat.le_of_ble_eq_true rfl, by rw [hR]; exact Nat.le_of_ble_eq_true rfl⟩ rfl (Nat.le_of_ble_eq_true rfl) d_Mo_divideBy_281 ⟨by rw [hR]; exact Nat.le_of_ble_eq_true rfl, by rw [hR]; exact Nat.le_of_ble_eq_true rfl⟩ rfl (fun v u H locs hp3 hP hD hS _ => ?_)
              obtain ⟨rk, fz⟩ := u
              try dsimp only at hp3
              obtain ⟨rfl, tk⟩ := hp3
              have hP : va_P D cls0 [(mo, .inr (8, [.int qc, .int (iZ (np : Int)), .ref ow, .ref om, .ref ok_, .ref oK, .ref og, .ref on_, .ref oh, .ref ox, .int qn, .int qf, .ref op_, .int ql])), (ow, .inl (cI, 108000, .inl fz)), (om, .inl (cI, 9, .inl fm))] H := hP
              have hD : va_D A [(mo, .inr (8, [.int qc, .int (iZ (np : Int)), .ref ow, .ref om, .ref ok_, .ref oK, .ref og, .ref on_, .ref oh, .ref ox, .int qn, .int qf, .ref op_, .int ql])), (ow, .inl (cI, 108000, .inl fz)), (om, .inl (cI, 9, .inl fm))] := hD
              show W p l e R s m args below meth c H locs _ _ Q (F0 m 284 ls [.int (iZ rk)])
              have rkb : rk = 0 ∨ rk = 1 := by rcases tk with h | h; exact Or.inr h.1; exact Or.inl h.1
              refine zz_if_ne (tgt := 293) hx hb d_Mo_divideBy_284 (by decide) (by omega) (fun c284 => ?_) (fun c284 => ?_)
              · obtain ⟨hle, hx2⟩ : f * val c_ ≤ rmk (val b) (val c_) q / tB (q - 1) ∧ fz = ovr (ovh fw t_ q (nd (val b) - nd (val c_) + 1) (val b / val c_)) b (nd (val b) + 1) (rmk (val b) (val c_) q - f * val c_ * tB (q - 1)) := by rcases tk with h | h; exact h.2; (exfalso; omega)
                have hfe : f = dz (val b / val c_) (q - 1) := by apply Nat.le_antisymm; (have z := dv_yes (U := val b) (k := q - 1) hC0 (by rw [show q - 1 + 1 = q by omega]; exact hle)); exact z; exact jf
                have hx3 : fz = ovr (ovh fw t_ q (nd (val b) - nd (val c_) + 1) (val b / val c_)) b (nd (val b) + 1) (rmk (val b) (val c_) (q - 1)) := by rw [hx2, hfe, ← dv_sub hC0 (q - 1), show q - 1 + 1 = q by omega]
                rw [hx3] at hP hD
                refine lv_aload_n hx hb d_Mo_divideBy_293 rfl (lv_at hl 0 rfl) ?_
                refine va_get (D := D) (ci := 8) (v := .ref ow) (C := R_Mo) (T := F_Mo) (N := 14) hx hb hts i_Mo hown hK hP 0 rfl rfl 2 (by decide) (hts _ (big_in mw_1117 rfl)) (fun _ h9 => h9) rfl d_Mo_divideBy_294 ?_
                refine lv_sipush (v := iZ (12000)) hx hb d_Mo_divideBy_297 (by decide +kernel) ?_
                refine lv_iload_n hx hb d_Mo_divideBy_300 rfl (lv_at hl 1 rfl) ?_
                refine zz_imul hx hb d_Mo_divideBy_301 ?_
                refine lv_iload hx hb d_Mo_divideBy_302 (lv_at hl 7 rfl) ?_
                refine zz_iadd hx hb d_Mo_divideBy_304 ?_
                refine lv_iload hx hb d_Mo_divideBy_305 (lv_at hl 9 rfl) ?_
                refine zz_iast hx hb hK hP hD hS 1 0 rfl rfl (12000 * t_ + (q - 1)) (by omega) (by omega) (by omega) d_Mo_divideBy_307 (fun H locs hP hD hS => ?_)
                have hP : va_P D cls0 [(mo, .inr (8, [.int qc, .int (iZ (np : Int)), .ref ow, .ref om, .ref ok_, .ref oK, .ref og, .ref on_, .ref oh, .ref ox, .int qn, .int qf, .ref op_, .int ql])), (ow, .inl (cI, 108000, .inl (upd (ovr (ovh fw t_ q (nd (val b) - nd (val c_) + 1) (val b / val c_)) b (nd (val b) + 1) (rmk (val b) (val c_) (q - 1))) (12000 * t_ + (q - 1)) (iZ (f : Int))))), (om, .inl (cI, 9, .inl fm))] H := hP
                have hD : va_D A [(mo, .inr (8, [.int qc, .int (iZ (np : Int)), .ref ow, .ref om, .ref ok_, .ref oK, .ref og, .ref on_, .ref oh, .ref ox, .int qn, .int qf, .ref op_, .int ql])), (ow, .inl (cI, 108000, .inl (upd (ovr (ovh fw t_ q (nd (val b) - nd (val c_) + 1) (val b / val c_)) b (nd (val b) + 1) (rmk (val b) (val c_) (q - 1))) (12000 * t_ + (q - 1)) (iZ (f : Int))))), (om, .inl (cI, 9, .inl fm))] := hD
                rw [ovh_s (by omega) iq (by omega) (by omega) htb (by rw [hfe])] at hP hD
                refine lv_iinc (v := iZ ((q : Int) - 1 - 1)) (lv' := [(8, .int (iZ ((q : Int) - 1 - 1))), (0, .ref mo), (1, .int (iZ (t_ : Int))), (2, .int (iZ (b : Int))), (3, .int (iZ (c_ : Int))), (4, .int (iZ (nd (val c_) : Int))), (5, .int (iZ (nd (val b) : Int))), (6, .long (lZ (ld : Int))), (9, .long (lZ (hg : Int))), (11, .int (iZ (f : Int)))]) hx hb d_Mo_divideBy_308 hl (k := 7) rfl (iZ_add _ _) (by decide) rfl (fun ls hl => ?_)
                refine lv_goto (tgt := 132) hx hb d_Mo_divideBy_311 (by decide) ?_
                rw [show ((q : Int) - 1 - 1 : Int) = ((q - 1 : Nat) : Int) - 1 by omega] at hl
                exact ih (q - 1) ld _ _ _ (by omega) (by omega) ild ilb (hP.sub (ws' := [(mo, .inr (8, [.int qc, .int (iZ (np : Int)), .ref ow, .ref om, .ref ok_, .ref oK, .ref og, .ref on_, .ref oh, .ref ox, .int qn, .int qf, .ref op_, .int ql])), (ow, .inl (cI, 108000, .inl (ovr (ovh fw t_ (q - 1) (nd (val b) - nd (val c_) + 1) (val b / val c_)) b (nd (val b) + 1) (rmk (val b) (val c_) (q - 1))))), (om, .inl (cI, 9, .inl fm))]) [0, 1, 2] rfl) (hD.sub (ws' := [(mo, .inr (8, [.int qc, .int (iZ (np : Int)), .ref ow, .ref om, .ref ok_, .ref oK, .ref og, .ref on_, .ref oh, .ref ox, .int qn, .int qf, .ref op_, .int ql])), (ow, .inl (cI, 108000, .inl (ovr (ovh fw t_ (q - 1) (nd (val b) - nd (val c_) + 1) (val b / val c_)) b (nd (val b) + 1) (rmk (val b) (val c_) (q - 1))))), (om, .inl (cI, 9, .inl fm))]) [0, 1, 2] (by decide) rfl) hS (lv_sub hl [1, 2, 3, 4, 5, 6, 7, 0] rfl)
              · obtain ⟨hgt, hx2⟩ : rmk (val b) (val c_) q / tB (q - 1) < f * val c_ ∧ fz = ovr (ovh fw t_ q (nd (val b) - nd (val c_) + 1) (val b / val c_)) b (nd (val b) + 1) (rmk (val b) (val c_) q) := by rcases tk with h | h; (exfalso; omega); exact h.2
                rw [hx2] at hP hD
                have hfl := dv_no (U := val b) (k := q - 1) (f := f) hC0 (by rw [show q - 1 + 1 = q by omega]; exact hgt)
                refine lv_iinc (v := iZ ((f : Int) - 1)) (lv' := [(11, .int (iZ ((f : Int) - 1))), (0, .ref mo), (1, .int (iZ (t_ : Int))), (2, .int (iZ (b : Int))), (3, .int (iZ (c_ : Int))), (4, .int (iZ (nd (val c_) : Int))), (5, .int (iZ (nd (val b) : Int))), (6, .long (lZ (ld : Int))), (8, .int (iZ ((q : Int) - 1))), (9, .long (lZ (hg : Int)))]) hx hb d_Mo_divideBy_287 hl (k := 9) rfl (iZ_add _ _) (by decide) rfl (fun ls hl => ?_)
                refine lv_goto (tgt := 274) hx hb d_Mo_divideBy_290 (by decide) ?_
                rw [show ((f : Int) - 1 : Int) = ((f - 1 : Nat) : Int) by omega] at hl
                exact ih_L274 (f - 1) hg _ _ _ (by omega) (by omega) (by omega) (hP.sub (ws' := [(mo, .inr (8, [.int qc, .int (iZ (np : Int)), .ref ow, .ref om, .ref ok_, .ref oK, .ref og, .ref on_, .ref oh, .ref ox, .int qn, .int qf, .ref op_, .int ql])), (ow, .inl (cI, 108000, .inl (ovr (ovh fw t_ q (nd (val b) - nd (val c_) + 1) (val b / val c_)) b (nd (val b) + 1) (rmk (val b) (val c_) q)))), (om, .inl (cI, 9, .inl fm))]) [0, 1, 2] rfl) (hD.sub (ws' := [(mo, .inr (8, [.int qc, .int (iZ (np : Int)), .ref ow, .ref om, .ref ok_, .ref oK, .ref og, .ref on_, .ref oh, .ref ox, .int qn, .int qf, .ref op_, .int ql])), (ow, .inl (cI, 108000, .inl (ovr (ovh fw t_ q (nd (val b) - nd (val c_) + 1) (val b / val c_)) b (nd (val b) + 1) (rmk (val b) (val c_) q)))), (om, .inl (cI, 9, .inl fm))]) [0, 1, 2] (by decide) rfl) hS (lv_sub hl [1, 2, 3, 4, 5, 6, 7, 8, 9, 0] rfl)
          refine va_get (D := D) (ci := 8) (v := .ref ow) (C := R_Mo) (T := F_Mo) (N := 14) hx hb hts i_Mo hown hK hP 0 rfl rfl 2 (by decide) (hts _ (big_in mw_1117 rfl)) (fun _ h9 => h9) rfl d_Mo_divideBy_138 ?_
          refine lv_sipush (v := iZ (12000)) hx hb d_Mo_divideBy_141 (by decide +kernel) ?_
          refine lv_iload_n hx hb d_Mo_divideBy_144 rfl (lv_at hl 2 rfl) ?_
          refine zz_imul hx hb d_Mo_divideBy_145 ?_
          refine lv_iload hx hb d_Mo_divideBy_146 (lv_at hl 7 rfl) ?_
          refine zz_iadd hx hb d_Mo_divideBy_148 ?_
          refine lv_iload hx hb d_Mo_divideBy_149 (lv_at hl 4 rfl) ?_
          refine zz_iadd hx hb d_Mo_divideBy_151 ?_
          refine zz_iald hx hb hK hP 1 0 rfl rfl (12000 * b + (q - 1 + (nd (val c_)))) (by omega) (by omega) (by omega) d_Mo_divideBy_152 ?_
          rw [ovr_in (by omega), ← dz_shift]
          refine zz_i2l hx hb d_Mo_divideBy_153 (by omega) ?_
          refine lv_ldc2 (v := lZ (1000000000000)) hx hb hown (hts _ (big_in mw_1203 rfl)) d_Mo_divideBy_154 ?_
          refine zz_lmul hx hb d_Mo_divideBy_157 ?_
          refine lv_aload_n hx hb d_Mo_divideBy_158 rfl (lv_at hl 0 rfl) ?_
          refine va_get (D := D) (ci := 8) (v := .ref ow) (C := R_Mo) (T := F_Mo) (N := 14) hx hb hts i_Mo hown hK hP 0 rfl rfl 2 (by decide) (hts _ (big_in mw_1117 rfl)) (fun _ h9 => h9) rfl d_Mo_divideBy_159 ?_
          refine lv_sipush (v := iZ (12000)) hx hb d_Mo_divideBy_162 (by decide +kernel) ?_
          refine lv_iload_n hx hb d_Mo_divideBy_165 rfl (lv_at hl 2 rfl) ?_
          refine zz_imul hx hb d_Mo_divideBy_166 ?_
          refine lv_iload hx hb d_Mo_divideBy_167 (lv_at hl 7 rfl) ?_
          refine zz_iadd hx hb d_Mo_divideBy_169 ?_
          refine lv_iload hx hb d_Mo_divideBy_170 (lv_at hl 4 rfl) ?_
          refine zz_iadd hx hb d_Mo_divideBy_172 ?_
          refine lv_iconst (v := iZ (1)) hx hb d_Mo_divideBy_173 (by decide +kernel) ?_
          refine zz_isub hx hb d_Mo_divideBy_174 ?_
          refine zz_iald hx hb hK hP 1 0 rfl rfl (12000 * b + (q - 1 + (nd (val c_) - 1))) (by omega) (by omega) (by omega) d_Mo_divideBy_175 ?_
          rw [ovr_in (by omega), ← dz_shift]
          refine zz_i2l hx hb d_Mo_divideBy_176 (by omega) ?_
          refine lv_ldc2 (v := lZ (100000000)) hx hb hown (hts _ (big_in mw_1202 rfl)) d_Mo_divideBy_177 ?_
          refine zz_lmul hx hb d_Mo_divideBy_180 ?_
          refine zz_ladd hx hb d_Mo_divideBy_181 ?_
          refine lv_iload hx hb d_Mo_divideBy_182 (lv_at hl 4 rfl) ?_
          refine lv_iconst (v := iZ (1)) hx hb d_Mo_divideBy_184 (by decide +kernel) ?_
          refine zz_icmp_le (tgt := 214) hx hb d_Mo_divideBy_185 (by decide) (by omega) (by omega) (fun c185 => ?_) (fun c185 => ?_)
          · refine lv_lconst (v := lZ (0)) hx hb d_Mo_divideBy_214 (by decide +kernel) ?_
            refine zz_ladd hx hb d_Mo_divideBy_215 ?_
            refine lv_iload hx hb d_Mo_divideBy_216 (lv_at hl 4 rfl) ?_
            refine lv_iconst (v := iZ (2)) hx hb d_Mo_divideBy_218 (by decide +kernel) ?_
            refine zz_icmp_le (tgt := 244) hx hb d_Mo_divideBy_219 (by decide) (by omega) (by omega) (fun c219 => ?_) (fun c219 => ?_)
            · refine lv_lconst (v := lZ (0)) hx hb d_Mo_divideBy_244 (by decide +kernel) ?_
              refine zz_ladd hx hb d_Mo_divideBy_245 ?_
              obtain ⟨hg, hhg⟩ : ∃ x : Nat, x = hiN (rmk (val b) (val c_) q / tB (q - 1)) (nd (val c_)) := ⟨_, rfl⟩
              have ehg := hiN_4 (R := (rmk (val b) (val c_) q / tB (q - 1))) npos (hi_lt qb)
              rw [show ((dz (rmk (val b) (val c_) q / tB (q - 1)) (nd (val c_)) : Int) * 1000000000000 + ((dz (rmk (val b) (val c_) q / tB (q - 1)) (nd (val c_) - 1) : Int) * 100000000) + 0 + 0 : Int) = (hg : Int) by rw [hhg, ehg]; first | (rw [if_pos (by omega), if_pos (by omega)]; omega) | (rw [if_pos (by omega), if_neg (by omega)]; omega) | (rw [if_neg (by omega), if_neg (by omega)]; omega)]
              have bhg : hg < 10000000000000000 := by rw [hhg, ehg]; split <;> split <;> omega
              have gl : dz (val b / val c_) (q - 1) * ld ≤ hg := by rw [hhg, ild]; exact hiN_le (by have z := dv_le (U := val b) hC0 (q - 1); rw [show q - 1 + 1 = q by omega] at z; exact z)
              have gl2 : dz (val b / val c_) (q - 1) ≤ hg / ld := (Nat.le_div_iff_mul_le (by omega)).mpr gl
              have gl3 : hg / ld ≤ 100000000 := Nat.le_trans (Nat.div_le_div_left (c := 100000000) ilb.1 (by omega)) (Nat.le_trans (Nat.div_le_div_right (Nat.le_of_lt bhg)) (by decide))
              refine lv_lstore (lv' := [(9, .long (lZ (hg : Int))), (0, .ref mo), (1, .int (iZ (t_ : Int))), (2, .int (iZ (b : Int))), (3, .int (iZ (c_ : Int))), (4, .int (iZ (nd (val c_) : Int))), (5, .int (iZ (nd (val b) : Int))), (6, .long (lZ (ld : Int))), (8, .int (iZ ((q : Int) - 1)))]) hx hb d_Mo_divideBy_246 hl (by decide) rfl (fun ls hl => ?_)
              refine lv_lload hx hb d_Mo_divideBy_248 (lv_at hl 0 rfl) ?_
              refine lv_lload hx hb d_Mo_divideBy_250 (lv_at hl 7 rfl) ?_
              refine zz_ldiv hx hb d_Mo_divideBy_252 (by omega) (by omega) ?_
              refine zz_l2i hx hb d_Mo_divideBy_253 ?_
              refine lv_istore (lv' := [(11, .int (iZ ((hg : Int) / (ld : Int)))), (9, .long (lZ (hg : Int))), (0, .ref mo), (1, .int (iZ (t_ : Int))), (2, .int (iZ (b : Int))), (3, .int (iZ (c_ : Int))), (4, .int (iZ (nd (val c_) : Int))), (5, .int (iZ (nd (val b) : Int))), (6, .long (lZ (ld : Int))), (8, .int (iZ ((q : Int) - 1)))]) hx hb d_Mo_divideBy_254 hl (by decide) rfl (fun ls hl => ?_)
              refine lv_iload hx hb d_Mo_divideBy_256 (lv_at hl 0 rfl) ?_
              refine lv_sipush (v := iZ (10000)) hx hb d_Mo_divideBy_258 (by decide +kernel) ?_
              refine zz_icmp_lt (tgt := 270) hx hb d_Mo_divideBy_261 (by decide) (by omega) (by omega) (fun c261 => ?_) (fun c261 => ?_)
              · refine lv_iload hx hb d_Mo_divideBy_270 (lv_at hl 0 rfl) ?_
                refine lv_istore (lv' := [(11, .int (iZ ((hg : Int) / (ld : Int)))), (9, .long (lZ (hg : Int))), (0, .ref mo), (1, .int (iZ (t_ : Int))), (2, .int (iZ (b : Int))), (3, .int (iZ (c_ : Int))), (4, .int (iZ (nd (val c_) : Int))), (5, .int (iZ (nd (val b) : Int))), (6, .long (lZ (ld : Int))), (8, .int (iZ ((q : Int) - 1)))]) hx hb d_Mo_divideBy_272 hl (by decide) rfl (fun ls hl => ?_)
                rw [show ((hg : Int) / (ld : Int) : Int) = ((hg / ld : Nat) : Int) by omega] at hl
                exact L274 _ (hg / ld) hg _ _ _ (Nat.lt_succ_self _) (by omega) (by omega) (hP.sub (ws' := [(mo, .inr (8, [.int qc, .int (iZ (np : Int)), .ref ow, .ref om, .ref ok_, .ref oK, .ref og, .ref on_, .ref oh, .ref ox, .int qn, .int qf, .ref op_, .int ql])), (ow, .inl (cI, 108000, .inl (ovr (ovh fw t_ q (nd (val b) - nd (val c_) + 1) (val b / val c_)) b (nd (val b) + 1) (rmk (val b) (val c_) q)))), (om, .inl (cI, 9, .inl fm))]) [0, 1, 2] rfl) (hD.sub (ws' := [(mo, .inr (8, [.int qc, .int (iZ (np : Int)), .ref ow, .ref om, .ref ok_, .ref oK, .ref og, .ref on_, .ref oh, .ref ox, .int qn, .int qf, .ref op_, .int ql])), (ow, .inl (cI, 108000, .inl (ovr (ovh fw t_ q (nd (val b) - nd (val c_) + 1) (val b / val c_)) b (nd (val b) + 1) (rmk (val b) (val c_) q)))), (om, .inl (cI, 9, .inl fm))]) [0, 1, 2] (by decide) rfl) hS (lv_sub hl [2, 3, 4, 5, 6, 7, 8, 9, 1, 0] rfl)
              · refine lv_sipush (v := iZ (9999)) hx hb d_Mo_divideBy_264 (by decide +kernel) ?_
                refine lv_goto (tgt := 272) hx hb d_Mo_divideBy_267 (by decide) ?_
                refine lv_istore (lv' := [(11, .int (iZ 9999)), (9, .long (lZ (hg : Int))), (0, .ref mo), (1, .int (iZ (t_ : Int))), (2, .int (iZ (b : Int))), (3, .int (iZ (c_ : Int))), (4, .int (iZ (nd (val c_) : Int))), (5, .int (iZ (nd (val b) : Int))), (6, .long (lZ (ld : Int))), (8, .int (iZ ((q : Int) - 1)))]) hx hb d_Mo_divideBy_272 hl (by decide) rfl (fun ls hl => ?_)
                exact L274 _ 9999 hg _ _ _ (Nat.lt_succ_self _) (by omega) (by omega) (hP.sub (ws' := [(mo, .inr (8, [.int qc, .int (iZ (np : Int)), .ref ow, .ref om, .ref ok_, .ref oK, .ref og, .ref on_, .ref oh, .ref ox, .int qn, .int qf, .ref op_, .int ql])), (ow, .inl (cI, 108000, .inl (ovr (ovh fw t_ q (nd (val b) - nd (val c_) + 1) (val b / val c_)) b (nd (val b) + 1) (rmk (val b) (val c_) q)))), (om, .inl (cI, 9, .inl fm))]) [0, 1, 2] rfl) (hD.sub (ws' := [(mo, .inr (8, [.int qc, .int (iZ (np : Int)), .ref ow, .ref om, .ref ok_, .ref oK, .ref og, .ref on_, .ref oh, .ref ox, .int qn, .int qf, .ref op_, .int ql])), (ow, .inl (cI, 108000, .inl (ovr (ovh fw t_ q (nd (val b) - nd (val c_) + 1) (val b / val c_)) b (nd (val b) + 1) (rmk (val b) (val c_) q)))), (om, .inl (cI, 9, .inl fm))]) [0, 1, 2] (by decide) rfl) hS (lv_sub hl [2, 3, 4, 5, 6, 7, 8, 9, 1, 0] rfl)
            · refine lv_aload_n hx hb d_Mo_divideBy_222 rfl (lv_at hl 0 rfl) ?_
              refine va_get (D := D) (ci := 8) (v := .ref ow) (C := R_Mo) (T := F_Mo) (N := 14) hx hb hts i_Mo hown hK hP 0 rfl rfl 2 (by decide) (hts _ (big_in mw_1117 rfl)) (fun _ h9 => h9) rfl d_Mo_divideBy_223 ?_
              refine lv_sipush (v := iZ (12000)) hx hb d_Mo_divideBy_226 (by decide +kernel) ?_
              refine lv_iload_n hx hb d_Mo_divideBy_229 rfl (lv_at hl 2 rfl) ?_
              refine zz_imul hx hb d_Mo_divideBy_230 ?_
              refine lv_iload hx hb d_Mo_divideBy_231 (lv_at hl 7 rfl) ?_
              refine zz_iadd hx hb d_Mo_divideBy_233 ?_
              refine lv_iload hx hb d_Mo_divideBy_234 (lv_at hl 4 rfl) ?_
              refine zz_iadd hx hb d_Mo_divideBy_236 ?_
              refine lv_iconst (v := iZ (3)) hx hb d_Mo_divideBy_237 (by decide +kernel) ?_
              refine zz_isub hx hb d_Mo_divideBy_238 ?_
              refine zz_iald hx hb hK hP 1 0 rfl rfl (12000 * b + (q - 1 + (nd (val c_) - 3))) (by omega) (by omega) (by omega) d_Mo_divideBy_239 ?_
              rw [ovr_in (by omega), ← dz_shift]
              refine zz_i2l hx hb d_Mo_divideBy_240 (by omega) ?_
              refine lv_goto (tgt := 245) hx hb d_Mo_divideBy_241 (by decide) ?_
              refine zz_ladd hx hb d_Mo_divideBy_245 ?_
              obtain ⟨hg, hhg⟩ : ∃ x : Nat, x = hiN (rmk (val b) (val c_) q / tB (q - 1)) (nd (val c_)) := ⟨_, rfl⟩
              have ehg := hiN_4 (R := (rmk (val b) (val c_) q / tB (q - 1))) npos (hi_lt qb)
              rw [show ((dz (rmk (val b) (val c_) q / tB (q - 1)) (nd (val c_)) : Int) * 1000000000000 + ((dz (rmk (val b) (val c_) q / tB (q - 1)) (nd (val c_) - 1) : Int) * 100000000) + 0 + (dz (rmk (val b) (val c_) q / tB (q - 1)) (nd (val c_) - 3) : Int) : Int) = (hg : Int) by rw [hhg, ehg]; first | (rw [if_pos (by omega), if_pos (by omega)]; omega) | (rw [if_pos (by omega), if_neg (by omega)]; omega) | (rw [if_neg (by omega), if_neg (by omega)]; omega)]
              have bhg : hg < 10000000000000000 := by rw [hhg, ehg]; split <;> split <;> omega
              have gl : dz (val b / val c_) (q - 1) * ld ≤ hg := by rw [hhg, ild]; exact hiN_le (by have z := dv_le (U := val b) hC0 (q - 1); rw [show q - 1 + 1 = q by omega] at z; exact z)
              have gl2 : dz (val b / val c_) (q - 1) ≤ hg / ld := (Nat.le_div_iff_mul_le (by omega)).mpr gl
              have gl3 : hg / ld ≤ 100000000 := Nat.le_trans (Nat.div_le_div_left (c := 100000000) ilb.1 (by omega)) (Nat.le_trans (Nat.div_le_div_right (Nat.le_of_lt bhg)) (by decide))
              refine lv_lstore (lv' := [(9, .long (lZ (hg : Int))), (0, .ref mo), (1, .int (iZ (t_ : Int))), (2, .int (iZ (b : Int))), (3, .int (iZ (c_ : Int))), (4, .int (iZ (nd (val c_) : Int))), (5, .int (iZ (nd (val b) : Int))), (6, .long (lZ (ld : Int))), (8, .int (iZ ((q : Int) - 1)))]) hx hb d_Mo_divideBy_246 hl (by decide) rfl (fun ls hl => ?_)
              refine lv_lload hx hb d_Mo_divideBy_248 (lv_at hl 0 rfl) ?_
              refine lv_lload hx hb d_Mo_divideBy_250 (lv_at hl 7 rfl) ?_
              refine zz_ldiv hx hb d_Mo_divideBy_252 (by omega) (by omega) ?_
              refine zz_l2i hx hb d_Mo_divideBy_253 ?_
              refine lv_istore (lv' := [(11, .int (iZ ((hg : Int) / (ld : Int)))), (9, .long (lZ (hg : Int))), (0, .ref mo), (1, .int (iZ (t_ : Int))), (2, .int (iZ (b : Int))), (3, .int (iZ (c_ : Int))), (4, .int (iZ (nd (val c_) : Int))), (5, .int (iZ (nd (val b) : Int))), (6, .long (lZ (ld : Int))), (8, .int (iZ ((q : Int) - 1)))]) hx hb d_Mo_divideBy_254 hl (by decide) rfl (fun ls hl => ?_)
              refine lv_iload hx hb d_Mo_divideBy_256 (lv_at hl 0 rfl) ?_
              refine lv_sipush (v := iZ (10000)) hx hb d_Mo_divideBy_258 (by decide +kernel) ?_
              refine zz_icmp_lt (tgt := 270) hx hb d_Mo_divideBy_261 (by decide) (by omega) (by omega) (fun c261 => ?_) (fun c261 => ?_)
              · refine lv_iload hx hb d_Mo_divideBy_270 (lv_at hl 0 rfl) ?_
                refine lv_istore (lv' := [(11, .int (iZ ((hg : Int) / (ld : Int)))), (9, .long (lZ (hg : Int))), (0, .ref mo), (1, .int (iZ (t_ : Int))), (2, .int (iZ (b : Int))), (3, .int (iZ (c_ : Int))), (4, .int (iZ (nd (val c_) : Int))), (5, .int (iZ (nd (val b) : Int))), (6, .long (lZ (ld : Int))), (8, .int (iZ ((q : Int) - 1)))]) hx hb d_Mo_divideBy_272 hl (by decide) rfl (fun ls hl => ?_)
                rw [show ((hg : Int) / (ld : Int) : Int) = ((hg / ld : Nat) : Int) by omega] at hl
                exact L274 _ (hg / ld) hg _ _ _ (Nat.lt_succ_self _) (by omega) (by omega) (hP.sub (ws' := [(mo, .inr (8, [.int qc, .int (iZ (np : Int)), .ref ow, .ref om, .ref ok_, .ref oK, .ref og, .ref on_, .ref oh, .ref ox, .int qn, .int qf, .ref op_, .int ql])), (ow, .inl (cI, 108000, .inl (ovr (ovh fw t_ q (nd (val b) - nd (val c_) + 1) (val b / val c_)) b (nd (val b) + 1) (rmk (val b) (val c_) q)))), (om, .inl (cI, 9, .inl fm))]) [0, 1, 2] rfl) (hD.sub (ws' := [(mo, .inr (8, [.int qc, .int (iZ (np : Int)), .ref ow, .ref om, .ref ok_, .ref oK, .ref og, .ref on_, .ref oh, .ref ox, .int qn, .int qf, .ref op_, .int ql])), (ow, .inl (cI, 108000, .inl (ovr (ovh fw t_ q (nd (val b) - nd (val c_) + 1) (val b / val c_)) b (nd (val b) + 1) (rmk (val b) (val c_) q)))), (om, .inl (cI, 9, .inl fm))]) [0, 1, 2] (by decide) rfl) hS (lv_sub hl [2, 3, 4, 5, 6, 7, 8, 9, 1, 0] rfl)
              · refine lv_sipush (v := iZ (9999)) hx hb d_Mo_divideBy_264 (by decide +kernel) ?_
                refine lv_goto (tgt := 272) hx hb d_Mo_divideBy_267 (by decide) ?_
                refine lv_istore (lv' := [(11, .int (iZ 9999)), (9, .long (lZ (hg : Int))), (0, .ref mo), (1, .int (iZ (t_ : Int))), (2, .int (iZ (b : Int))), (3, .int (iZ (c_ : Int))), (4, .int (iZ (nd (val c_) : Int))), (5, .int (iZ (nd (val b) : Int))), (6, .long (lZ (ld : Int))), (8, .int (iZ ((q : Int) - 1)))]) hx hb d_Mo_divideBy_272 hl (by decide) rfl (fun ls hl => ?_)
                exact L274 _ 9999 hg _ _ _ (Nat.lt_succ_self _) (by omega) (by omega) (hP.sub (ws' := [(mo, .inr (8, [.int qc, .int (iZ (np : Int)), .ref ow, .ref om, .ref ok_, .ref oK, .ref og, .ref on_, .ref oh, .ref ox, .int qn, .int qf, .ref op_, .int ql])), (ow, .inl (cI, 108000, .inl (ovr (ovh fw t_ q (nd (val b) - nd (val c_) + 1) (val b / val c_)) b (nd (val b) + 1) (rmk (val b) (val c_) q)))), (om, .inl (cI, 9, .inl fm))]) [0, 1, 2] rfl) (hD.sub (ws' := [(mo, .inr (8, [.int qc, .int (iZ (np : Int)), .ref ow, .ref om, .ref ok_, .ref oK, .ref og, .ref on_, .ref oh, .ref ox, .int qn, .int qf, .ref op_, .int ql])), (ow, .inl (cI, 108000, .inl (ovr (ovh fw t_ q (nd (val b) - nd (val c_) + 1) (val b / val c_)) b (nd (val b) + 1) (rmk (val b) (val c_) q)))), (om, .inl (cI, 9, .inl fm))]) [0, 1, 2] (by decide) rfl) hS (lv_sub hl [2, 3, 4, 5, 6, 7, 8, 9, 1, 0] rfl)
          · refine lv_aload_n hx hb d_Mo_divideBy_188 rfl (lv_at hl 0 rfl) ?_
            refine va_get (D := D) (ci := 8) (v := .ref ow) (C := R_Mo) (T := F_Mo) (N := 14) hx hb hts i_Mo hown hK hP 0 rfl rfl 2 (by decide) (hts _ (big_in mw_1117 rfl)) (fun _ h9 => h9) rfl d_Mo_divideBy_189 ?_
            refine lv_sipush (v := iZ (12000)) hx hb d_Mo_divideBy_192 (by decide +kernel) ?_
            refine lv_iload_n hx hb d_Mo_divideBy_195 rfl (lv_at hl 2 rfl) ?_
            refine zz_imul hx hb d_Mo_divideBy_196 ?_
            refine lv_iload hx hb d_Mo_divideBy_197 (lv_at hl 7 rfl) ?_
            refine zz_iadd hx hb d_Mo_divideBy_199 ?_
            refine lv_iload hx hb d_Mo_divideBy_200 (lv_at hl 4 rfl) ?_
            refine zz_iadd hx hb d_Mo_divideBy_202 ?_
            refine lv_iconst (v := iZ (2)) hx hb d_Mo_divideBy_203 (by decide +kernel) ?_
            refine zz_isub hx hb d_Mo_divideBy_204 ?_
            refine zz_iald hx hb hK hP 1 0 rfl rfl (12000 * b + (q - 1 + (nd (val c_) - 2))) (by omega) (by omega) (by omega) d_Mo_divideBy_205 ?_
            rw [ovr_in (by omega), ← dz_shift]
            refine zz_i2l hx hb d_Mo_divideBy_206 (by omega) ?_
            refine lv_ldc2 (v := lZ (10000)) hx hb hown (hts _ (big_in mw_1181 rfl)) d_Mo_divideBy_207 ?_
            refine zz_lmul hx hb d_Mo_divideBy_210 ?_
            refine lv_goto (tgt := 215) hx hb d_Mo_divideBy_211 (by decide) ?_
            refine zz_ladd hx hb d_Mo_divideBy_215 ?_
            refine lv_iload hx hb d_Mo_divideBy_216 (lv_at hl 4 rfl) ?_
            refine lv_iconst (v := iZ (2)) hx hb d_Mo_divideBy_218 (by decide +kernel) ?_
            refine zz_icmp_le (tgt := 244) hx hb d_Mo_divideBy_219 (by decide) (by omega) (by omega) (fun c219 => ?_) (fun c219 => ?_)
            · refine lv_lconst (v := lZ (0)) hx hb d_Mo_divideBy_244 (by decide +kernel) ?_
              refine zz_ladd hx hb d_Mo_divideBy_245 ?_
              obtain ⟨hg, hhg⟩ : ∃ x : Nat, x = hiN (rmk (val b) (val c_) q / tB (q - 1)) (nd (val c_)) := ⟨_, rfl⟩
              have ehg := hiN_4 (R := (rmk (val b) (val c_) q / tB (q - 1))) npos (hi_lt qb)
              rw [show ((dz (rmk (val b) (val c_) q / tB (q - 1)) (nd (val c_)) : Int) * 1000000000000 + ((dz (rmk (val b) (val c_) q / tB (q - 1)) (nd (val c_) - 1) : Int) * 100000000) + ((dz (rmk (val b) (val c_) q / tB (q - 1)) (nd (val c_) - 2) : Int) * 10000) + 0 : Int) = (hg : Int) by rw [hhg, ehg]; first | (rw [if_pos (by omega), if_pos (by omega)]; omega) | (rw [if_pos (by omega), if_neg (by omega)]; omega) | (rw [if_neg (by omega), if_neg (by omega)]; omega)]
              have bhg : hg < 10000000000000000 := by rw [hhg, ehg]; split <;> split <;> omega
              have gl : dz (val b / val c_) (q - 1) * ld ≤ hg := by rw [hhg, ild]; exact hiN_le (by have z := dv_le (U := val b) hC0 (q - 1); rw [show q - 1 + 1 = q by omega] at z; exact z)
              have gl2 : dz (val b / val c_) (q - 1) ≤ hg / ld := (Nat.le_div_iff_mul_le (by omega)).mpr gl
              have gl3 : hg / ld ≤ 100000000 := Nat.le_trans (Nat.div_le_div_left (c := 100000000) ilb.1 (by omega)) (Nat.le_trans (Nat.div_le_div_right (Nat.le_of_lt bhg)) (by decide))
              refine lv_lstore (lv' := [(9, .long (lZ (hg : Int))), (0, .ref mo), (1, .int (iZ (t_ : Int))), (2, .int (iZ (b : Int))), (3, .int (iZ (c_ : Int))), (4, .int (iZ (nd (val c_) : Int))), (5, .int (iZ (nd (val b) : Int))), (6, .long (lZ (ld : Int))), (8, .int (iZ ((q : Int) - 1)))]) hx hb d_Mo_divideBy_246 hl (by decide) rfl (fun ls hl => ?_)
              refine lv_lload hx hb d_Mo_divideBy_248 (lv_at hl 0 rfl) ?_
              refine lv_lload hx hb d_Mo_divideBy_250 (lv_at hl 7 rfl) ?_
              refine zz_ldiv hx hb d_Mo_divideBy_252 (by omega) (by omega) ?_
              refine zz_l2i hx hb d_Mo_divideBy_253 ?_
              refine lv_istore (lv' := [(11, .int (iZ ((hg : Int) / (ld : Int)))), (9, .long (lZ (hg : Int))), (0, .ref mo), (1, .int (iZ (t_ : Int))), (2, .int (iZ (b : Int))), (3, .int (iZ (c_ : Int))), (4, .int (iZ (nd (val c_) : Int))), (5, .int (iZ (nd (val b) : Int))), (6, .long (lZ (ld : Int))), (8, .int (iZ ((q : Int) - 1)))]) hx hb d_Mo_divideBy_254 hl (by decide) rfl (fun ls hl => ?_)
              refine lv_iload hx hb d_Mo_divideBy_256 (lv_at hl 0 rfl) ?_
              refine lv_sipush (v := iZ (10000)) hx hb d_Mo_divideBy_258 (by decide +kernel) ?_
              refine zz_icmp_lt (tgt := 270) hx hb d_Mo_divideBy_261 (by decide) (by omega) (by omega) (fun c261 => ?_) (fun c261 => ?_)
              · refine lv_iload hx hb d_Mo_divideBy_270 (lv_at hl 0 rfl) ?_
                refine lv_istore (lv' := [(11, .int (iZ ((hg : Int) / (ld : Int)))), (9, .long (lZ (hg : Int))), (0, .ref mo), (1, .int (iZ (t_ : Int))), (2, .int (iZ (b : Int))), (3, .int (iZ (c_ : Int))), (4, .int (iZ (nd (val c_) : Int))), (5, .int (iZ (nd (val b) : Int))), (6, .long (lZ (ld : Int))), (8, .int (iZ ((q : Int) - 1)))]) hx hb d_Mo_divideBy_272 hl (by decide) rfl (fun ls hl => ?_)
                rw [show ((hg : Int) / (ld : Int) : Int) = ((hg / ld : Nat) : Int) by omega] at hl
                exact L274 _ (hg / ld) hg _ _ _ (Nat.lt_succ_self _) (by omega) (by omega) (hP.sub (ws' := [(mo, .inr (8, [.int qc, .int (iZ (np : Int)), .ref ow, .ref om, .ref ok_, .ref oK, .ref og, .ref on_, .ref oh, .ref ox, .int qn, .int qf, .ref op_, .int ql])), (ow, .inl (cI, 108000, .inl (ovr (ovh fw t_ q (nd (val b) - nd (val c_) + 1) (val b / val c_)) b (nd (val b) + 1) (rmk (val b) (val c_) q)))), (om, .inl (cI, 9, .inl fm))]) [0, 1, 2] rfl) (hD.sub (ws' := [(mo, .inr (8, [.int qc, .int (iZ (np : Int)), .ref ow, .ref om, .ref ok_, .ref oK, .ref og, .ref on_, .ref oh, .ref ox, .int qn, .int qf, .ref op_, .int ql])), (ow, .inl (cI, 108000, .inl (ovr (ovh fw t_ q (nd (val b) - nd (val c_) + 1) (val b / val c_)) b (nd (val b) + 1) (rmk (val b) (val c_) q)))), (om, .inl (cI, 9, .inl fm))]) [0, 1, 2] (by decide) rfl) hS (lv_sub hl [2, 3, 4, 5, 6, 7, 8, 9, 1, 0] rfl)
              · refine lv_sipush (v := iZ (9999)) hx hb d_Mo_divideBy_264 (by decide +kernel) ?_
                refine lv_goto (tgt := 272) hx hb d_Mo_divideBy_267 (by decide) ?_
                refine lv_istore (lv' := [(11, .int (iZ 9999)), (9, .long (lZ (hg : Int))), (0, .ref mo), (1, .int (iZ (t_ : Int))), (2, .int (iZ (b : Int))), (3, .int (iZ (c_ : Int))), (4, .int (iZ (nd (val c_) : Int))), (5, .int (iZ (nd (val b) : Int))), (6, .long (lZ (ld : Int))), (8, .int (iZ ((q : Int) - 1)))]) hx hb d_Mo_divideBy_272 hl (by decide) rfl (fun ls hl => ?_)
                exact L274 _ 9999 hg _ _ _ (Nat.lt_succ_self _) (by omega) (by omega) (hP.sub (ws' := [(mo, .inr (8, [.int qc, .int (iZ (np : Int)), .ref ow, .ref om, .ref ok_, .ref oK, .ref og, .ref on_, .ref oh, .ref ox, .int qn, .int qf, .ref op_, .int ql])), (ow, .inl (cI, 108000, .inl (ovr (ovh fw t_ q (nd (val b) - nd (val c_) + 1) (val b / val c_)) b (nd (val b) + 1) (rmk (val b) (val c_) q)))), (om, .inl (cI, 9, .inl fm))]) [0, 1, 2] rfl) (hD.sub (ws' := [(mo, .inr (8, [.int qc, .int (iZ (np : Int)), .ref ow, .ref om, .ref ok_, .ref oK, .ref og, .ref on_, .ref oh, .ref ox, .int qn, .int qf, .ref op_, .int ql])), (ow, .inl (cI, 108000, .inl (ovr (ovh fw t_ q (nd (val b) - nd (val c_) + 1) (val b / val c_)) b (nd (val b) + 1) (rmk (val b) (val c_) q)))), (om, .inl (cI, 9, .inl fm))]) [0, 1, 2] (by decide) rfl) hS (lv_sub hl [2, 3, 4, 5, 6, 7, 8, 9, 1, 0] rfl)
            · refine lv_aload_n hx hb d_Mo_divideBy_222 rfl (lv_at hl 0 rfl) ?_
              refine va_get (D := D) (ci := 8) (v := .ref ow) (C := R_Mo) (T := F_Mo) (N := 14) hx hb hts i_Mo hown hK hP 0 rfl rfl 2 (by decide) (hts _ (big_in mw_1117 rfl)) (fun _ h9 => h9) rfl d_Mo_divideBy_223 ?_
              refine lv_sipush (v := iZ (12000)) hx hb d_Mo_divideBy_226 (by decide +kernel) ?_
              refine lv_iload_n hx hb d_Mo_divideBy_229 rfl (lv_at hl 2 rfl) ?_
              refine zz_imul hx hb d_Mo_divideBy_230 ?_
              refine lv_iload hx hb d_Mo_divideBy_231 (lv_at hl 7 rfl) ?_
              refine zz_iadd hx hb d_Mo_divideBy_233 ?_
              refine lv_iload hx hb d_Mo_divideBy_234 (lv_at hl 4 rfl) ?_
              refine zz_iadd hx hb d_Mo_divideBy_236 ?_
              refine lv_iconst (v := iZ (3)) hx hb d_Mo_divideBy_237 (by decide +kernel) ?_
              refine zz_isub hx hb d_Mo_divideBy_238 ?_
              refine zz_iald hx hb hK hP 1 0 rfl rfl (12000 * b + (q - 1 + (nd (val c_) - 3))) (by omega) (by omega) (by omega) d_Mo_divideBy_239 ?_
              rw [ovr_in (by omega), ← dz_shift]
              refine zz_i2l hx hb d_Mo_divideBy_240 (by omega) ?_
              refine lv_goto (tgt := 245) hx hb d_Mo_divideBy_241 (by decide) ?_
              refine zz_ladd hx hb d_Mo_divideBy_245 ?_
              obtain ⟨hg, hhg⟩ : ∃ x : Nat, x = hiN (rmk (val b) (val c_) q / tB (q - 1)) (nd (val c_)) := ⟨_, rfl⟩
              have ehg := hiN_4 (R := (rmk (val b) (val c_) q / tB (q - 1))) npos (hi_lt qb)
              rw [show ((dz (rmk (val b) (val c_) q / tB (q - 1)) (nd (val c_)) : Int) * 1000000000000 + ((dz (rmk (val b) (val c_) q / tB (q - 1)) (nd (val c_) - 1) : Int) * 100000000) + ((dz (rmk (val b) (val c_) q / tB (q - 1)) (nd (val c_) - 2) : Int) * 10000) + (dz (rmk (val b) (val c_) q / tB (q - 1)) (nd (val c_) - 3) : Int) : Int) = (hg : Int) by rw [hhg, ehg]; first | (rw [if_pos (by omega), if_pos (by omega)]; omega) | (rw [if_pos (by omega), if_neg (by omega)]; omega) | (rw [if_neg (by omega), if_neg (by omega)]; omega)]
              have bhg : hg < 10000000000000000 := by rw [hhg, ehg]; split <;> split <;> omega
              have gl : dz (val b / val c_) (q - 1) * ld ≤ hg := by rw [hhg, ild]; exact hiN_le (by have z := dv_le (U := val b) hC0 (q - 1); rw [show q - 1 + 1 = q by omega] at z; exact z)
              have gl2 : dz (val b / val c_) (q - 1) ≤ hg / ld := (Nat.le_div_iff_mul_le (by omega)).mpr gl
              have gl3 : hg / ld ≤ 100000000 := Nat.le_trans (Nat.div_le_div_left (c := 100000000) ilb.1 (by omega)) (Nat.le_trans (Nat.div_le_div_right (Nat.le_of_lt bhg)) (by decide))
              refine lv_lstore (lv' := [(9, .long (lZ (hg : Int))), (0, .ref mo), (1, .int (iZ (t_ : Int))), (2, .int (iZ (b : Int))), (3, .int (iZ (c_ : Int))), (4, .int (iZ (nd (val c_) : Int))), (5, .int (iZ (nd (val b) : Int))), (6, .long (lZ (ld : Int))), (8, .int (iZ ((q : Int) - 1)))]) hx hb d_Mo_divideBy_246 hl (by decide) rfl (fun ls hl => ?_)
              refine lv_lload hx hb d_Mo_divideBy_248 (lv_at hl 0 rfl) ?_
              refine lv_lload hx hb d_Mo_divideBy_250 (lv_at hl 7 rfl) ?_
              refine zz_ldiv hx hb d_Mo_divideBy_252 (by omega) (by omega) ?_
              refine zz_l2i hx hb d_Mo_divideBy_253 ?_
              refine lv_istore (lv' := [(11, .int (iZ ((hg : Int) / (ld : Int)))), (9, .long (lZ (hg : Int))), (0, .ref mo), (1, .int (iZ (t_ : Int))), (2, .int (iZ (b : Int))), (3, .int (iZ (c_ : Int))), (4, .int (iZ (nd (val c_) : Int))), (5, .int (iZ (nd (val b) : Int))), (6, .long (lZ (ld : Int))), (8, .int (iZ ((q : Int) - 1)))]) hx hb d_Mo_divideBy_254 hl (by decide) rfl (fun ls hl => ?_)
              refine lv_iload hx hb d_Mo_divideBy_256 (lv_at hl 0 rfl) ?_
              refine lv_sipush (v := iZ (10000)) hx hb d_Mo_divideBy_258 (by decide +kernel) ?_
              refine zz_icmp_lt (tgt := 270) hx hb d_Mo_divideBy_261 (by decide) (by omega) (by omega) (fun c261 => ?_) (fun c261 => ?_)
              · refine lv_iload hx hb d_Mo_divideBy_270 (lv_at hl 0 rfl) ?_
                refine lv_istore (lv' := [(11, .int (iZ ((hg : Int) / (ld : Int)))), (9, .long (lZ (hg : Int))), (0, .ref mo), (1, .int (iZ (t_ : Int))), (2, .int (iZ (b : Int))), (3, .int (iZ (c_ : Int))), (4, .int (iZ (nd (val c_) : Int))), (5, .int (iZ (nd (val b) : Int))), (6, .long (lZ (ld : Int))), (8, .int (iZ ((q : Int) - 1)))]) hx hb d_Mo_divideBy_272 hl (by decide) rfl (fun ls hl => ?_)
                rw [show ((hg : Int) / (ld : Int) : Int) = ((hg / ld : Nat) : Int) by omega] at hl
                exact L274 _ (hg / ld) hg _ _ _ (Nat.lt_succ_self _) (by omega) (by omega) (hP.sub (ws' := [(mo, .inr (8, [.int qc, .int (iZ (np : Int)), .ref ow, .ref om, .ref ok_, .ref oK, .ref og, .ref on_, .ref oh, .ref ox, .int qn, .int qf, .ref op_, .int ql])), (ow, .inl (cI, 108000, .inl (ovr (ovh fw t_ q (nd (val b) - nd (val c_) + 1) (val b / val c_)) b (nd (val b) + 1) (rmk (val b) (val c_) q)))), (om, .inl (cI, 9, .inl fm))]) [0, 1, 2] rfl) (hD.sub (ws' := [(mo, .inr (8, [.int qc, .int (iZ (np : Int)), .ref ow, .ref om, .ref ok_, .ref oK, .ref og, .ref on_, .ref oh, .ref ox, .int qn, .int qf, .ref op_, .int ql])), (ow, .inl (cI, 108000, .inl (ovr (ovh fw t_ q (nd (val b) - nd (val c_) + 1) (val b / val c_)) b (nd (val b) + 1) (rmk (val b) (val c_) q)))), (om, .inl (cI, 9, .inl fm))]) [0, 1, 2] (by decide) rfl) hS (lv_sub hl [2, 3, 4, 5, 6, 7, 8, 9, 1, 0] rfl)
              · refine lv_sipush (v := iZ (9999)) hx hb d_Mo_divideBy_264 (by decide +kernel) ?_
                refine lv_goto (tgt := 272) hx hb d_Mo_divideBy_267 (by decide) ?_
                refine lv_istore (lv' := [(11, .int (iZ 9999)), (9, .long (lZ (hg : Int))), (0, .ref mo), (1, .int (iZ (t_ : Int))), (2, .int (iZ (b : Int))), (3, .int (iZ (c_ : Int))), (4, .int (iZ (nd (val c_) : Int))), (5, .int (iZ (nd (val b) : Int))), (6, .long (lZ (ld : Int))), (8, .int (iZ ((q : Int) - 1)))]) hx hb d_Mo_divideBy_272 hl (by decide) rfl (fun ls hl => ?_)
                exact L274 _ 9999 hg _ _ _ (Nat.lt_succ_self _) (by omega) (by omega) (hP.sub (ws' := [(mo, .inr (8, [.int qc, .int (iZ (np : Int)), .ref ow, .ref om, .ref ok_, .ref oK, .ref og, .ref on_, .ref oh, .ref ox, .int qn, .int qf, .ref op_, .int ql])), (ow, .inl (cI, 108000, .inl (ovr (ovh fw t_ q (nd (val b) - nd (val c_) + 1) (val b / val c_)) b (nd (val b) + 1) (rmk (val b) (val c_) q)))), (om, .inl (cI, 9, .inl fm))]) [0, 1, 2] rfl) (hD.sub (ws' := [(mo, .inr (8, [.int qc, .int (iZ (np : Int)), .ref ow, .ref om, .ref ok_, .ref oK, .ref og, .ref on_, .ref oh, .ref ox, .int qn, .int qf, .ref op_, .int ql])), (ow, .inl (cI, 108000, .inl (ovr (ovh fw t_ q (nd (val b) - nd (val c_) + 1) (val b / val c_)) b (nd (val b) + 1) (rmk (val b) (val c_) q)))), (om, .inl (cI, 9, .inl fm))]) [0, 1, 2] (by decide) rfl) hS (lv_sub hl [2, 3, 4, 5, 6, 7, 8, 9, 1, 0] rfl)
    have v1 := dz_lt (val c_) (nd (val c_) - 1)
    have v2 := dz_lt (val c_) (nd (val c_) - 2)
    have v3 := dz_lt (val c_) (nd (val c_) - 3)
    refine lv_aload_n hx hb d_Mo_divideBy_31 rfl (lv_at hl 2 rfl) ?_
    refine va_get (D := D) (ci := 8) (v := .ref ow) (C := R_Mo) (T := F_Mo) (N := 14) hx hb hts i_Mo hown hK hP 0 rfl rfl 2 (by decide) (hts _ (big_in mw_1117 rfl)) (fun _ h9 => h9) rfl d_Mo_divideBy_32 ?_
    refine lv_sipush (v := iZ (12000)) hx hb d_Mo_divideBy_35 (by decide +kernel) ?_
    refine lv_iload_n hx hb d_Mo_divideBy_38 rfl (lv_at hl 4 rfl) ?_
    refine zz_imul hx hb d_Mo_divideBy_39 ?_
    refine lv_iload hx hb d_Mo_divideBy_40 (lv_at hl 0 rfl) ?_
    refine zz_iadd hx hb d_Mo_divideBy_42 ?_
    refine lv_iconst (v := iZ (0)) hx hb d_Mo_divideBy_43 (by decide +kernel) ?_
    refine zz_iast hx hb hK hP hD hS 1 0 rfl rfl (12000 * b + (nd (val b))) (by omega) (by omega) (by omega) d_Mo_divideBy_44 (fun H locs hP hD hS => ?_)
    have hP : va_P D cls0 [(mo, .inr (8, [.int qc, .int (iZ (np : Int)), .ref ow, .ref om, .ref ok_, .ref oK, .ref og, .ref on_, .ref oh, .ref ox, .int qn, .int qf, .ref op_, .int ql])), (ow, .inl (cI, 108000, .inl (upd fw (12000 * b + (nd (val b))) (iZ 0)))), (om, .inl (cI, 9, .inl fm))] H := hP
    have hD : va_D A [(mo, .inr (8, [.int qc, .int (iZ (np : Int)), .ref ow, .ref om, .ref ok_, .ref oK, .ref og, .ref on_, .ref oh, .ref ox, .int qn, .int qf, .ref op_, .int ql])), (ow, .inl (cI, 108000, .inl (upd fw (12000 * b + (nd (val b))) (iZ 0)))), (om, .inl (cI, 9, .inl fm))] := hD
    have e0 : upd fw (12000 * b + nd (val b)) (iZ 0) = ovr (ovh fw t_ (nd (val b) - nd (val c_) + 1) (nd (val b) - nd (val c_) + 1) (val b / val c_)) b (nd (val b) + 1) (rmk (val b) (val c_) (nd (val b) - nd (val c_) + 1)) := by rw [ovh_e, rmk_top hC0 (by omega)]; exact dv_in rfl (fun i hi => hW.d hb9 hi)
    rw [e0] at hP hD
    refine lv_aload_n hx hb d_Mo_divideBy_45 rfl (lv_at hl 2 rfl) ?_
    refine va_get (D := D) (ci := 8) (v := .ref ow) (C := R_Mo) (T := F_Mo) (N := 14) hx hb hts i_Mo hown hK hP 0 rfl rfl 2 (by decide) (hts _ (big_in mw_1117 rfl)) (fun _ h9 => h9) rfl d_Mo_divideBy_46 ?_
    refine lv_sipush (v := iZ (12000)) hx hb d_Mo_divideBy_49 (by decide +kernel) ?_
    refine lv_iload_n hx hb d_Mo_divideBy_52 rfl (lv_at hl 5 rfl) ?_
    refine zz_imul hx hb d_Mo_divideBy_53 ?_
    refine lv_iload hx hb d_Mo_divideBy_54 (lv_at hl 1 rfl) ?_
    refine zz_iadd hx hb d_Mo_divideBy_56 ?_
    refine lv_iconst (v := iZ (1)) hx hb d_Mo_divideBy_57 (by decide +kernel) ?_
    refine zz_isub hx hb d_Mo_divideBy_58 ?_
    refine zz_iald hx hb hK hP 1 0 rfl rfl (12000 * c_ + (nd (val c_) - 1)) (by omega) (by omega) (by omega) d_Mo_divideBy_59 ?_
    rw [ovr_out (by omega), ovh_out (by omega), hW.d hc9 (by omega)]
    refine zz_i2l hx hb d_Mo_divideBy_60 (by omega) ?_
    refine lv_ldc2 (v := lZ (100000000)) hx hb hown (hts _ (big_in mw_1202 rfl)) d_Mo_divideBy_61 ?_
    refine zz_lmul hx hb d_Mo_divideBy_64 ?_
    refine lv_iload hx hb d_Mo_divideBy_65 (lv_at hl 1 rfl) ?_
    refine lv_iconst (v := iZ (1)) hx hb d_Mo_divideBy_67 (by decide +kernel) ?_
    refine zz_icmp_le (tgt := 94) hx hb d_Mo_divideBy_68 (by decide) (by omega) (by omega) (fun c68 => ?_) (fun c68 => ?_)
    · refine lv_lconst (v := lZ (0)) hx hb d_Mo_divideBy_94 (by decide +kernel) ?_
      refine zz_ladd hx hb d_Mo_divideBy_95 ?_
      refine lv_iload hx hb d_Mo_divideBy_96 (lv_at hl 1 rfl) ?_
      refine lv_iconst (v := iZ (2)) hx hb d_Mo_divideBy_98 (by decide +kernel) ?_
      refine zz_icmp_le (tgt := 121) hx hb d_Mo_divideBy_99 (by decide) (by omega) (by omega) (fun c99 => ?_) (fun c99 => ?_)
      · refine lv_lconst (v := lZ (0)) hx hb d_Mo_divideBy_121 (by decide +kernel) ?_
        refine zz_ladd hx hb d_Mo_divideBy_122 ?_
        obtain ⟨ld, hld⟩ : ∃ x : Nat, x = hiN (val c_) (nd (val c_)) := ⟨_, rfl⟩
        have eld := hiN_3 (R := val c_) npos (nd_self _)
        rw [show ((dz (val c_) (nd (val c_) - 1) : Int) * 100000000 + 0 + 0 : Int) = (ld : Int) by rw [hld, eld]; first | (rw [if_pos (by omega), if_pos (by omega)]; omega) | (rw [if_pos (by omega), if_neg (by omega)]; omega) | (rw [if_neg (by omega), if_neg (by omega)]; omega)]
        have bld := hiN_lead npos rfl
        rw [← hld] at bld
        refine lv_lstore (lv' := [(6, .long (lZ (ld : Int))), (5, .int (iZ (nd (val b) : Int))), (4, .int (iZ (nd (val c_) : Int))), (0, .ref mo), (1, .int (iZ (t_ : Int))), (2, .int (iZ (b : Int))), (3, .int (iZ (c_ : Int)))]) hx hb d_Mo_divideBy_123 hl (by decide) rfl (fun ls hl => ?_)
        refine lv_iload hx hb d_Mo_divideBy_125 (lv_at hl 1 rfl) ?_
        refine lv_iload hx hb d_Mo_divideBy_127 (lv_at hl 2 rfl) ?_
        refine zz_isub hx hb d_Mo_divideBy_129 ?_
        refine lv_istore (lv' := [(8, .int (iZ ((nd (val b) : Int) - (nd (val c_) : Int)))), (6, .long (lZ (ld : Int))), (5, .int (iZ (nd (val b) : Int))), (4, .int (iZ (nd (val c_) : Int))), (0, .ref mo), (1, .int (iZ (t_ : Int))), (2, .int (iZ (b : Int))), (3, .int (iZ (c_ : Int)))]) hx hb d_Mo_divideBy_130 hl (by decide) rfl (fun ls hl => ?_)
        rw [show ((nd (val b) : Int) - (nd (val c_) : Int) : Int) = (((nd (val b) - nd (val c_) + 1) : Nat) : Int) - 1 by omega] at hl
        exact L132 _ (nd (val b) - nd (val c_) + 1) ld _ _ _ (Nat.lt_succ_self _) (Nat.le_refl _) hld bld (hP.sub (ws' := [(mo, .inr (8, [.int qc, .int (iZ (np : Int)), .ref ow, .ref om, .ref ok_, .ref oK, .ref og, .ref on_, .ref oh, .ref ox, .int qn, .int qf, .ref op_, .int ql])), (ow, .inl (cI, 108000, .inl (ovr (ovh fw t_ (nd (val b) - nd (val c_) + 1) (nd (val b) - nd (val c_) + 1) (val b / val c_)) b (nd (val b) + 1) (rmk (val b) (val c_) (nd (val b) - nd (val c_) + 1))))), (om, .inl (cI, 9, .inl fm))]) [0, 1, 2] rfl) (hD.sub (ws' := [(mo, .inr (8, [.int qc, .int (iZ (np : Int)), .ref ow, .ref om, .ref ok_, .ref oK, .ref og, .ref on_, .ref oh, .ref ox, .int qn, .int qf, .ref op_, .int ql])), (ow, .inl (cI, 108000, .inl (ovr (ovh fw t_ (nd (val b) - nd (val c_) + 1) (nd (val b) - nd (val c_) + 1) (val b / val c_)) b (nd (val b) + 1) (rmk (val b) (val c_) (nd (val b) - nd (val c_) + 1))))), (om, .inl (cI, 9, .inl fm))]) [0, 1, 2] (by decide) rfl) hS (lv_sub hl [4, 5, 6, 7, 3, 2, 1, 0] rfl)
      · refine lv_aload_n hx hb d_Mo_divideBy_102 rfl (lv_at hl 2 rfl) ?_
        refine va_get (D := D) (ci := 8) (v := .ref ow) (C := R_Mo) (T := F_Mo) (N := 14) hx hb hts i_Mo hown hK hP 0 rfl rfl 2 (by decide) (hts _ (big_in mw_1117 rfl)) (fun _ h9 => h9) rfl d_Mo_divideBy_103 ?_
        refine lv_sipush (v := iZ (12000)) hx hb d_Mo_divideBy_106 (by decide +kernel) ?_
        refine lv_iload_n hx hb d_Mo_divideBy_109 rfl (lv_at hl 5 rfl) ?_
        refine zz_imul hx hb d_Mo_divideBy_110 ?_
        refine lv_iload hx hb d_Mo_divideBy_111 (lv_at hl 1 rfl) ?_
        refine zz_iadd hx hb d_Mo_divideBy_113 ?_
        refine lv_iconst (v := iZ (3)) hx hb d_Mo_divideBy_114 (by decide +kernel) ?_
        refine zz_isub hx hb d_Mo_divideBy_115 ?_
        refine zz_iald hx hb hK hP 1 0 rfl rfl (12000 * c_ + (nd (val c_) - 3)) (by omega) (by omega) (by omega) d_Mo_divideBy_116 ?_
        rw [ovr_out (by omega), ovh_out (by omega), hW.d hc9 (by omega)]
        refine zz_i2l hx hb d_Mo_divideBy_117 (by omega) ?_
        refine lv_goto (tgt := 122) hx hb d_Mo_divideBy_118 (by decide) ?_
        refine zz_ladd hx hb d_Mo_divideBy_122 ?_
        obtain ⟨ld, hld⟩ : ∃ x : Nat, x = hiN (val c_) (nd (val c_)) := ⟨_, rfl⟩
        have eld := hiN_3 (R := val c_) npos (nd_self _)
        rw [show ((dz (val c_) (nd (val c_) - 1) : Int) * 100000000 + 0 + (dz (val c_) (nd (val c_) - 3) : Int) : Int) = (ld : Int) by rw [hld, eld]; first | (rw [if_pos (by omega), if_pos (by omega)]; omega) | (rw [if_pos (by omega), if_neg (by omega)]; omega) | (rw [if_neg (by omega), if_neg (by omega)]; omega)]
        have bld := hiN_lead npos rfl
        rw [← hld] at bld
        refine lv_lstore (lv' := [(6, .long (lZ (ld : Int))), (5, .int (iZ (nd (val b) : Int))), (4, .int (iZ (nd (val c_) : Int))), (0, .ref mo), (1, .int (iZ (t_ : Int))), (2, .int (iZ (b : Int))), (3, .int (iZ (c_ : Int)))]) hx hb d_Mo_divideBy_123 hl (by decide) rfl (fun ls hl => ?_)
        refine lv_iload hx hb d_Mo_divideBy_125 (lv_at hl 1 rfl) ?_
        refine lv_iload hx hb d_Mo_divideBy_127 (lv_at hl 2 rfl) ?_
        refine zz_isub hx hb d_Mo_divideBy_129 ?_
        refine lv_istore (lv' := [(8, .int (iZ ((nd (val b) : Int) - (nd (val c_) : Int)))), (6, .long (lZ (ld : Int))), (5, .int (iZ (nd (val b) : Int))), (4, .int (iZ (nd (val c_) : Int))), (0, .ref mo), (1, .int (iZ (t_ : Int))), (2, .int (iZ (b : Int))), (3, .int (iZ (c_ : Int)))]) hx hb d_Mo_divideBy_130 hl (by decide) rfl (fun ls hl => ?_)
        rw [show ((nd (val b) : Int) - (nd (val c_) : Int) : Int) = (((nd (val b) - nd (val c_) + 1) : Nat) : Int) - 1 by omega] at hl
        exact L132 _ (nd (val b) - nd (val c_) + 1) ld _ _ _ (Nat.lt_succ_self _) (Nat.le_refl _) hld bld (hP.sub (ws' := [(mo, .inr (8, [.int qc, .int (iZ (np : Int)), .ref ow, .ref om, .ref ok_, .ref oK, .ref og, .ref on_, .ref oh, .ref ox, .int qn, .int qf, .ref op_, .int ql])), (ow, .inl (cI, 108000, .inl (ovr (ovh fw t_ (nd (val b) - nd (val c_) + 1) (nd (val b) - nd (val c_) + 1) (val b / val c_)) b (nd (val b) + 1) (rmk (val b) (val c_) (nd (val b) - nd (val c_) + 1))))), (om, .inl (cI, 9, .inl fm))]) [0, 1, 2] rfl) (hD.sub (ws' := [(mo, .inr (8, [.int qc, .int (iZ (np : Int)), .ref ow, .ref om, .ref ok_, .ref oK, .ref og, .ref on_, .ref oh, .ref ox, .int qn, .int qf, .ref op_, .int ql])), (ow, .inl (cI, 108000, .inl (ovr (ovh fw t_ (nd (val b) - nd (val c_) + 1) (nd (val b) - nd (val c_) + 1) (val b / val c_)) b (nd (val b) + 1) (rmk (val b) (val c_) (nd (val b) - nd (val c_) + 1))))), (om, .inl (cI, 9, .inl fm))]) [0, 1, 2] (by decide) rfl) hS (lv_sub hl [4, 5, 6, 7, 3, 2, 1, 0] rfl)
    · refine lv_aload_n hx hb d_Mo_divideBy_71 rfl (lv_at hl 2 rfl) ?_
      refine va_get (D := D) (ci := 8) (v := .ref ow) (C := R_Mo) (T := F_Mo) (N := 14) hx hb hts i_Mo hown hK hP 0 rfl rfl 2 (by decide) (hts _ (big_in mw_1117 rfl)) (fun _ h9 => h9) rfl d_Mo_divideBy_72 ?_
      refine lv_sipush (v := iZ (12000)) hx hb d_Mo_divideBy_75 (by decide +kernel) ?_
      refine lv_iload_n hx hb d_Mo_divideBy_78 rfl (lv_at hl 5 rfl) ?_
      refine zz_imul hx hb d_Mo_divideBy_79 ?_
      refine lv_iload hx hb d_Mo_divideBy_80 (lv_at hl 1 rfl) ?_
      refine zz_iadd hx hb d_Mo_divideBy_82 ?_
      refine lv_iconst (v := iZ (2)) hx hb d_Mo_divideBy_83 (by decide +kernel) ?_
      refine zz_isub hx hb d_Mo_divideBy_84 ?_
      refine zz_iald hx hb hK hP 1 0 rfl rfl (12000 * c_ + (nd (val c_) - 2)) (by omega) (by omega) (by omega) d_Mo_divideBy_85 ?_
      rw [ovr_out (by omega), ovh_out (by omega), hW.d hc9 (by omega)]
      refine zz_i2l hx hb d_Mo_divideBy_86 (by omega) ?_
      refine lv_ldc2 (v := lZ (10000)) hx hb hown (hts _ (big_in mw_1181 rfl)) d_Mo_divideBy_87 ?_
      refine zz_lmul hx hb d_Mo_divideBy_90 ?_
      refine lv_goto (tgt := 95) hx hb d_Mo_divideBy_91 (by decide) ?_
      refine zz_ladd hx hb d_Mo_divideBy_95 ?_
      refine lv_iload hx hb d_Mo_divideBy_96 (lv_at hl 1 rfl) ?_
      refine lv_iconst (v := iZ (2)) hx hb d_Mo_divideBy_98 (by decide +kernel) ?_
      refine zz_icmp_le (tgt := 121) hx hb d_Mo_divideBy_99 (by decide) (by omega) (by omega) (fun c99 => ?_) (fun c99 => ?_)
      · refine lv_lconst (v := lZ (0)) hx hb d_Mo_divideBy_121 (by decide +kernel) ?_
        refine zz_ladd hx hb d_Mo_divideBy_122 ?_
        obtain ⟨ld, hld⟩ : ∃ x : Nat, x = hiN (val c_) (nd (val c_)) := ⟨_, rfl⟩
        have eld := hiN_3 (R := val c_) npos (nd_self _)
        rw [show ((dz (val c_) (nd (val c_) - 1) : Int) * 100000000 + ((dz (val c_) (nd (val c_) - 2) : Int) * 10000) + 0 : Int) = (ld : Int) by rw [hld, eld]; first | (rw [if_pos (by omega), if_pos (by omega)]; omega) | (rw [if_pos (by omega), if_neg (by omega)]; omega) | (rw [if_neg (by omega), if_neg (by omega)]; omega)]
        have bld := hiN_lead npos rfl
        rw [← hld] at bld
        refine lv_lstore (lv' := [(6, .long (lZ (ld : Int))), (5, .int (iZ (nd (val b) : Int))), (4, .int (iZ (nd (val c_) : Int))), (0, .ref mo), (1, .int (iZ (t_ : Int))), (2, .int (iZ (b : Int))), (3, .int (iZ (c_ : Int)))]) hx hb d_Mo_divideBy_123 hl (by decide) rfl (fun ls hl => ?_)
        refine lv_iload hx hb d_Mo_divideBy_125 (lv_at hl 1 rfl) ?_
        refine lv_iload hx hb d_Mo_divideBy_127 (lv_at hl 2 rfl) ?_
        refine zz_isub hx hb d_Mo_divideBy_129 ?_
        refine lv_istore (lv' := [(8, .int (iZ ((nd (val b) : Int) - (nd (val c_) : Int)))), (6, .long (lZ (ld : Int))), (5, .int (iZ (nd (val b) : Int))), (4, .int (iZ (nd (val c_) : Int))), (0, .ref mo), (1, .int (iZ (t_ : Int))), (2, .int (iZ (b : Int))), (3, .int (iZ (c_ : Int)))]) hx hb d_Mo_divideBy_130 hl (by decide) rfl (fun ls hl => ?_)
        rw [show ((nd (val b) : Int) - (nd (val c_) : Int) : Int) = (((nd (val b) - nd (val c_) + 1) : Nat) : Int) - 1 by omega] at hl
        exact L132 _ (nd (val b) - nd (val c_) + 1) ld _ _ _ (Nat.lt_succ_self _) (Nat.le_refl _) hld bld (hP.sub (ws' := [(mo, .inr (8, [.int qc, .int (iZ (np : Int)), .ref ow, .ref om, .ref ok_, .ref oK, .ref og, .ref on_, .ref oh, .ref ox, .int qn, .int qf, .ref op_, .int ql])), (ow, .inl (cI, 108000, .inl (ovr (ovh fw t_ (nd (val b) - nd (val c_) + 1) (nd (val b) - nd (val c_) + 1) (val b / val c_)) b (nd (val b) + 1) (rmk (val b) (val c_) (nd (val b) - nd (val c_) + 1))))), (om, .inl (cI, 9, .inl fm))]) [0, 1, 2] rfl) (hD.sub (ws' := [(mo, .inr (8, [.int qc, .int (iZ (np : Int)), .ref ow, .ref om, .ref ok_, .ref oK, .ref og, .ref on_, .ref oh, .ref ox, .int qn, .int qf, .ref op_, .int ql])), (ow, .inl (cI, 108000, .inl (ovr (ovh fw t_ (nd (val b) - nd (val c_) + 1) (nd (val b) - nd (val c_) + 1) (val b / val c_)) b (nd (val b) + 1) (rmk (val b) (val c_) (nd (val b) - nd (val c_) + 1))))), (om, .inl (cI, 9, .inl fm))]) [0, 1, 2] (by decide) rfl) hS (lv_sub hl [4, 5, 6, 7, 3, 2, 1, 0] rfl)
      · refine lv_aload_n hx hb d_Mo_divideBy_102 rfl (lv_at hl 2 rfl) ?_
        refine va_get (D := D) (ci := 8) (v := .ref ow) (C := R_Mo) (T := F_Mo) (N := 14) hx hb hts i_Mo hown hK hP 0 rfl rfl 2 (by decide) (hts _ (big_in mw_1117 rfl)) (fun _ h9 => h9) rfl d_Mo_divideBy_103 ?_
        refine lv_sipush (v := iZ (12000)) hx hb d_Mo_divideBy_106 (by decide +kernel) ?_
        refine lv_iload_n hx hb d_Mo_divideBy_109 rfl (lv_at hl 5 rfl) ?_
        refine zz_imul hx hb d_Mo_divideBy_110 ?_
        refine lv_iload hx hb d_Mo_divideBy_111 (lv_at hl 1 rfl) ?_
        refine zz_iadd hx hb d_Mo_divideBy_113 ?_
        refine lv_iconst (v := iZ (3)) hx hb d_Mo_divideBy_114 (by decide +kernel) ?_
        refine zz_isub hx hb d_Mo_divideBy_115 ?_
        refine zz_iald hx hb hK hP 1 0 rfl rfl (12000 * c_ + (nd (val c_) - 3)) (by omega) (by omega) (by omega) d_Mo_divideBy_116 ?_
        rw [ovr_out (by omega), ovh_out (by omega), hW.d hc9 (by omega)]
        refine zz_i2l hx hb d_Mo_divideBy_117 (by omega) ?_
        refine lv_goto (tgt := 122) hx hb d_Mo_divideBy_118 (by decide) ?_
        refine zz_ladd hx hb d_Mo_divideBy_122 ?_
        obtain ⟨ld, hld⟩ : ∃ x : Nat, x = hiN (val c_) (nd (val c_)) := ⟨_, rfl⟩
        have eld := hiN_3 (R := val c_) npos (nd_self _)
        rw [show ((dz (val c_) (nd (val c_) - 1) : Int) * 100000000 + ((dz (val c_) (nd (val c_) - 2) : Int) * 10000) + (dz (val c_) (nd (val c_) - 3) : Int) : Int) = (ld : Int) by rw [hld, eld]; first | (rw [if_pos (by omega), if_pos (by omega)]; omega) | (rw [if_pos (by omega), if_neg (by omega)]; omega) | (rw [if_neg (by omega), if_neg (by omega)]; omega)]
        have bld := hiN_lead npos rfl
        rw [← hld] at bld
        refine lv_lstore (lv' := [(6, .long (lZ (ld : Int))), (5, .int (iZ (nd (val b) : Int))), (4, .int (iZ (nd (val c_) : Int))), (0, .ref mo), (1, .int (iZ (t_ : Int))), (2, .int (iZ (b : Int))), (3, .int (iZ (c_ : Int)))]) hx hb d_Mo_divideBy_123 hl (by decide) rfl (fun ls hl => ?_)
        refine lv_iload hx hb d_Mo_divideBy_125 (lv_at hl 1 rfl) ?_
        refine lv_iload hx hb d_Mo_divideBy_127 (lv_at hl 2 rfl) ?_
        refine zz_isub hx hb d_Mo_divideBy_129 ?_
        refine lv_istore (lv' := [(8, .int (iZ ((nd (val b) : Int) - (nd (val c_) : Int)))), (6, .long (lZ (ld : Int))), (5, .int (iZ (nd (val b) : Int))), (4, .int (iZ (nd (val c_) : Int))), (0, .ref mo), (1, .int (iZ (t_ : Int))), (2, .int (iZ (b : Int))), (3, .int (iZ (c_ : Int)))]) hx hb d_Mo_divideBy_130 hl (by decide) rfl (fun ls hl => ?_)
        rw [show ((nd (val b) : Int) - (nd (val c_) : Int) : Int) = (((nd (val b) - nd (val c_) + 1) : Nat) : Int) - 1 by omega] at hl
        exact L132 _ (nd (val b) - nd (val c_) + 1) ld _ _ _ (Nat.lt_succ_self _) (Nat.le_refl _) hld bld (hP.sub (ws' := [(mo, .inr (8, [.int qc, .int (iZ (np : Int)), .ref ow, .ref om, .ref ok_, .ref oK, .ref og, .ref on_, .ref oh, .ref ox, .int qn, .int qf, .ref op_, .int ql])), (ow, .inl (cI, 108000, .inl (ovr (ovh fw t_ (nd (val b) - nd (val c_) + 1) (nd (val b) - nd (val c_) + 1) (val b / val c_)) b (nd (val b) + 1) (rmk (val b) (val c_) (nd (val b) - nd (val c_) + 1))))), (om, .inl (cI, 9, .inl fm))]) [0, 1, 2] rfl) (hD.sub (ws' := [(mo, .inr (8, [.int qc, .int (iZ (np : Int)), .ref ow, .ref om, .ref ok_, .ref oK, .ref og, .ref on_, .ref oh, .ref ox, .int qn, .int qf, .ref op_, .int ql])), (ow, .inl (cI, 108000, .inl (ovr (ovh fw t_ (nd (val b) - nd (val c_) + 1) (nd (val b) - nd (val c_) + 1) (val b / val c_)) b (nd (val b) + 1) (rmk (val b) (val c_) (nd (val b) - nd (val c_) + 1))))), (om, .inl (cI, 9, .inl fm))]) [0, 1, 2] (by decide) rfl) hS (lv_sub hl [4, 5, 6, 7, 3, 2, 1, 0] rfl)
  · refine lv_aload_n hx hb d_Mo_divideBy_23 rfl (lv_at hl 2 rfl) ?_
    refine va_get (D := D) (ci := 8) (v := .ref om) (C := R_Mo) (T := F_Mo) (N := 14) hx hb hts i_Mo hown hK hP 0 rfl rfl 3 (by decide) (hts _ (big_in mw_1118 rfl)) (fun _ h9 => h9) rfl d_Mo_divideBy_24 ?_
    refine lv_iload_n hx hb d_Mo_divideBy_27 rfl (lv_at hl 3 rfl) ?_
    refine lv_iconst (v := iZ (0)) hx hb d_Mo_divideBy_28 (by decide +kernel) ?_
    refine zz_iast hx hb hK hP hD hS 2 0 rfl rfl (t_) (by omega) (by omega) (by omega) d_Mo_divideBy_29 (fun H locs hP hD hS => ?_)
    have hP : va_P D cls0 [(mo, .inr (8, [.int qc, .int (iZ (np : Int)), .ref ow, .ref om, .ref ok_, .ref oK, .ref og, .ref on_, .ref oh, .ref ox, .int qn, .int qf, .ref op_, .int ql])), (ow, .inl (cI, 108000, .inl fw)), (om, .inl (cI, 9, .inl (upd fm t_ (iZ 0))))] H := hP
    have hD : va_D A [(mo, .inr (8, [.int qc, .int (iZ (np : Int)), .ref ow, .ref om, .ref ok_, .ref oK, .ref og, .ref on_, .ref oh, .ref ox, .int qn, .int qf, .ref op_, .int ql])), (ow, .inl (cI, 108000, .inl fw)), (om, .inl (cI, 9, .inl (upd fm t_ (iZ 0))))] := hD
    have hP9 : va_P D cls0 [(mo, .inr (8, [.int qc, .int (iZ (np : Int)), .ref ow, .ref om, .ref ok_, .ref oK, .ref og, .ref on_, .ref oh, .ref ox, .int qn, .int qf, .ref op_, .int ql])), (ow, .inl (cI, 108000, .inl fw)), (om, .inl (cI, 9, .inl (upd fm t_ (iZ 0))))] H := hP.sub [0, 1, 2] rfl
    have hD9 : va_D A [(mo, .inr (8, [.int qc, .int (iZ (np : Int)), .ref ow, .ref om, .ref ok_, .ref oK, .ref og, .ref on_, .ref oh, .ref ox, .int qn, .int qf, .ref op_, .int ql])), (ow, .inl (cI, 108000, .inl fw)), (om, .inl (cI, 9, .inl (upd fm t_ (iZ 0))))] := hD.sub [0, 1, 2] (by decide) rfl
    rw [hQ, ← hAe]
    refine r_v K (fw, upd fm t_ (iZ 0)) hS d_Mo_divideBy_30 ?_ (fun t ht hv => ?_)
    · try dsimp only
      have hlt : val b < val c_ := nd_neq (by omega)
      refine ⟨rfl, ?_⟩
      rw [Nat.div_eq_of_lt hlt, Nat.mod_eq_of_lt hlt, up_keep (fun z => htb z.symm)]
      have z := hW.set (b := t_) (n := 0) (V := 0) (x := iZ 0) (by rw [nd_0]; exact Nat.le_refl _) (by omega) rfl
      rw [ovr_0] at z
      exact z
    · exact ⟨by rw [ht]; exact hP9, va_K.moved hv hK, by rw [← hAe]; exact hD9⟩
