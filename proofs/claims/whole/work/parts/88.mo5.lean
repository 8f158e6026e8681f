/-! dividing, place by place -/
def kT (R f C j : Nat) : Int := ((R % tB j : Nat) : Int) - ((f * (C % tB j) : Nat) : Int)
theorem kT_s (R f C j : Nat) : kT R f C (j + 1) = kT R f C j + (tB j : Int) * ((dz R j : Int) - ((f * dz C j : Nat) : Int)) := by
  unfold kT
  rw [md_s, md_s, Nat.mul_add, Nat.mul_left_comm f, Int.mul_sub, ← Int.natCast_mul, ← Int.natCast_mul]
  omega
theorem kT_v (R f C j : Nat) : kT R f C (j + 1) / (tB j : Int) = (dz R j : Int) - ((f * dz C j : Nat) : Int) + kT R f C j / (tB j : Int) := by
  have hp : (tB j : Int) ≠ 0 := by have := tB_pos j; omega
  rw [kT_s, Int.add_mul_ediv_left _ _ hp]
  omega
theorem kT_n (R f C j : Nat) : kT R f C (j + 1) / (tB (j + 1) : Int) = kT R f C (j + 1) / (tB j : Int) / 10000 := by
  rw [tB_s, Int.natCast_mul, Int.ediv_ediv_of_nonneg (by have := tB_pos j; omega)]
  rfl
theorem kT_b (R f C j : Nat) : -(f : Int) ≤ kT R f C j / (tB j : Int) ∧ kT R f C j / (tB j : Int) ≤ 0 := by
  have hp := tB_pos j
  have h1 := Nat.mod_lt R hp
  have h2 : f * (C % tB j) ≤ f * tB j := Nat.mul_le_mul_left _ (Nat.le_of_lt (Nat.mod_lt C hp))
  constructor
  · rw [Int.le_ediv_iff_mul_le (by omega)]
    unfold kT
    rw [Int.neg_mul, ← Int.natCast_mul]
    omega
  · have : kT R f C j / (tB j : Int) < 1 := by
      rw [Int.ediv_lt_iff_lt_mul (by omega)]
      unfold kT
      omega
    omega
theorem kT_0 (R f C : Nat) : kT R f C 0 / (tB 0 : Int) = 0 := by
  unfold kT
  rw [tB_0, Nat.mod_one, Nat.mod_one, Nat.mul_zero]; rfl
theorem md_dv (x y : Nat) : (x : Int) - (x % y : Nat) = (y : Int) * (x / y : Nat) := by
  have := Nat.div_add_mod x y
  rw [← Int.natCast_mul]
  omega
/-- what is left in n + 1 places -/
def wW (R f C n : Nat) : Nat := (((R : Int) - ((f * C : Nat) : Int)) % (tB (n + 1) : Int)).toNat
theorem wW_z (R f C n : Nat) : (wW R f C n : Int) = ((R : Int) - ((f * C : Nat) : Int)) % (tB (n + 1) : Int) := by
  unfold wW
  exact Int.toNat_of_nonneg (Int.emod_nonneg _ (by have := tB_pos (n + 1); omega))
theorem wW_lt (R f C n : Nat) : wW R f C n < tB (n + 1) := by
  have h := wW_z R f C n
  have := Int.emod_lt_of_pos ((R : Int) - ((f * C : Nat) : Int)) (show (0 : Int) < (tB (n + 1) : Int) by have := tB_pos (n + 1); omega)
  omega
theorem kT_E (R f C j : Nat) : ∃ X : Int, (R : Int) - ((f * C : Nat) : Int) = kT R f C j + (tB j : Int) * X := by
  refine ⟨((R / tB j : Nat) : Int) - (f : Int) * ((C / tB j : Nat) : Int), ?_⟩
  have h1 := md_dv R (tB j)
  have h2 := md_dv C (tB j)
  unfold kT
  rw [Int.natCast_mul, Int.natCast_mul, Int.mul_sub, Int.mul_left_comm, ← h1, ← h2, Int.mul_sub]
  omega
theorem wW_dz {R f C n j : Nat} (hj : j ≤ n) : (dz (wW R f C n) j : Int) = kT R f C (j + 1) / (tB j : Int) % 10000 := by
  have hp : (0 : Int) < (tB j : Int) := by have := tB_pos j; omega
  obtain ⟨X, hX⟩ := kT_E R f C (j + 1)
  have hY : ∃ Y : Int, (wW R f C n : Int) = kT R f C (j + 1) + (tB (j + 1) : Int) * Y := by
    have e : (tB (n + 1) : Int) = (tB (j + 1) : Int) * (tB (n - j) : Int) := by rw [← Int.natCast_mul, ← tB_add, show j + 1 + (n - j) = n + 1 by omega]
    refine ⟨X - (tB (n - j) : Int) * (((R : Int) - ((f * C : Nat) : Int)) / (tB (n + 1) : Int)), ?_⟩
    have h2 := Int.emod_add_mul_ediv ((R : Int) - ((f * C : Nat) : Int)) (tB (n + 1) : Int)
    rw [wW_z, Int.mul_sub, ← Int.mul_assoc, ← e]
    omega
  obtain ⟨Y, hY⟩ := hY
  unfold dz
  rw [Int.natCast_emod, Int.natCast_ediv, hY, tB_s, Int.natCast_mul, Int.mul_assoc, Int.add_mul_ediv_left _ _ (by omega)]
  show (_ + 10000 * Y) % 10000 = _
  omega
theorem wW_back {R f C n : Nat} (hR : R < tB (n + 1)) : (wW R f C n + f * C) % tB (n + 1) = R := by
  have h2 := Int.emod_add_mul_ediv ((R : Int) - ((f * C : Nat) : Int)) (tB (n + 1) : Int)
  rw [← wW_z] at h2
  have e : ((wW R f C n + f * C : Nat) : Int) = (R : Int) + (tB (n + 1) : Int) * (-(((R : Int) - ((f * C : Nat) : Int)) / (tB (n + 1) : Int))) := by
    rw [Int.mul_neg]
    omega
  have e2 : ((((wW R f C n + f * C) % tB (n + 1) : Nat)) : Int) = (R : Int) := by
    rw [Int.natCast_emod, e, Int.add_mul_emod_self_left]
    exact Int.emod_eq_of_lt (by omega) (by omega)
  omega
theorem wW_ok {R f C n : Nat} (hR : R < tB (n + 1)) (h : f * C ≤ R) : wW R f C n = R - f * C := by
  have h1 := wW_z R f C n
  rw [Int.emod_eq_of_lt (by omega) (by omega)] at h1
  omega
theorem kT_end {R f C n : Nat} (hR : R < tB (n + 1)) (hC : nd C ≤ n + 1) : kT R f C (n + 1) / (tB (n + 1) : Int) = 0 ↔ f * C ≤ R := by
  have hp : (0 : Int) < (tB (n + 1) : Int) := by have := tB_pos (n + 1); omega
  have e : kT R f C (n + 1) = (R : Int) - ((f * C : Nat) : Int) := by unfold kT; rw [Nat.mod_eq_of_lt hR, md_full hC]
  rw [e]
  constructor
  · intro h
    have h2 := Int.emod_add_mul_ediv ((R : Int) - ((f * C : Nat) : Int)) (tB (n + 1) : Int)
    have h3 := Int.emod_nonneg ((R : Int) - ((f * C : Nat) : Int)) (show (tB (n + 1) : Int) ≠ 0 by omega)
    rw [h, Int.mul_zero] at h2
    omega
  · intro h
    exact Int.ediv_eq_zero_of_lt (by omega) (by omega)
theorem tm_em (v : Int) : (v.tmod 10000 < 0 ∧ v.tmod 10000 + 10000 = v % 10000) ∨ (0 ≤ v.tmod 10000 ∧ v.tmod 10000 = v % 10000) := by
  rcases (show 0 ≤ v ∨ v < 0 by omega) with h | h
  · right
    rw [Int.tmod_eq_emod_of_nonneg h]
    omega
  · obtain ⟨w, rfl⟩ : ∃ w, v = -w := ⟨-v, by omega⟩
    rw [Int.neg_tmod, Int.tmod_eq_emod_of_nonneg (by omega)]
    omega
/-- a number whose places from k on are W -/
def jn2 (U k W : Nat) : Nat := U % tB k + tB k * W
theorem jn2_lo {U k W m : Nat} (h : m < k) : dz U m = dz (jn2 U k W) m := dz_low (by unfold jn2; rw [Nat.add_mul_mod_self_left, Nat.mod_mod]) h
theorem jn2_hi (U k W j : Nat) : dz (jn2 U k W) (k + j) = dz W j := by
  rw [← dz_shift]
  unfold jn2
  rw [Nat.add_mul_div_left _ _ (tB_pos k), Nat.div_eq_of_lt (Nat.mod_lt _ (tB_pos k)), Nat.zero_add]
theorem jn2_lt {U k W n : Nat} (h : W < tB n) : jn2 U k W < tB (k + n) := by
  have h1 := Nat.mod_lt U (tB_pos k)
  have h2 : tB k * (W + 1) ≤ tB k * tB n := Nat.mul_le_mul_left _ h
  unfold jn2
  rw [tB_add]
  rw [Nat.mul_add, Nat.mul_one] at h2
  omega
theorem jn2_id (U k : Nat) : jn2 U k (U / tB k) = U := by
  unfold jn2
  have := Nat.div_add_mod U (tB k)
  omega
theorem jn2_sub {U k x : Nat} (h : x ≤ U / tB k) : jn2 U k (U / tB k - x) = U - x * tB k := by
  unfold jn2
  have h1 := Nat.div_add_mod U (tB k)
  have h2 : tB k * x ≤ tB k * (U / tB k) := Nat.mul_le_mul_left _ h
  rw [Nat.mul_sub, Nat.mul_comm x]
  omega
theorem hi_lt {U k n : Nat} (h : U < tB (k + n)) : U / tB k < tB n := Nat.div_lt_of_lt_mul (by rw [← tB_add]; exact h)
set_option maxHeartbeats 4000000 in
set_option maxRecDepth 100000 in
/-- takes(b, c, k, f) -/
theorem c_Mo_takes (l : Launch) (D : va_G) (mo : Nat) (qc : Int32) (np : Nat) (ow : Nat) (om : Nat) (ok_ : Nat) (oK : Nat) (og : Nat) (on_ : Nat) (oh : Nat) (ox : Nat) (qn : Int32) (qf : Int32) (op_ : Nat) (ql : Int32) (fx : Nat → Int32) (fm : Nat → Int32) (cI : ClassId) (b : Nat) (c_ : Nat) (k : Nat) (f : Nat) (L : Nat) (U : Nat) (C : Nat) (sz : Nat) (hb9 : b < 9) (hc9 : c_ < 9) (hbc : b ≠ c_) (hm : fm c_ = iZ (nd C : Int)) (hC : ∀ j, j < nd C → fx (12000 * c_ + j) = iZ (dz C j : Int)) (hk : k + nd C + 1 ≤ L) (hL : L ≤ 12000) (hU : U < tB (k + (nd C + 1))) (hf : f ≤ 9999) : Met l y_Mo_takes (wsB y_Mo_takes b_Mo_takes 10 (some .boolean)) ({ frames := 0, cells := 0, slots := 0, locals := 0 }) (va_Pc [.ref mo, .int (iZ (b : Int)), .int (iZ (c_ : Int)), .int (iZ (k : Int)), .int (iZ (f : Int))] (wPre D [(cI, .int)] [(mo, .inr (8, [.int qc, .int (iZ (np : Int)), .ref ow, .ref om, .ref ok_, .ref oK, .ref og, .ref on_, .ref oh, .ref ox, .int qn, .int qf, .ref op_, .int ql])), (ow, .inl (cI, 108000, .inl (ovr fx b L U))), (om, .inl (cI, 9, .inl fm))] sz)) (va_QV (fun (v_9 : Option Value) (u_9 : Int × (Nat → Int32)) => v_9 = some (.int (iZ u_9.1)) ∧ ((u_9.1 = 1 ∧ f * C ≤ U / tB k ∧ u_9.2 = ovr fx b L (U - f * C * tB k)) ∨ (u_9.1 = 0 ∧ U / tB k < f * C ∧ u_9.2 = ovr fx b L U))) (fun u_9 => wPost D [(cI, .int)] [(mo, .inr (8, [.int qc, .int (iZ (np : Int)), .ref ow, .ref om, .ref ok_, .ref oK, .ref og, .ref on_, .ref oh, .ref ox, .int qn, .int qf, .ref op_, .int ql])), (ow, .inl (cI, 108000, .inl (ovr fx b L U))), (om, .inl (cI, 9, .inl fm))] [(mo, .inr (8, [.int qc, .int (iZ (np : Int)), .ref ow, .ref om, .ref ok_, .ref oK, .ref og, .ref on_, .ref oh, .ref ox, .int qn, .int qf, .ref op_, .int ql])), (ow, .inl (cI, 108000, .inl u_9.2)), (om, .inl (cI, 9, .inl fm))] sz) (va_A [(mo, .inr (8, [.int qc, .int (iZ (np : Int)), .ref ow, .ref om, .ref ok_, .ref oK, .ref og, .ref on_, .ref oh, .ref ox, .int qn, .int qf, .ref op_, .int ql])), (ow, .inl (cI, 108000, .inl (ovr fx b L U))), (om, .inl (cI, 9, .inl fm))] sz)) 0 0 (va_A [(mo, .inr (8, [.int qc, .int (iZ (np : Int)), .ref ow, .ref om, .ref ok_, .ref oK, .ref og, .ref on_, .ref oh, .ref ox, .int qn, .int qf, .ref op_, .int ql])), (ow, .inl (cI, 108000, .inl (ovr fx b L U))), (om, .inl (cI, 9, .inl fm))] sz) := by
  refine met_enter (by decide +kernel) (Nat.le_of_ble_eq_true rfl) ?_
  intro p e s m args below meth c ls A R Q H locs K hin hAe hA hR hQ hP hK hD hS hl
  obtain ⟨hx, hb, hml, hrt, hlk, hts, hown, hno⟩ := id K
  have hl : lv_has ls 10 [(0, .ref mo), (1, .int (iZ (b : Int))), (2, .int (iZ (c_ : Int))), (3, .int (iZ (k : Int))), (4, .int (iZ (f : Int)))] := hl
  refine lv_iconst (v := iZ (0)) hx hb d_Mo_takes_0 (by decide +kernel) ?_
  refine lv_istore (lv' := [(5, .int (iZ 0)), (0, .ref mo), (1, .int (iZ (b : Int))), (2, .int (iZ (c_ : Int))), (3, .int (iZ (k : Int))), (4, .int (iZ (f : Int)))]) hx hb d_Mo_takes_1 hl (by decide) rfl (fun ls hl => ?_)
  refine lv_aload_n hx hb d_Mo_takes_3 rfl (lv_at hl 1 rfl) ?_
  refine va_get (D := D) (ci := 8) (v := .ref om) (C := R_Mo) (T := F_Mo) (N := 14) hx hb hts i_Mo hown hK hP 0 rfl rfl 3 (by decide) (hts _ (big_in mw_1118 rfl)) (fun _ h9 => h9) rfl d_Mo_takes_4 ?_
  refine lv_iload_n hx hb d_Mo_takes_7 rfl (lv_at hl 3 rfl) ?_
  refine zz_iald hx hb hK hP 2 0 rfl rfl (c_) (by omega) (by omega) (by omega) d_Mo_takes_8 ?_
  rw [hm]
  refine lv_istore (lv' := [(6, .int (iZ (nd C : Int))), (5, .int (iZ 0)), (0, .ref mo), (1, .int (iZ (b : Int))), (2, .int (iZ (c_ : Int))), (3, .int (iZ (k : Int))), (4, .int (iZ (f : Int)))]) hx hb d_Mo_takes_9 hl (by decide) rfl (fun ls hl => ?_)
  rw [ovr_same (X := ovr fx b L U) (t := b) (i := k + 0) (Q := (jn2 U k (wW (U / tB k) f C (nd C)))) (fun m hm => by rw [ovr_in (by omega), jn2_lo (U := U) (k := k) (W := wW (U / tB k) f C (nd C)) (by omega)])] at hP hD
  refine lv_iconst (v := iZ (0)) hx hb d_Mo_takes_11 (by decide +kernel) ?_
  refine lv_istore (lv' := [(7, .int (iZ 0)), (6, .int (iZ (nd C : Int))), (5, .int (iZ 0)), (0, .ref mo), (1, .int (iZ (b : Int))), (2, .int (iZ (c_ : Int))), (3, .int (iZ (k : Int))), (4, .int (iZ (f : Int)))]) hx hb d_Mo_takes_12 hl (by decide) rfl (fun ls hl => ?_)
  have L14 : ∀ (N : Nat) (j : Nat) (bw : Nat) (H : Heap) (locs : List Loc) (ls : Array Slot), nd C + 1 - j < N → (j ≤ nd C + 1) → ((bw : Int) = -(kT (U / tB k) f C j / (tB j : Int))) → va_P D cls0 [(mo, .inr (8, [.int qc, .int (iZ (np : Int)), .ref ow, .ref om, .ref ok_, .ref oK, .ref og, .ref on_, .ref oh, .ref ox, .int qn, .int qf, .ref op_, .int ql])), (ow, .inl (cI, 108000, .inl (ovr (ovr fx b L U) b (k + j) (jn2 U k (wW (U / tB k) f C (nd C)))))), (om, .inl (cI, 9, .inl fm))] H → va_D A [(mo, .inr (8, [.int qc, .int (iZ (np : Int)), .ref ow, .ref om, .ref ok_, .ref oK, .ref og, .ref on_, .ref oh, .ref ox, .int qn, .int qf, .ref op_, .int ql])), (ow, .inl (cI, 108000, .inl (ovr (ovr fx b L U) b (k + j) (jn2 U k (wW (U / tB k) f C (nd C)))))), (om, .inl (cI, 9, .inl fm))] → va_S A s.heap H locs → lv_has ls 10 [(0, .ref mo), (1, .int (iZ (b : Int))), (2, .int (iZ (c_ : Int))), (3, .int (iZ (k : Int))), (4, .int (iZ (f : Int))), (5, .int (iZ (bw : Int))), (6, .int (iZ (nd C : Int))), (7, .int (iZ (j : Int)))] → W p l e R s m args below meth c H locs 0 0 Q (F0 m 14 ls []) := by
    intro N
    induction N with
    | zero => intro j bw H locs ls hN; exact absurd hN (Nat.not_lt_zero _)
    | succ N ih =>
      intro j bw H locs ls hN ij ibw hP hD hS hl
      refine lv_iload hx hb d_Mo_takes_14 (lv_at hl 7 rfl) ?_
      refine lv_iload hx hb d_Mo_takes_16 (lv_at hl 6 rfl) ?_
      refine zz_icmp_gt (tgt := 129) hx hb d_Mo_takes_18 (by decide) (by omega) (by omega) (fun c18 => ?_) (fun c18 => ?_)
      · have ej : j = nd C + 1 := by omega
        subst ej
        rw [ovr_two (by omega) (fun m h1 h2 => by rw [dz_hi (nd_le.mpr (Nat.lt_of_lt_of_le hU (tB_le (by omega)))), dz_hi (nd_le.mpr (Nat.lt_of_lt_of_le (jn2_lt (wW_lt _ _ _ _)) (tB_le (by omega))))])] at hP hD
        have ke := kT_end (f := f) (hi_lt hU) (Nat.le_succ (nd C))
        have kbe := kT_b (U / tB k) f C (nd C + 1)
        refine lv_iload hx hb d_Mo_takes_129 (lv_at hl 5 rfl) ?_
        refine zz_if_ne (tgt := 136) hx hb d_Mo_takes_131 (by decide) (by omega) (fun c131 => ?_) (fun c131 => ?_)
        · have hlt : U / tB k < f * C := Nat.lt_of_not_le (fun q => by have q2 := ke.mpr q; omega)
          rw [ovr_same (X := ovr fx b L (jn2 U k (wW (U / tB k) f C (nd C)))) (t := b) (i := k + 0) (Q := U) (fun m hm => by rw [ovr_in (by omega), jn2_lo (U := U) (k := k) (W := wW (U / tB k) f C (nd C)) (by omega)])] at hP hD
          refine lv_iconst (v := iZ (0)) hx hb d_Mo_takes_136 (by decide +kernel) ?_
          refine lv_istore (lv' := [(7, .int (iZ 0)), (0, .ref mo), (1, .int (iZ (b : Int))), (2, .int (iZ (c_ : Int))), (3, .int (iZ (k : Int))), (4, .int (iZ (f : Int))), (5, .int (iZ (bw : Int))), (6, .int (iZ (nd C : Int)))]) hx hb d_Mo_takes_137 hl (by decide) rfl (fun ls hl => ?_)
          refine lv_iconst (v := iZ (0)) hx hb d_Mo_takes_139 (by decide +kernel) ?_
          refine lv_istore (lv' := [(8, .int (iZ 0)), (7, .int (iZ 0)), (0, .ref mo), (1, .int (iZ (b : Int))), (2, .int (iZ (c_ : Int))), (3, .int (iZ (k : Int))), (4, .int (iZ (f : Int))), (5, .int (iZ (bw : Int))), (6, .int (iZ (nd C : Int)))]) hx hb d_Mo_takes_140 hl (by decide) rfl (fun ls hl => ?_)
          have L142 : ∀ (N : Nat) (j : Nat) (cy : Nat) (H : Heap) (locs : List Loc) (ls : Array Slot), nd C + 1 - j < N → (j ≤ nd C + 1) → (cy = pT (wW (U / tB k) f C (nd C)) f C j / tB j) → (cy ≤ 9999) → va_P D cls0 [(mo, .inr (8, [.int qc, .int (iZ (np : Int)), .ref ow, .ref om, .ref ok_, .ref oK, .ref og, .ref on_, .ref oh, .ref ox, .int qn, .int qf, .ref op_, .int ql])), (ow, .inl (cI, 108000, .inl (ovr (ovr fx b L (jn2 U k (wW (U / tB k) f C (nd C)))) b (k + j) U))), (om, .inl (cI, 9, .inl fm))] H → va_D A [(mo, .inr (8, [.int qc, .int (iZ (np : Int)), .ref ow, .ref om, .ref ok_, .ref oK, .ref og, .ref on_, .ref oh, .ref ox, .int qn, .int qf, .ref op_, .int ql])), (ow, .inl (cI, 108000, .inl (ovr (ovr fx b L (jn2 U k (wW (U / tB k) f C (nd C)))) b (k + j) U))), (om, .inl (cI, 9, .inl fm))] → va_S A s.heap H locs → lv_has ls 10 [(0, .ref mo), (1, .int (iZ (b : Int))), (2, .int (iZ (c_ : Int))), (3, .int (iZ (k : Int))), (4, .int (iZ (f : Int))), (6, .int (iZ (nd C : Int))), (7, .int (iZ (cy : Int))), (8, .int (iZ (j : Int)))] → W p l e R s m args below meth c H locs 0 0 Q (F0 m 142 ls []) := by
            intro N
            induction N with
            | zero => intro j cy H locs ls hN; exact absurd hN (Nat.not_lt_zero _)
            | succ N ih_L142 =>
              intro j cy H locs ls hN ij icy icb hP hD hS hl
              refine lv_iload hx hb d_Mo_takes_142 (lv_at hl 7 rfl) ?_
              refine lv_iload hx hb d_Mo_takes_144 (lv_at hl 5 rfl) ?_
              refine zz_icmp_gt (tgt := 232) hx hb d_Mo_takes_146 (by decide) (by omega) (by omega) (fun c146 => ?_) (fun c146 => ?_)
              · have ej : j = nd C + 1 := by omega
                subst ej
                rw [ovr_two (by omega) (fun m h1 h2 => by rw [dz_hi (nd_le.mpr (Nat.lt_of_lt_of_le hU (tB_le (by omega)))), dz_hi (nd_le.mpr (Nat.lt_of_lt_of_le (jn2_lt (wW_lt _ _ _ _)) (tB_le (by omega))))])] at hP hD
                refine lv_iconst (v := iZ (0)) hx hb d_Mo_takes_232 (by decide +kernel) ?_
                have hP9 : va_P D cls0 [(mo, .inr (8, [.int qc, .int (iZ (np : Int)), .ref ow, .ref om, .ref ok_, .ref oK, .ref og, .ref on_, .ref oh, .ref ox, .int qn, .int qf, .ref op_, .int ql])), (ow, .inl (cI, 108000, .inl (ovr fx b L U))), (om, .inl (cI, 9, .inl fm))] H := hP.sub [0, 1, 2] rfl
                have hD9 : va_D A [(mo, .inr (8, [.int qc, .int (iZ (np : Int)), .ref ow, .ref om, .ref ok_, .ref oK, .ref og, .ref on_, .ref oh, .ref ox, .int qn, .int qf, .ref op_, .int ql])), (ow, .inl (cI, 108000, .inl (ovr fx b L U))), (om, .inl (cI, 9, .inl fm))] := hD.sub [0, 1, 2] (by decide) rfl
                rw [hQ, ← hAe]
                refine r_z (v := (iZ 0)) K (0, ovr fx b L U) hS rfl d_Mo_takes_233 ?_ (fun t ht hv => ?_)
                · try dsimp only
                  exact ⟨rfl, Or.inr ⟨rfl, hlt, rfl⟩⟩
                · exact ⟨by rw [ht]; exact hP9, va_K.moved hv hK, by rw [← hAe]; exact hD9⟩
              · have b1 := dz_lt (wW (U / tB k) f C (nd C)) j
                have b3 := pT_lt (wW (U / tB k) f C (nd C)) f C j
                rw [← icy] at b3
                refine lv_aload_n hx hb d_Mo_takes_149 rfl (lv_at hl 0 rfl) ?_
                refine va_get (D := D) (ci := 8) (v := .ref ow) (C := R_Mo) (T := F_Mo) (N := 14) hx hb hts i_Mo hown hK hP 0 rfl rfl 2 (by decide) (hts _ (big_in mw_1117 rfl)) (fun _ h9 => h9) rfl d_Mo_takes_150 ?_
                refine lv_sipush (v := iZ (12000)) hx hb d_Mo_takes_153 (by decide +kernel) ?_
                refine lv_iload_n hx hb d_Mo_takes_156 rfl (lv_at hl 1 rfl) ?_
                refine zz_imul hx hb d_Mo_takes_157 ?_
                refine lv_iload_n hx hb d_Mo_takes_158 rfl (lv_at hl 3 rfl) ?_
                refine zz_iadd hx hb d_Mo_takes_159 ?_
                refine lv_iload hx hb d_Mo_takes_160 (lv_at hl 7 rfl) ?_
                refine zz_iadd hx hb d_Mo_takes_162 ?_
                refine zz_iald hx hb hK hP 1 0 rfl rfl (12000 * b + (k + j)) (by omega) (by omega) (by omega) d_Mo_takes_163 ?_
                rw [ovr_out (by omega), ovr_in (by omega), jn2_hi]
                refine lv_iload hx hb d_Mo_takes_164 (lv_at hl 4 rfl) ?_
                refine lv_iload hx hb d_Mo_takes_166 (lv_at hl 7 rfl) ?_
                refine lv_iload hx hb d_Mo_takes_168 (lv_at hl 5 rfl) ?_
                refine zz_icmp_ge (tgt := 189) hx hb d_Mo_takes_170 (by decide) (by omega) (by omega) (fun c170 => ?_) (fun c170 => ?_)
                · refine lv_iconst (v := iZ (0)) hx hb d_Mo_takes_189 (by decide +kernel) ?_
                  refine zz_imul hx hb d_Mo_takes_190 ?_
                  obtain ⟨pd, hpd⟩ : ∃ x : Nat, x = f * dz C j := ⟨_, rfl⟩
                  rw [show ((f : Int) * 0 : Int) = (pd : Int) by rw [hpd]; first | (simp; done) | (rw [dz_hi (by omega)]; simp)]
                  have bpd : pd ≤ 9999 * 9999 := by rw [hpd]; exact Nat.mul_le_mul hf (Nat.le_of_lt_succ (dz_lt C j))
                  have ed := pT_dz (wW (U / tB k) f C (nd C)) f C j
                  have ec := pT_c (wW (U / tB k) f C (nd C)) f C j
                  rw [← icy, ← hpd] at ed ec
                  have eR : dz (wW (U / tB k) f C (nd C) + f * C) j = dz U (k + j) := by rw [← dz_shift]; exact dz_low (i := nd C + 1) (by rw [wW_back (hi_lt hU), Nat.mod_eq_of_lt (hi_lt hU)]) (by omega)
                  rw [eR] at ed
                  refine zz_iadd hx hb d_Mo_takes_191 ?_
                  refine lv_iload hx hb d_Mo_takes_192 (lv_at hl 6 rfl) ?_
                  refine zz_iadd hx hb d_Mo_takes_194 ?_
                  refine lv_istore (lv' := [(9, .int (iZ ((dz (wW (U / tB k) f C (nd C)) j : Int) + (pd : Int) + (cy : Int)))), (0, .ref mo), (1, .int (iZ (b : Int))), (2, .int (iZ (c_ : Int))), (3, .int (iZ (k : Int))), (4, .int (iZ (f : Int))), (6, .int (iZ (nd C : Int))), (7, .int (iZ (cy : Int))), (8, .int (iZ (j : Int)))]) hx hb d_Mo_takes_195 hl (by decide) rfl (fun ls hl => ?_)
                  refine lv_aload_n hx hb d_Mo_takes_197 rfl (lv_at hl 1 rfl) ?_
                  refine va_get (D := D) (ci := 8) (v := .ref ow) (C := R_Mo) (T := F_Mo) (N := 14) hx hb hts i_Mo hown hK hP 0 rfl rfl 2 (by decide) (hts _ (big_in mw_1117 rfl)) (fun _ h9 => h9) rfl d_Mo_takes_198 ?_
                  refine lv_sipush (v := iZ (12000)) hx hb d_Mo_takes_201 (by decide +kernel) ?_
                  refine lv_iload_n hx hb d_Mo_takes_204 rfl (lv_at hl 2 rfl) ?_
                  refine zz_imul hx hb d_Mo_takes_205 ?_
                  refine lv_iload_n hx hb d_Mo_takes_206 rfl (lv_at hl 4 rfl) ?_
                  refine zz_iadd hx hb d_Mo_takes_207 ?_
                  refine lv_iload hx hb d_Mo_takes_208 (lv_at hl 8 rfl) ?_
                  refine zz_iadd hx hb d_Mo_takes_210 ?_
                  refine lv_iload hx hb d_Mo_takes_211 (lv_at hl 0 rfl) ?_
                  refine lv_sipush (v := iZ (10000)) hx hb d_Mo_takes_213 (by decide +kernel) ?_
                  refine zz_irem hx hb d_Mo_takes_216 (by omega) (by omega) ?_
                  refine zz_iast hx hb hK hP hD hS 1 0 rfl rfl (12000 * b + (k + j)) (by omega) (by omega) (by omega) d_Mo_takes_217 (fun H locs hP hD hS => ?_)
                  have hP : va_P D cls0 [(mo, .inr (8, [.int qc, .int (iZ (np : Int)), .ref ow, .ref om, .ref ok_, .ref oK, .ref og, .ref on_, .ref oh, .ref ox, .int qn, .int qf, .ref op_, .int ql])), (ow, .inl (cI, 108000, .inl (upd (ovr (ovr fx b L (jn2 U k (wW (U / tB k) f C (nd C)))) b (k + j) U) (12000 * b + (k + j)) (iZ (((dz (wW (U / tB k) f C (nd C)) j : Int) + (pd : Int) + (cy : Int)) % 10000))))), (om, .inl (cI, 9, .inl fm))] H := hP
                  have hD : va_D A [(mo, .inr (8, [.int qc, .int (iZ (np : Int)), .ref ow, .ref om, .ref ok_, .ref oK, .ref og, .ref on_, .ref oh, .ref ox, .int qn, .int qf, .ref op_, .int ql])), (ow, .inl (cI, 108000, .inl (upd (ovr (ovr fx b L (jn2 U k (wW (U / tB k) f C (nd C)))) b (k + j) U) (12000 * b + (k + j)) (iZ (((dz (wW (U / tB k) f C (nd C)) j : Int) + (pd : Int) + (cy : Int)) % 10000))))), (om, .inl (cI, 9, .inl fm))] := hD
                  rw [ovr_s (by congr 1; omega)] at hP hD
                  refine lv_iload hx hb d_Mo_takes_218 (lv_at hl 0 rfl) ?_
                  refine lv_sipush (v := iZ (10000)) hx hb d_Mo_takes_220 (by decide +kernel) ?_
                  refine zz_idiv hx hb d_Mo_takes_223 (by omega) (by omega) ?_
                  refine lv_istore (lv' := [(7, .int (iZ (((dz (wW (U / tB k) f C (nd C)) j : Int) + (pd : Int) + (cy : Int)) / 10000))), (9, .int (iZ ((dz (wW (U / tB k) f C (nd C)) j : Int) + (pd : Int) + (cy : Int)))), (0, .ref mo), (1, .int (iZ (b : Int))), (2, .int (iZ (c_ : Int))), (3, .int (iZ (k : Int))), (4, .int (iZ (f : Int))), (6, .int (iZ (nd C : Int))), (8, .int (iZ (j : Int)))]) hx hb d_Mo_takes_224 hl (by decide) rfl (fun ls hl => ?_)
                  refine lv_iinc (v := iZ ((j : Int) + 1)) (lv' := [(8, .int (iZ ((j : Int) + 1))), (7, .int (iZ (((dz (wW (U / tB k) f C (nd C)) j : Int) + (pd : Int) + (cy : Int)) / 10000))), (9, .int (iZ ((dz (wW (U / tB k) f C (nd C)) j : Int) + (pd : Int) + (cy : Int)))), (0, .ref mo), (1, .int (iZ (b : Int))), (2, .int (iZ (c_ : Int))), (3, .int (iZ (k : Int))), (4, .int (iZ (f : Int))), (6, .int (iZ (nd C : Int)))]) hx hb d_Mo_takes_226 hl (k := 8) rfl (iZ_add _ _) (by decide) rfl (fun ls hl => ?_)
                  refine lv_goto (tgt := 142) hx hb d_Mo_takes_229 (by decide) ?_
                  rw [show (((dz (wW (U / tB k) f C (nd C)) j : Int) + (pd : Int) + (cy : Int)) / 10000 : Int) = (((dz (wW (U / tB k) f C (nd C)) j + pd + cy) / 10000 : Nat) : Int) by omega] at hl
                  rw [show ((j : Int) + 1 : Int) = ((j + 1 : Nat) : Int) by omega] at hl
                  exact ih_L142 (j + 1) ((dz (wW (U / tB k) f C (nd C)) j + pd + cy) / 10000) _ _ _ (by omega) (by omega) ec (by omega) (hP.sub (ws' := [(mo, .inr (8, [.int qc, .int (iZ (np : Int)), .ref ow, .ref om, .ref ok_, .ref oK, .ref og, .ref on_, .ref oh, .ref ox, .int qn, .int qf, .ref op_, .int ql])), (ow, .inl (cI, 108000, .inl (ovr (ovr fx b L (jn2 U k (wW (U / tB k) f C (nd C)))) b (k + (j + 1)) U))), (om, .inl (cI, 9, .inl fm))]) [0, 1, 2] rfl) (hD.sub (ws' := [(mo, .inr (8, [.int qc, .int (iZ (np : Int)), .ref ow, .ref om, .ref ok_, .ref oK, .ref og, .ref on_, .ref oh, .ref ox, .int qn, .int qf, .ref op_, .int ql])), (ow, .inl (cI, 108000, .inl (ovr (ovr fx b L (jn2 U k (wW (U / tB k) f C (nd C)))) b (k + (j + 1)) U))), (om, .inl (cI, 9, .inl fm))]) [0, 1, 2] (by decide) rfl) hS (lv_sub hl [3, 4, 5, 6, 7, 8, 1, 0] rfl)
                · refine lv_aload_n hx hb d_Mo_takes_173 rfl (lv_at hl 0 rfl) ?_
                  refine va_get (D := D) (ci := 8) (v := .ref ow) (C := R_Mo) (T := F_Mo) (N := 14) hx hb hts i_Mo hown hK hP 0 rfl rfl 2 (by decide) (hts _ (big_in mw_1117 rfl)) (fun _ h9 => h9) rfl d_Mo_takes_174 ?_
                  refine lv_sipush (v := iZ (12000)) hx hb d_Mo_takes_177 (by decide +kernel) ?_
                  refine lv_iload_n hx hb d_Mo_takes_180 rfl (lv_at hl 2 rfl) ?_
                  refine zz_imul hx hb d_Mo_takes_181 ?_
                  refine lv_iload hx hb d_Mo_takes_182 (lv_at hl 7 rfl) ?_
                  refine zz_iadd hx hb d_Mo_takes_184 ?_
                  refine zz_iald hx hb hK hP 1 0 rfl rfl (12000 * c_ + j) (by omega) (by omega) (by omega) d_Mo_takes_185 ?_
                  rw [ovr_out (by omega), ovr_out (by omega), hC j (by omega)]
                  refine lv_goto (tgt := 190) hx hb d_Mo_takes_186 (by decide) ?_
                  refine zz_imul hx hb d_Mo_takes_190 ?_
                  obtain ⟨pd, hpd⟩ : ∃ x : Nat, x = f * dz C j := ⟨_, rfl⟩
                  rw [show ((f : Int) * (dz C j : Int) : Int) = (pd : Int) by rw [hpd]; first | (simp; done) | (rw [dz_hi (by omega)]; simp)]
                  have bpd : pd ≤ 9999 * 9999 := by rw [hpd]; exact Nat.mul_le_mul hf (Nat.le_of_lt_succ (dz_lt C j))
                  have ed := pT_dz (wW (U / tB k) f C (nd C)) f C j
                  have ec := pT_c (wW (U / tB k) f C (nd C)) f C j
                  rw [← icy, ← hpd] at ed ec
                  have eR : dz (wW (U / tB k) f C (nd C) + f * C) j = dz U (k + j) := by rw [← dz_shift]; exact dz_low (i := nd C + 1) (by rw [wW_back (hi_lt hU), Nat.mod_eq_of_lt (hi_lt hU)]) (by omega)
                  rw [eR] at ed
                  refine zz_iadd hx hb d_Mo_takes_191 ?_
                  refine lv_iload hx hb d_Mo_takes_192 (lv_at hl 6 rfl) ?_
                  refine zz_iadd hx hb d_Mo_takes_194 ?_
                  refine lv_istore (lv' := [(9, .int (iZ ((dz (wW (U / tB k) f C (nd C)) j : Int) + (pd : Int) + (cy : Int)))), (0, .ref mo), (1, .int (iZ (b : Int))), (2, .int (iZ (c_ : Int))), (3, .int (iZ (k : Int))), (4, .int (iZ (f : Int))), (6, .int (iZ (nd C : Int))), (7, .int (iZ (cy : Int))), (8, .int (iZ (j : Int)))]) hx hb d_Mo_takes_195 hl (by decide) rfl (fun ls hl => ?_)
                  refine lv_aload_n hx hb d_Mo_takes_197 rfl (lv_at hl 1 rfl) ?_
                  refine va_get (D := D) (ci := 8) (v := .ref ow) (C := R_Mo) (T := F_Mo) (N := 14) hx hb hts i_Mo hown hK hP 0 rfl rfl 2 (by decide) (hts _ (big_in mw_1117 rfl)) (fun _ h9 => h9) rfl d_Mo_takes_198 ?_
                  refine lv_sipush (v := iZ (12000)) hx hb d_Mo_takes_201 (by decide +kernel) ?_
                  refine lv_iload_n hx hb d_Mo_takes_204 rfl (lv_at hl 2 rfl) ?_
                  refine zz_imul hx hb d_Mo_takes_205 ?_
                  refine lv_iload_n hx hb d_Mo_takes_206 rfl (lv_at hl 4 rfl) ?_
                  refine zz_iadd hx hb d_Mo_takes_207 ?_
                  refine lv_iload hx hb d_Mo_takes_208 (lv_at hl 8 rfl) ?_
                  refine zz_iadd hx hb d_Mo_takes_210 ?_
                  refine lv_iload hx hb d_Mo_takes_211 (lv_at hl 0 rfl) ?_
                  refine lv_sipush (v := iZ (10000)) hx hb d_Mo_takes_213 (by decide +kernel) ?_
                  refine zz_irem hx hb d_Mo_takes_216 (by omega) (by omega) ?_
                  refine zz_iast hx hb hK hP hD hS 1 0 rfl rfl (12000 * b + (k + j)) (by omega) (by omega) (by omega) d_Mo_takes_217 (fun H locs hP hD hS => ?_)
                  have hP : va_P D cls0 [(mo, .inr (8, [.int qc, .int (iZ (np : Int)), .ref ow, .ref om, .ref ok_, .ref oK, .ref og, .ref on_, .ref oh, .ref ox, .int qn, .int qf, .ref op_, .int ql])), (ow, .inl (cI, 108000, .inl (upd (ovr (ovr fx b L (jn2 U k (wW (U / tB k) f C (nd C)))) b (k + j) U) (12000 * b + (k + j)) (iZ (((dz (wW (U / tB k) f C (nd C)) j : Int) + (pd : Int) + (cy : Int)) % 10000))))), (om, .inl (cI, 9, .inl fm))] H := hP
                  have hD : va_D A [(mo, .inr (8, [.int qc, .int (iZ (np : Int)), .ref ow, .ref om, .ref ok_, .ref oK, .ref og, .ref on_, .ref oh, .ref ox, .int qn, .int qf, .ref op_, .int ql])), (ow, .inl (cI, 108000, .inl (upd (ovr (ovr fx b L (jn2 U k (wW (U / tB k) f C (nd C)))) b (k + j) U) (12000 * b + (k + j)) (iZ (((dz (wW (U / tB k) f C (nd C)) j : Int) + (pd : Int) + (cy : Int)) % 10000))))), (om, .inl (cI, 9, .inl fm))] := hD
                  rw [ovr_s (by congr 1; omega)] at hP hD
                  refine lv_iload hx hb d_Mo_takes_218 (lv_at hl 0 rfl) ?_
                  refine lv_sipush (v := iZ (10000)) hx hb d_Mo_takes_220 (by decide +kernel) ?_
                  refine zz_idiv hx hb d_Mo_takes_223 (by omega) (by omega) ?_
                  refine lv_istore (lv' := [(7, .int (iZ (((dz (wW (U / tB k) f C (nd C)) j : Int) + (pd : Int) + (cy : Int)) / 10000))), (9, .int (iZ ((dz (wW (U / tB k) f C (nd C)) j : Int) + (pd : Int) + (cy : Int)))), (0, .ref mo), (1, .int (iZ (b : Int))), (2, .int (iZ (c_ : Int))), (3, .int (iZ (k : Int))), (4, .int (iZ (f : Int))), (6, .int (iZ (nd C : Int))), (8, .int (iZ (j : Int)))]) hx hb d_Mo_takes_224 hl (by decide) rfl (fun ls hl => ?_)
                  refine lv_iinc (v := iZ ((j : Int) + 1)) (lv' := [(8, .int (iZ ((j : Int) + 1))), (7, .int (iZ (((dz (wW (U / tB k) f C (nd C)) j : Int) + (pd : Int) + (cy : Int)) / 10000))), (9, .int (iZ ((dz (wW (U / tB k) f C (nd C)) j : Int) + (pd : Int) + (cy : Int)))), (0, .ref mo), (1, .int (iZ (b : Int))), (2, .int (iZ (c_ : Int))), (3, .int (iZ (k : Int))), (4, .int (iZ (f : Int))), (6, .int (iZ (nd C : Int)))]) hx hb d_Mo_takes_226 hl (k := 8) rfl (iZ_add _ _) (by decide) rfl (fun ls hl => ?_)
                  refine lv_goto (tgt := 142) hx hb d_Mo_takes_229 (by decide) ?_
                  rw [show (((dz (wW (U / tB k) f C (nd C)) j : Int) + (pd : Int) + (cy : Int)) / 10000 : Int) = (((dz (wW (U / tB k) f C (nd C)) j + pd + cy) / 10000 : Nat) : Int) by omega] at hl
                  rw [show ((j : Int) + 1 : Int) = ((j + 1 : Nat) : Int) by omega] at hl
                  exact ih_L142 (j + 1) ((dz (wW (U / tB k) f C (nd C)) j + pd + cy) / 10000) _ _ _ (by omega) (by omega) ec (by omega) (hP.sub (ws' := [(mo, .inr (8, [.int qc, .int (iZ (np : Int)), .ref ow, .ref om, .ref ok_, .ref oK, .ref og, .ref on_, .ref oh, .ref ox, .int qn, .int qf, .ref op_, .int ql])), (ow, .inl (cI, 108000, .inl (ovr (ovr fx b L (jn2 U k (wW (U / tB k) f C (nd C)))) b (k + (j + 1)) U))), (om, .inl (cI, 9, .inl fm))]) [0, 1, 2] rfl) (hD.sub (ws' := [(mo, .inr (8, [.int qc, .int (iZ (np : Int)), .ref ow, .ref om, .ref ok_, .ref oK, .ref og, .ref on_, .ref oh, .ref ox, .int qn, .int qf, .ref op_, .int ql])), (ow, .inl (cI, 108000, .inl (ovr (ovr fx b L (jn2 U k (wW (U / tB k) f C (nd C)))) b (k + (j + 1)) U))), (om, .inl (cI, 9, .inl fm))]) [0, 1, 2] (by decide) rfl) hS (lv_sub hl [3, 4, 5, 6, 7, 8, 1, 0] rfl)
          exact L142 _ 0 0 _ _ _ (Nat.lt_succ_self _) (Nat.zero_le _) (pT_0 _ _ _) (Nat.zero_le _) (hP.sub (ws' := [(mo, .inr (8, [.int qc, .int (iZ (np : Int)), .ref ow, .ref om, .ref ok_, .ref oK, .ref og, .ref on_, .ref oh, .ref ox, .int qn, .int qf, .ref op_, .int ql])), (ow, .inl (cI, 108000, .inl (ovr (ovr fx b L (jn2 U k (wW (U / tB k) f C (nd C)))) b (k + 0) U))), (om, .inl (cI, 9, .inl fm))]) [0, 1, 2] rfl) (hD.sub (ws' := [(mo, .inr (8, [.int qc, .int (iZ (np : Int)), .ref ow, .ref om, .ref ok_, .ref oK, .ref og, .ref on_, .ref oh, .ref ox, .int qn, .int qf, .ref op_, .int ql])), (ow, .inl (cI, 108000, .inl (ovr (ovr fx b L (jn2 U k (wW (U / tB k) f C (nd C)))) b (k + 0) U))), (om, .inl (cI, 9, .inl fm))]) [0, 1, 2] (by decide) rfl) hS (lv_sub hl [2, 3, 4, 5, 6, 8, 1, 0] rfl)
        · refine lv_iconst (v := iZ (1)) hx hb d_Mo_takes_134 (by decide +kernel) ?_
          have hP9 : va_P D cls0 [(mo, .inr (8, [.int qc, .int (iZ (np : Int)), .ref ow, .ref om, .ref ok_, .ref oK, .ref og, .ref on_, .ref oh, .ref ox, .int qn, .int qf, .ref op_, .int ql])), (ow, .inl (cI, 108000, .inl (ovr fx b L (jn2 U k (wW (U / tB k) f C (nd C)))))), (om, .inl (cI, 9, .inl fm))] H := hP.sub [0, 1, 2] rfl
          have hD9 : va_D A [(mo, .inr (8, [.int qc, .int (iZ (np : Int)), .ref ow, .ref om, .ref ok_, .ref oK, .ref og, .ref on_, .ref oh, .ref ox, .int qn, .int qf, .ref op_, .int ql])), (ow, .inl (cI, 108000, .inl (ovr fx b L (jn2 U k (wW (U / tB k) f C (nd C)))))), (om, .inl (cI, 9, .inl fm))] := hD.sub [0, 1, 2] (by decide) rfl
          rw [hQ, ← hAe]
          refine r_z (v := (iZ 1)) K (1, ovr fx b L (jn2 U k (wW (U / tB k) f C (nd C)))) hS rfl d_Mo_takes_135 ?_ (fun t ht hv => ?_)
          · try dsimp only
            have hle := ke.mp (by omega)
            exact ⟨rfl, Or.inl ⟨rfl, hle, by rw [wW_ok (hi_lt hU) hle, jn2_sub hle]⟩⟩
          · exact ⟨by rw [ht]; exact hP9, va_K.moved hv hK, by rw [← hAe]; exact hD9⟩
      · have b1 := dz_lt (U / tB k) j
        have kb := kT_b (U / tB k) f C j
        refine lv_aload_n hx hb d_Mo_takes_21 rfl (lv_at hl 0 rfl) ?_
        refine va_get (D := D) (ci := 8) (v := .ref ow) (C := R_Mo) (T := F_Mo) (N := 14) hx hb hts i_Mo hown hK hP 0 rfl rfl 2 (by decide) (hts _ (big_in mw_1117 rfl)) (fun _ h9 => h9) rfl d_Mo_takes_22 ?_
        refine lv_sipush (v := iZ (12000)) hx hb d_Mo_takes_25 (by decide +kernel) ?_
        refine lv_iload_n hx hb d_Mo_takes_28 rfl (lv_at hl 1 rfl) ?_
        refine zz_imul hx hb d_Mo_takes_29 ?_
        refine lv_iload_n hx hb d_Mo_takes_30 rfl (lv_at hl 3 rfl) ?_
        refine zz_iadd hx hb d_Mo_takes_31 ?_
        refine lv_iload hx hb d_Mo_takes_32 (lv_at hl 7 rfl) ?_
        refine zz_iadd hx hb d_Mo_takes_34 ?_
        refine zz_iald hx hb hK hP 1 0 rfl rfl (12000 * b + (k + j)) (by omega) (by omega) (by omega) d_Mo_takes_35 ?_
        rw [ovr_out (by omega), ovr_in (by omega), ← dz_shift]
        refine lv_iload hx hb d_Mo_takes_36 (lv_at hl 4 rfl) ?_
        refine lv_iload hx hb d_Mo_takes_38 (lv_at hl 7 rfl) ?_
        refine lv_iload hx hb d_Mo_takes_40 (lv_at hl 6 rfl) ?_
        refine zz_icmp_ge (tgt := 61) hx hb d_Mo_takes_42 (by decide) (by omega) (by omega) (fun c42 => ?_) (fun c42 => ?_)
        · refine lv_iconst (v := iZ (0)) hx hb d_Mo_takes_61 (by decide +kernel) ?_
          refine zz_imul hx hb d_Mo_takes_62 ?_
          obtain ⟨pd, hpd⟩ : ∃ x : Nat, x = f * dz C j := ⟨_, rfl⟩
          rw [show ((f : Int) * 0 : Int) = (pd : Int) by rw [hpd]; first | (simp; done) | (rw [dz_hi (by omega)]; simp)]
          have bpd : pd ≤ 9999 * 9999 := by rw [hpd]; exact Nat.mul_le_mul hf (Nat.le_of_lt_succ (dz_lt C j))
          refine zz_isub hx hb d_Mo_takes_63 ?_
          refine lv_iload hx hb d_Mo_takes_64 (lv_at hl 5 rfl) ?_
          refine zz_isub hx hb d_Mo_takes_66 ?_
          obtain ⟨vv, hvv⟩ : ∃ z : Int, z = (dz (U / tB k) j : Int) - (pd : Int) - (bw : Int) := ⟨_, rfl⟩
          rw [← hvv]
          have kv := kT_v (U / tB k) f C j
          have kn := kT_n (U / tB k) f C j
          have kd := wW_dz (R := (U / tB k)) (f := f) (C := C) (n := nd C) (j := j) (by omega)
          have kb1 := kT_b (U / tB k) f C (j + 1)
          rw [← hpd] at kv
          have ev : kT (U / tB k) f C (j + 1) / (tB j : Int) = vv := by rw [kv]; omega
          rw [ev] at kn kd
          have tt := tm_em vv
          refine lv_istore (lv' := [(8, .int (iZ vv)), (0, .ref mo), (1, .int (iZ (b : Int))), (2, .int (iZ (c_ : Int))), (3, .int (iZ (k : Int))), (4, .int (iZ (f : Int))), (5, .int (iZ (bw : Int))), (6, .int (iZ (nd C : Int))), (7, .int (iZ (j : Int)))]) hx hb d_Mo_takes_67 hl (by decide) rfl (fun ls hl => ?_)
          refine lv_iload hx hb d_Mo_takes_69 (lv_at hl 0 rfl) ?_
          refine lv_sipush (v := iZ (10000)) hx hb d_Mo_takes_71 (by decide +kernel) ?_
          refine zz_iremT hx hb d_Mo_takes_74 (by omega) (by omega) ?_
          refine lv_istore (lv' := [(9, .int (iZ (vv.tmod 10000))), (8, .int (iZ vv)), (0, .ref mo), (1, .int (iZ (b : Int))), (2, .int (iZ (c_ : Int))), (3, .int (iZ (k : Int))), (4, .int (iZ (f : Int))), (5, .int (iZ (bw : Int))), (6, .int (iZ (nd C : Int))), (7, .int (iZ (j : Int)))]) hx hb d_Mo_takes_75 hl (by decide) rfl (fun ls hl => ?_)
          refine lv_iload hx hb d_Mo_takes_77 (lv_at hl 0 rfl) ?_
          refine zz_if_ge (tgt := 91) hx hb d_Mo_takes_79 (by decide) (by omega) (fun c79 => ?_) (fun c79 => ?_)
          · refine lv_iload hx hb d_Mo_takes_91 (lv_at hl 0 rfl) ?_
            refine lv_istore (lv' := [(9, .int (iZ (vv.tmod 10000))), (8, .int (iZ vv)), (0, .ref mo), (1, .int (iZ (b : Int))), (2, .int (iZ (c_ : Int))), (3, .int (iZ (k : Int))), (4, .int (iZ (f : Int))), (5, .int (iZ (bw : Int))), (6, .int (iZ (nd C : Int))), (7, .int (iZ (j : Int)))]) hx hb d_Mo_takes_93 hl (by decide) rfl (fun ls hl => ?_)
            rw [show (vv.tmod 10000 : Int) = vv % 10000 by omega] at hl
            refine lv_iload hx hb d_Mo_takes_95 (lv_at hl 0 rfl) ?_
            refine lv_iload hx hb d_Mo_takes_97 (lv_at hl 1 rfl) ?_
            refine zz_isub hx hb d_Mo_takes_99 ?_
            refine lv_sipush (v := iZ (10000)) hx hb d_Mo_takes_100 (by decide +kernel) ?_
            refine zz_idiv hx hb d_Mo_takes_103 (by omega) (by omega) ?_
            refine lv_istore (lv' := [(5, .int (iZ ((vv % 10000 - vv) / 10000))), (9, .int (iZ (vv % 10000))), (8, .int (iZ vv)), (0, .ref mo), (1, .int (iZ (b : Int))), (2, .int (iZ (c_ : Int))), (3, .int (iZ (k : Int))), (4, .int (iZ (f : Int))), (6, .int (iZ (nd C : Int))), (7, .int (iZ (j : Int)))]) hx hb d_Mo_takes_104 hl (by decide) rfl (fun ls hl => ?_)
            refine lv_aload_n hx hb d_Mo_takes_106 rfl (lv_at hl 3 rfl) ?_
            refine va_get (D := D) (ci := 8) (v := .ref ow) (C := R_Mo) (T := F_Mo) (N := 14) hx hb hts i_Mo hown hK hP 0 rfl rfl 2 (by decide) (hts _ (big_in mw_1117 rfl)) (fun _ h9 => h9) rfl d_Mo_takes_107 ?_
            refine lv_sipush (v := iZ (12000)) hx hb d_Mo_takes_110 (by decide +kernel) ?_
            refine lv_iload_n hx hb d_Mo_takes_113 rfl (lv_at hl 4 rfl) ?_
            refine zz_imul hx hb d_Mo_takes_114 ?_
            refine lv_iload_n hx hb d_Mo_takes_115 rfl (lv_at hl 6 rfl) ?_
            refine zz_iadd hx hb d_Mo_takes_116 ?_
            refine lv_iload hx hb d_Mo_takes_117 (lv_at hl 9 rfl) ?_
            refine zz_iadd hx hb d_Mo_takes_119 ?_
            refine lv_iload hx hb d_Mo_takes_120 (lv_at hl 1 rfl) ?_
            refine zz_iast hx hb hK hP hD hS 1 0 rfl rfl (12000 * b + (k + j)) (by omega) (by omega) (by omega) d_Mo_takes_122 (fun H locs hP hD hS => ?_)
            have hP : va_P D cls0 [(mo, .inr (8, [.int qc, .int (iZ (np : Int)), .ref ow, .ref om, .ref ok_, .ref oK, .ref og, .ref on_, .ref oh, .ref ox, .int qn, .int qf, .ref op_, .int ql])), (ow, .inl (cI, 108000, .inl (upd (ovr (ovr fx b L U) b (k + j) (jn2 U k (wW (U / tB k) f C (nd C)))) (12000 * b + (k + j)) (iZ (vv % 10000))))), (om, .inl (cI, 9, .inl fm))] H := hP
            have hD : va_D A [(mo, .inr (8, [.int qc, .int (iZ (np : Int)), .ref ow, .ref om, .ref ok_, .ref oK, .ref og, .ref on_, .ref oh, .ref ox, .int qn, .int qf, .ref op_, .int ql])), (ow, .inl (cI, 108000, .inl (upd (ovr (ovr fx b L U) b (k + j) (jn2 U k (wW (U / tB k) f C (nd C)))) (12000 * b + (k + j)) (iZ (vv % 10000))))), (om, .inl (cI, 9, .inl fm))] := hD
            rw [ovr_s (by rw [jn2_hi]; congr 1; omega)] at hP hD
            refine lv_iinc (v := iZ ((j : Int) + 1)) (lv' := [(7, .int (iZ ((j : Int) + 1))), (5, .int (iZ ((vv % 10000 - vv) / 10000))), (9, .int (iZ (vv % 10000))), (8, .int (iZ vv)), (0, .ref mo), (1, .int (iZ (b : Int))), (2, .int (iZ (c_ : Int))), (3, .int (iZ (k : Int))), (4, .int (iZ (f : Int))), (6, .int (iZ (nd C : Int)))]) hx hb d_Mo_takes_123 hl (k := 9) rfl (iZ_add _ _) (by decide) rfl (fun ls hl => ?_)
            refine lv_goto (tgt := 14) hx hb d_Mo_takes_126 (by decide) ?_
            rw [show ((vv % 10000 - vv) / 10000 : Int) = ((((vv % 10000 - vv) / 10000).toNat : Nat) : Int) by omega] at hl
            rw [show ((j : Int) + 1 : Int) = ((j + 1 : Nat) : Int) by omega] at hl
            exact ih (j + 1) (((vv % 10000 - vv) / 10000).toNat) _ _ _ (by omega) (by omega) (by omega) (hP.sub (ws' := [(mo, .inr (8, [.int qc, .int (iZ (np : Int)), .ref ow, .ref om, .ref ok_, .ref oK, .ref og, .ref on_, .ref oh, .ref ox, .int qn, .int qf, .ref op_, .int ql])), (ow, .inl (cI, 108000, .inl (ovr (ovr fx b L U) b (k + (j + 1)) (jn2 U k (wW (U / tB k) f C (nd C)))))), (om, .inl (cI, 9, .inl fm))]) [0, 1, 2] rfl) (hD.sub (ws' := [(mo, .inr (8, [.int qc, .int (iZ (np : Int)), .ref ow, .ref om, .ref ok_, .ref oK, .ref og, .ref on_, .ref oh, .ref ox, .int qn, .int qf, .ref op_, .int ql])), (ow, .inl (cI, 108000, .inl (ovr (ovr fx b L U) b (k + (j + 1)) (jn2 U k (wW (U / tB k) f C (nd C)))))), (om, .inl (cI, 9, .inl fm))]) [0, 1, 2] (by decide) rfl) hS (lv_sub hl [4, 5, 6, 7, 8, 1, 9, 0] rfl)
          · refine lv_iload hx hb d_Mo_takes_82 (lv_at hl 0 rfl) ?_
            refine lv_sipush (v := iZ (10000)) hx hb d_Mo_takes_84 (by decide +kernel) ?_
            refine zz_iadd hx hb d_Mo_takes_87 ?_
            refine lv_goto (tgt := 93) hx hb d_Mo_takes_88 (by decide) ?_
            refine lv_istore (lv' := [(9, .int (iZ (vv.tmod 10000 + 10000))), (8, .int (iZ vv)), (0, .ref mo), (1, .int (iZ (b : Int))), (2, .int (iZ (c_ : Int))), (3, .int (iZ (k : Int))), (4, .int (iZ (f : Int))), (5, .int (iZ (bw : Int))), (6, .int (iZ (nd C : Int))), (7, .int (iZ (j : Int)))]) hx hb d_Mo_takes_93 hl (by decide) rfl (fun ls hl => ?_)
            rw [show (vv.tmod 10000 + 10000 : Int) = vv % 10000 by omega] at hl
            refine lv_iload hx hb d_Mo_takes_95 (lv_at hl 0 rfl) ?_
            refine lv_iload hx hb d_Mo_takes_97 (lv_at hl 1 rfl) ?_
            refine zz_isub hx hb d_Mo_takes_99 ?_
            refine lv_sipush (v := iZ (10000)) hx hb d_Mo_takes_100 (by decide +kernel) ?_
            refine zz_idiv hx hb d_Mo_takes_103 (by omega) (by omega) ?_
            refine lv_istore (lv' := [(5, .int (iZ ((vv % 10000 - vv) / 10000))), (9, .int (iZ (vv % 10000))), (8, .int (iZ vv)), (0, .ref mo), (1, .int (iZ (b : Int))), (2, .int (iZ (c_ : Int))), (3, .int (iZ (k : Int))), (4, .int (iZ (f : Int))), (6, .int (iZ (nd C : Int))), (7, .int (iZ (j : Int)))]) hx hb d_Mo_takes_104 hl (by decide) rfl (fun ls hl => ?_)
            refine lv_aload_n hx hb d_Mo_takes_106 rfl (lv_at hl 3 rfl) ?_
            refine va_get (D := D) (ci := 8) (v := .ref ow) (C := R_Mo) (T := F_Mo) (N := 14) hx hb hts i_Mo hown hK hP 0 rfl rfl 2 (by decide) (hts _ (big_in mw_1117 rfl)) (fun _ h9 => h9) rfl d_Mo_takes_107 ?_
            refine lv_sipush (v := iZ (12000)) hx hb d_Mo_takes_110 (by decide +kernel) ?_
            refine lv_iload_n hx hb d_Mo_takes_113 rfl (lv_at hl 4 rfl) ?_
            refine zz_imul hx hb d_Mo_takes_114 ?_
            refine lv_iload_n hx hb d_Mo_takes_115 rfl (lv_at hl 6 rfl) ?_
            refine zz_iadd hx hb d_Mo_takes_116 ?_
            refine lv_iload hx hb d_Mo_takes_117 (lv_at hl 9 rfl) ?_
            refine zz_iadd hx hb d_Mo_takes_119 ?_
            refine lv_iload hx hb d_Mo_takes_120 (lv_at hl 1 rfl) ?_
            refine zz_iast hx hb hK hP hD hS 1 0 rfl rfl (12000 * b + (k + j)) (by omega) (by omega) (by omega) d_Mo_takes_122 (fun H locs hP hD hS => ?_)
            have hP : va_P D cls0 [(mo, .inr (8, [.int qc, .int (iZ (np : Int)), .ref ow, .ref om, .ref ok_, .ref oK, .ref og, .ref on_, .ref oh, .ref ox, .int qn, .int qf, .ref op_, .int ql])), (ow, .inl (cI, 108000, .inl (upd (ovr (ovr fx b L U) b (k + j) (jn2 U k (wW (U / tB k) f C (nd C)))) (12000 * b + (k + j)) (iZ (vv % 10000))))), (om, .inl (cI, 9, .inl fm))] H := hP
            have hD : va_D A [(mo, .inr (8, [.int qc, .int (iZ (np : Int)), .ref ow, .ref om, .ref ok_, .ref oK, .ref og, .ref on_, .ref oh, .ref ox, .int qn, .int qf, .ref op_, .int ql])), (ow, .inl (cI, 108000, .inl (upd (ovr (ovr fx b L U) b (k + j) (jn2 U k (wW (U / tB k) f C (nd C)))) (12000 * b + (k + j)) (iZ (vv % 10000))))), (om, .inl (cI, 9, .inl fm))] := hD
            rw [ovr_s (by rw [jn2_hi]; congr 1; omega)] at hP hD
            refine lv_iinc (v := iZ ((j : Int) + 1)) (lv' := [(7, .int (iZ ((j : Int) + 1))), (5, .int (iZ ((vv % 10000 - vv) / 10000))), (9, .int (iZ (vv % 10000))), (8, .int (iZ vv)), (0, .ref mo), (1, .int (iZ (b : Int))), (2, .int (iZ (c_ : Int))), (3, .int (iZ (k : Int))), (4, .int (iZ (f : Int))), (6, .int (iZ (nd C : Int)))]) hx hb d_Mo_takes_123 hl (k := 9) rfl (iZ_add _ _) (by decide) rfl (fun ls hl => ?_)
            refine lv_goto (tgt := 14) hx hb d_Mo_takes_126 (by decide) ?_
            rw [show ((vv % 10000 - vv) / 10000 : Int) = ((((vv % 10000 - vv) / 10000).toNat : Nat) : Int) by omega] at hl
            rw [show ((j : Int) + 1 : Int) = ((j + 1 : Nat) : Int) by omega] at hl
            exact ih (j + 1) (((vv % 10000 - vv) / 10000).toNat) _ _ _ (by omega) (by omega) (by omega) (hP.sub (ws' := [(mo, .inr (8, [.int qc, .int (iZ (np : Int)), .ref ow, .ref om, .ref ok_, .ref oK, .ref og, .ref on_, .ref oh, .ref ox, .int qn, .int qf, .ref op_, .int ql])), (ow, .inl (cI, 108000, .inl (ovr (ovr fx b L U) b (k + (j + 1)) (jn2 U k (wW (U / tB k) f C (nd C)))))), (om, .inl (cI, 9, .inl fm))]) [0, 1, 2] rfl) (hD.sub (ws' := [(mo, .inr (8, [.int qc, .int (iZ (np : Int)), .ref ow, .ref om, .ref ok_, .ref oK, .ref og, .ref on_, .ref oh, .ref ox, .int qn, .int qf, .ref op_, .int ql])), (ow, .inl (cI, 108000, .inl (ovr (ovr fx b L U) b (k + (j + 1)) (jn2 U k (wW (U / tB k) f C (nd C)))))), (om, .inl (cI, 9, .inl fm))]) [0, 1, 2] (by decide) rfl) hS (lv_sub hl [4, 5, 6, 7, 8, 1, 9, 0] rfl)
        · refine lv_aload_n hx hb d_Mo_takes_45 rfl (lv_at hl 0 rfl) ?_
          refine va_get (D := D) (ci := 8) (v := .ref ow) (C := R_Mo) (T := F_Mo) (N := 14) hx hb hts i_Mo hown hK hP 0 rfl rfl 2 (by decide) (hts _ (big_in mw_1117 rfl)) (fun _ h9 => h9) rfl d_Mo_takes_46 ?_
          refine lv_sipush (v := iZ (12000)) hx hb d_Mo_takes_49 (by decide +kernel) ?_
          refine lv_iload_n hx hb d_Mo_takes_52 rfl (lv_at hl 2 rfl) ?_
          refine zz_imul hx hb d_Mo_takes_53 ?_
          refine lv_iload hx hb d_Mo_takes_54 (lv_at hl 7 rfl) ?_
          refine zz_iadd hx hb d_Mo_takes_56 ?_
          refine zz_iald hx hb hK hP 1 0 rfl rfl (12000 * c_ + j) (by omega) (by omega) (by omega) d_Mo_takes_57 ?_
          rw [ovr_out (by omega), ovr_out (by omega), hC j (by omega)]
          refine lv_goto (tgt := 62) hx hb d_Mo_takes_58 (by decide) ?_
          refine zz_imul hx hb d_Mo_takes_62 ?_
          obtain ⟨pd, hpd⟩ : ∃ x : Nat, x = f * dz C j := ⟨_, rfl⟩
          rw [show ((f : Int) * (dz C j : Int) : Int) = (pd : Int) by rw [hpd]; first | (simp; done) | (rw [dz_hi (by omega)]; simp)]
          have bpd : pd ≤ 9999 * 9999 := by rw [hpd]; exact Nat.mul_le_mul hf (Nat.le_of_lt_succ (dz_lt C j))
          refine zz_isub hx hb d_Mo_takes_63 ?_
          refine lv_iload hx hb d_Mo_takes_64 (lv_at hl 5 rfl) ?_
          refine zz_isub hx hb d_Mo_takes_66 ?_
          obtain ⟨vv, hvv⟩ : ∃ z : Int, z = (dz (U / tB k) j : Int) - (pd : Int) - (bw : Int) := ⟨_, rfl⟩
          rw [← hvv]
          have kv := kT_v (U / tB k) f C j
          have kn := kT_n (U / tB k) f C j
          have kd := wW_dz (R := (U / tB k)) (f := f) (C := C) (n := nd C) (j := j) (by omega)
          have kb1 := kT_b (U / tB k) f C (j + 1)
          rw [← hpd] at kv
          have ev : kT (U / tB k) f C (j + 1) / (tB j : Int) = vv := by rw [kv]; omega
          rw [ev] at kn kd
          have tt := tm_em vv
          refine lv_istore (lv' := [(8, .int (iZ vv)), (0, .ref mo), (1, .int (iZ (b : Int))), (2, .int (iZ (c_ : Int))), (3, .int (iZ (k : Int))), (4, .int (iZ (f : Int))), (5, .int (iZ (bw : Int))), (6, .int (iZ (nd C : Int))), (7, .int (iZ (j : Int)))]) hx hb d_Mo_takes_67 hl (by decide) rfl (fun ls hl => ?_)
          refine lv_iload hx hb d_Mo_takes_69 (lv_at hl 0 rfl) ?_
          refine lv_sipush (v := iZ (10000)) hx hb d_Mo_takes_71 (by decide +kernel) ?_
          refine zz_iremT hx hb d_Mo_takes_74 (by omega) (by omega) ?_
          refine lv_istore (lv' := [(9, .int (iZ (vv.tmod 10000))), (8, .int (iZ vv)), (0, .ref mo), (1, .int (iZ (b : Int))), (2, .int (iZ (c_ : Int))), (3, .int (iZ (k : Int))), (4, .int (iZ (f : Int))), (5, .int (iZ (bw : Int))), (6, .int (iZ (nd C : Int))), (7, .int (iZ (j : Int)))]) hx hb d_Mo_takes_75 hl (by decide) rfl (fun ls hl => ?_)
          refine lv_iload hx hb d_Mo_takes_77 (lv_at hl 0 rfl) ?_
          refine zz_if_ge (tgt := 91) hx hb d_Mo_takes_79 (by decide) (by omega) (fun c79 => ?_) (fun c79 => ?_)
          · refine lv_iload hx hb d_Mo_takes_91 (lv_at hl 0 rfl) ?_
            refine lv_istore (lv' := [(9, .int (iZ (vv.tmod 10000))), (8, .int (iZ vv)), (0, .ref mo), (1, .int (iZ (b : Int))), (2, .int (iZ (c_ : Int))), (3, .int (iZ (k : Int))), (4, .int (iZ (f : Int))), (5, .int (iZ (bw : Int))), (6, .int (iZ (nd C : Int))), (7, .int (iZ (j : Int)))]) hx hb d_Mo_takes_93 hl (by decide) rfl (fun ls hl => ?_)
            rw [show (vv.tmod 10000 : Int) = vv % 10000 by omega] at hl
            refine lv_iload hx hb d_Mo_takes_95 (lv_at hl 0 rfl) ?_
            refine lv_iload hx hb d_Mo_takes_97 (lv_at hl 1 rfl) ?_
            refine zz_isub hx hb d_Mo_takes_99 ?_
            refine lv_sipush (v := iZ (10000)) hx hb d_Mo_takes_100 (by decide +kernel) ?_
            refine zz_idiv hx hb d_Mo_takes_103 (by omega) (by omega) ?_
            refine lv_istore (lv' := [(5, .int (iZ ((vv % 10000 - vv) / 10000))), (9, .int (iZ (vv % 10000))), (8, .int (iZ vv)), (0, .ref mo), (1, .int (iZ (b : Int))), (2, .int (iZ (c_ : Int))), (3, .int (iZ (k : Int))), (4, .int (iZ (f : Int))), (6, .int (iZ (nd C : Int))), (7, .int (iZ (j : Int)))]) hx hb d_Mo_takes_104 hl (by decide) rfl (fun ls hl => ?_)
            refine lv_aload_n hx hb d_Mo_takes_106 rfl (lv_at hl 3 rfl) ?_
            refine va_get (D := D) (ci := 8) (v := .ref ow) (C := R_Mo) (T := F_Mo) (N := 14) hx hb hts i_Mo hown hK hP 0 rfl rfl 2 (by decide) (hts _ (big_in mw_1117 rfl)) (fun _ h9 => h9) rfl d_Mo_takes_107 ?_
            refine lv_sipush (v := iZ (12000)) hx hb d_Mo_takes_110 (by decide +kernel) ?_
            refine lv_iload_n hx hb d_Mo_takes_113 rfl (lv_at hl 4 rfl) ?_
            refine zz_imul hx hb d_Mo_takes_114 ?_
            refine lv_iload_n hx hb d_Mo_takes_115 rfl (lv_at hl 6 rfl) ?_
            refine zz_iadd hx hb d_Mo_takes_116 ?_
            refine lv_iload hx hb d_Mo_takes_117 (lv_at hl 9 rfl) ?_
            refine zz_iadd hx hb d_Mo_takes_119 ?_
            refine lv_iload hx hb d_Mo_takes_120 (lv_at hl 1 rfl) ?_
            refine zz_iast hx hb hK hP hD hS 1 0 rfl rfl (12000 * b + (k + j)) (by omega) (by omega) (by omega) d_Mo_takes_122 (fun H locs hP hD hS => ?_)
            have hP : va_P D cls0 [(mo, .inr (8, [.int qc, .int (iZ (np : Int)), .ref ow, .ref om, .ref ok_, .ref oK, .ref og, .ref on_, .ref oh, .ref ox, .int qn, .int qf, .ref op_, .int ql])), (ow, .inl (cI, 108000, .inl (upd (ovr (ovr fx b L U) b (k + j) (jn2 U k (wW (U / tB k) f C (nd C)))) (12000 * b + (k + j)) (iZ (vv % 10000))))), (om, .inl (cI, 9, .inl fm))] H := hP
            have hD : va_D A [(mo, .inr (8, [.int qc, .int (iZ (np : Int)), .ref ow, .ref om, .ref ok_, .ref oK, .ref og, .ref on_, .ref oh, .ref ox, .int qn, .int qf, .ref op_, .int ql])), (ow, .inl (cI, 108000, .inl (upd (ovr (ovr fx b L U) b (k + j) (jn2 U k (wW (U / tB k) f C (nd C)))) (12000 * b + (k + j)) (iZ (vv % 10000))))), (om, .inl (cI, 9, .inl fm))] := hD
            rw [ovr_s (by rw [jn2_hi]; congr 1; omega)] at hP hD
            refine lv_iinc (v := iZ ((j : Int) + 1)) (lv' := [(7, .int (iZ ((j : Int) + 1))), (5, .int (iZ ((vv % 10000 - vv) / 10000))), (9, .int (iZ (vv % 10000))), (8, .int (iZ vv)), (0, .ref mo), (1, .int (iZ (b : Int))), (2, .int (iZ (c_ : Int))), (3, .int (iZ (k : Int))), (4, .int (iZ (f : Int))), (6, .int (iZ (nd C : Int)))]) hx hb d_Mo_takes_123 hl (k := 9) rfl (iZ_add _ _) (by decide) rfl (fun ls hl => ?_)
            refine lv_goto (tgt := 14) hx hb d_Mo_takes_126 (by decide) ?_
            rw [show ((vv % 10000 - vv) / 10000 : Int) = ((((vv % 10000 - vv) / 10000).toNat : Nat) : Int) by omega] at hl
            rw [show ((j : Int) + 1 : Int) = ((j + 1 : Nat) : Int) by omega] at hl
            exact ih (j + 1) (((vv % 10000 - vv) / 10000).toNat) _ _ _ (by omega) (by omega) (by omega) (hP.sub (ws' := [(mo, .inr (8, [.int qc, .int (iZ (np : Int)), .ref ow, .ref om, .ref ok_, .ref oK, .ref og, .ref on_, .ref oh, .ref ox, .int qn, .int qf, .ref op_, .int ql])), (ow, .inl (cI, 108000, .inl (ovr (ovr fx b L U) b (k + (j + 1)) (jn2 U k (wW (U / tB k) f C (nd C)))))), (om, .inl (cI, 9, .inl fm))]) [0, 1, 2] rfl) (hD.sub (ws' := [(mo, .inr (8, [.int qc, .int (iZ (np : Int)), .ref ow, .ref om, .ref ok_, .ref oK, .ref og, .ref on_, .ref oh, .ref ox, .int qn, .int qf, .ref op_, .int ql])), (ow, .inl (cI, 108000, .inl (ovr (ovr fx b L U) b (k + (j + 1)) (jn2 U k (wW (U / tB k) f C (nd C)))))), (om, .inl (cI, 9, .inl fm))]) [0, 1, 2] (by decide) rfl) hS (lv_sub hl [4, 5, 6, 7, 8, 1, 9, 0] rfl)
          · refine lv_iload hx hb d_Mo_takes_82 (lv_at hl 0 rfl) ?_
            refine lv_sipush (v := iZ (10000)) hx hb d_Mo_takes_84 (by decide +kernel) ?_
            refine zz_iadd hx hb d_Mo_takes_87 ?_
            refine lv_goto (tgt := 93) hx hb d_Mo_takes_88 (by decide) ?_
            refine lv_istore (lv' := [(9, .int (iZ (vv.tmod 10000 + 10000))), (8, .int (iZ vv)), (0, .ref mo), (1, .int (iZ (b : Int))), (2, .int (iZ (c_ : Int))), (3, .int (iZ (k : Int))), (4, .int (iZ (f : Int))), (5, .int (iZ (bw : Int))), (6, .int (iZ (nd C : Int))), (7, .int (iZ (j : Int)))]) hx hb d_Mo_takes_93 hl (by decide) rfl (fun ls hl => ?_)
            rw [show (vv.tmod 10000 + 10000 : Int) = vv % 10000 by omega] at hl
            refine lv_iload hx hb d_Mo_takes_95 (lv_at hl 0 rfl) ?_
            refine lv_iload hx hb d_Mo_takes_97 (lv_at hl 1 rfl) ?_
            refine zz_isub hx hb d_Mo_takes_99 ?_
            refine lv_sipush (v := iZ (10000)) hx hb d_Mo_takes_100 (by decide +kernel) ?_
            refine zz_idiv hx hb d_Mo_takes_103 (by omega) (by omega) ?_
            refine lv_istore (lv' := [(5, .int (iZ ((vv % 10000 - vv) / 10000))), (9, .int (iZ (vv % 10000))), (8, .int (iZ vv)), (0, .ref mo), (1, .int (iZ (b : Int))), (2, .int (iZ (c_ : Int))), (3, .int (iZ (k : Int))), (4, .int (iZ (f : Int))), (6, .int (iZ (nd C : Int))), (7, .int (iZ (j : Int)))]) hx hb d_Mo_takes_104 hl (by decide) rfl (fun ls hl => ?_)
            refine lv_aload_n hx hb d_Mo_takes_106 rfl (lv_at hl 3 rfl) ?_
            refine va_get (D := D) (ci := 8) (v := .ref ow) (C := R_Mo) (T := F_Mo) (N := 14) hx hb hts i_Mo hown hK hP 0 rfl rfl 2 (by decide) (hts _ (big_in mw_1117 rfl)) (fun _ h9 => h9) rfl d_Mo_takes_107 ?_
            refine lv_sipush (v := iZ (12000)) hx hb d_Mo_takes_110 (by decide +kernel) ?_
            refine lv_iload_n hx hb d_Mo_takes_113 rfl (lv_at hl 4 rfl) ?_
            refine zz_imul hx hb d_Mo_takes_114 ?_
            refine lv_iload_n hx hb d_Mo_takes_115 rfl (lv_at hl 6 rfl) ?_
            refine zz_iadd hx hb d_Mo_takes_116 ?_
            refine lv_iload hx hb d_Mo_takes_117 (lv_at hl 9 rfl) ?_
            refine zz_iadd hx hb d_Mo_takes_119 ?_
            refine lv_iload hx hb d_Mo_takes_120 (lv_at hl 1 rfl) ?_
            refine zz_iast hx hb hK hP hD hS 1 0 rfl rfl (12000 * b + (k + j)) (by omega) (by omega) (by omega) d_Mo_takes_122 (fun H locs hP hD hS => ?_)
            have hP : va_P D cls0 [(mo, .inr (8, [.int qc, .int (iZ (np : Int)), .ref ow, .ref om, .ref ok_, .ref oK, .ref og, .ref on_, .ref oh, .ref ox, .int qn, .int qf, .ref op_, .int ql])), (ow, .inl (cI, 108000, .inl (upd (ovr (ovr fx b L U) b (k + j) (jn2 U k (wW (U / tB k) f C (nd C)))) (12000 * b + (k + j)) (iZ (vv % 10000))))), (om, .inl (cI, 9, .inl fm))] H := hP
            have hD : va_D A [(mo, .inr (8, [.int qc, .int (iZ (np : Int)), .ref ow, .ref om, .ref ok_, .ref oK, .ref og, .ref on_, .ref oh, .ref ox, .int qn, .int qf, .ref op_, .int ql])), (ow, .inl (cI, 108000, .inl (upd (ovr (ovr fx b L U) b (k + j) (jn2 U k (wW (U / tB k) f C (nd C)))) (12000 * b + (k + j)) (iZ (vv % 10000))))), (om, .inl (cI, 9, .inl fm))] := hD
            rw [ovr_s (by rw [jn2_hi]; congr 1; omega)] at hP hD
            refine lv_iinc (v := iZ ((j : Int) + 1)) (lv' := [(7, .int (iZ ((j : Int) + 1))), (5, .int (iZ ((vv % 10000 - vv) / 10000))), (9, .int (iZ (vv % 10000))), (8, .int (iZ vv)), (0, .ref mo), (1, .int (iZ (b : Int))), (2, .int (iZ (c_ : Int))), (3, .int (iZ (k : Int))), (4, .int (iZ (f : Int))), (6, .int (iZ (nd C : Int)))]) hx hb d_Mo_takes_123 hl (k := 9) rfl (iZ_add _ _) (by decide) rfl (fun ls hl => ?_)
            refine lv_goto (tgt := 14) hx hb d_Mo_takes_126 (by decide) ?_
            rw [show ((vv % 10000 - vv) / 10000 : Int) = ((((vv % 10000 - vv) / 10000).toNat : Nat) : Int) by omega] at hl
            rw [show ((j : Int) + 1 : Int) = ((j + 1 : Nat) : Int) by omega] at hl
            exact ih (j + 1) (((vv % 10000 - vv) / 10000).toNat) _ _ _ (by omega) (by omega) (by omega) (hP.sub (ws' := [(mo, .inr (8, [.int qc, .int (iZ (np : Int)), .ref ow, .ref om, .ref ok_, .ref oK, .ref og, .ref on_, .ref oh, .ref ox, .int qn, .int qf, .ref op_, .int ql])), (ow, .inl (cI, 108000, .inl (ovr (ovr fx b L U) b (k + (j + 1)) (jn2 U k (wW (U / tB k) f C (nd C)))))), (om, .inl (cI, 9, .inl fm))]) [0, 1, 2] rfl) (hD.sub (ws' := [(mo, .inr (8, [.int qc, .int (iZ (np : Int)), .ref ow, .ref om, .ref ok_, .ref oK, .ref og, .ref on_, .ref oh, .ref ox, .int qn, .int qf, .ref op_, .int ql])), (ow, .inl (cI, 108000, .inl (ovr (ovr fx b L U) b (k + (j + 1)) (jn2 U k (wW (U / tB k) f C (nd C)))))), (om, .inl (cI, 9, .inl fm))]) [0, 1, 2] (by decide) rfl) hS (lv_sub hl [4, 5, 6, 7, 8, 1, 9, 0] rfl)
  exact L14 _ 0 0 _ _ _ (Nat.lt_succ_self _) (Nat.zero_le _) (by rw [kT_0]; rfl) (hP.sub (ws' := [(mo, .inr (8, [.int qc, .int (iZ (np : Int)), .ref ow, .ref om, .ref ok_, .ref oK, .ref og, .ref on_, .ref oh, .ref ox, .int qn, .int qf, .ref op_, .int ql])), (ow, .inl (cI, 108000, .inl (ovr (ovr fx b L U) b (k + 0) (jn2 U k (wW (U / tB k) f C (nd C)))))), (om, .inl (cI, 9, .inl fm))]) [0, 1, 2] rfl) (hD.sub (ws' := [(mo, .inr (8, [.int qc, .int (iZ (np : Int)), .ref ow, .ref om, .ref ok_, .ref oK, .ref og, .ref on_, .ref oh, .ref ox, .int qn, .int qf, .ref op_, .int ql])), (ow, .inl (cI, 108000, .inl (ovr (ovr fx b L U) b (k + 0) (jn2 U k (wW (U / tB k) f C (nd C)))))), (om, .inl (cI, 9, .inl fm))]) [0, 1, 2] (by decide) rfl) hS (lv_sub hl [3, 4, 5, 6, 7, 2, 1, 0] rfl)
