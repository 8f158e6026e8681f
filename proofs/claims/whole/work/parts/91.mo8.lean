/-- the registers of the reference: 64 rows of 2600 places -/
def KB (fk fK : Nat → Int32) (kv : Nat → Nat) : Prop := ∀ s, s < 64 → fK s = iZ (nd (kv s) : Int) ∧ nd (kv s) ≤ 2600 ∧ ∀ i, i < nd (kv s) → fk (2600 * s + i) = iZ (dz (kv s) i : Int)
theorem KB.m {fk fK : Nat → Int32} {kv : Nat → Nat} (h : KB fk fK kv) {s : Nat} (hs : s < 64) : fK s = iZ (nd (kv s) : Int) := (h s hs).1
theorem KB.n {fk fK : Nat → Int32} {kv : Nat → Nat} (h : KB fk fK kv) {s : Nat} (hs : s < 64) : nd (kv s) ≤ 2600 := (h s hs).2.1
theorem KB.d {fk fK : Nat → Int32} {kv : Nat → Nat} (h : KB fk fK kv) {s i : Nat} (hs : s < 64) (hi : i < nd (kv s)) : fk (2600 * s + i) = iZ (dz (kv s) i : Int) := (h s hs).2.2 i hi
def ovk (fk : Nat → Int32) (s k V : Nat) : Nat → Int32 := fun j => if 2600 * s ≤ j ∧ j < 2600 * s + k then iZ (dz V (j - 2600 * s) : Int) else fk j
theorem ovk_in {fk : Nat → Int32} {s k V i : Nat} (h : i < k) : ovk fk s k V (2600 * s + i) = iZ (dz V i : Int) := by
  unfold ovk; rw [if_pos ⟨by omega, by omega⟩, show 2600 * s + i - 2600 * s = i by omega]
theorem ovk_out {fk : Nat → Int32} {s k V j : Nat} (h : j < 2600 * s ∨ 2600 * s + k ≤ j) : ovk fk s k V j = fk j := if_neg (by omega)
theorem ovk_0 (fk : Nat → Int32) (s V : Nat) : ovk fk s 0 V = fk := by funext j; exact ovk_out (by omega)
theorem ovk_s {fk : Nat → Int32} {s k V : Nat} {x : Int32} (h : x = iZ (dz V k : Int)) : upd (ovk fk s k V) (2600 * s + k) x = ovk fk s (k + 1) V := by
  funext j
  by_cases e : j = 2600 * s + k
  · rw [e, pk_us, ovk_in (by omega), h]
  · rw [pk_un e]
    unfold ovk
    by_cases q : 2600 * s ≤ j ∧ j < 2600 * s + k
    · rw [if_pos q, if_pos (by omega)]
    · rw [if_neg q, if_neg (by omega)]
theorem KB.set {fk fK : Nat → Int32} {kv : Nat → Nat} (h : KB fk fK kv) {s n V : Nat} (hn : nd V ≤ n) (hn2 : n ≤ 2600) {x : Int32} (hx : x = iZ (nd V : Int)) : KB (ovk fk s n V) (upd fK s x) (up kv s V) := by
  intro c hc
  by_cases e : c = s
  · subst e
    rw [pk_us, up_s]
    exact ⟨hx, by omega, fun i hi => ovk_in (by omega)⟩
  · rw [pk_un e, up_n e]
    have hcn := h.n hc
    exact ⟨h.m hc, hcn, fun i hi => by rw [ovk_out (by omega)]; exact h.d hc hi⟩
set_option maxHeartbeats 4000000 in
set_option maxRecDepth 100000 in
/-- load(b, slot) -/
theorem c_Mo_load (l : Launch) (D : va_G) (mo : Nat) (qc : Int32) (np : Nat) (ow : Nat) (om : Nat) (ok_ : Nat) (oK : Nat) (og : Nat) (on_ : Nat) (oh : Nat) (ox : Nat) (qn : Int32) (qf : Int32) (op_ : Nat) (ql : Int32) (fw : Nat → Int32) (fm : Nat → Int32) (cI : ClassId) (fk : Nat → Int32) (fK : Nat → Int32) (val : Nat → Nat) (kv : Nat → Nat) (b : Nat) (sl : Nat) (sz : Nat) (hW : WB fw fm val) (hKB : KB fk fK kv) (hb9 : b < 9) (hs64 : sl < 64) : Met l y_Mo_load (wsB y_Mo_load b_Mo_load 4 none) ({ frames := 0, cells := 0, slots := 0, locals := 0 }) (va_Pc [.ref mo, .int (iZ (b : Int)), .int (iZ (sl : Int))] (wPre D [(cI, .int)] [(mo, .inr (8, [.int qc, .int (iZ (np : Int)), .ref ow, .ref om, .ref ok_, .ref oK, .ref og, .ref on_, .ref oh, .ref ox, .int qn, .int qf, .ref op_, .int ql])), (ow, .inl (cI, 108000, .inl fw)), (om, .inl (cI, 9, .inl fm)), (ok_, .inl (cI, 166400, .inl fk)), (oK, .inl (cI, 64, .inl fK))] sz)) (va_QV (fun (v_9 : Option Value) (u_9 : (Nat → Int32) × (Nat → Int32)) => v_9 = none ∧ (WB u_9.1 u_9.2 (up val b (kv sl)))) (fun u_9 => wPost D [(cI, .int)] [(mo, .inr (8, [.int qc, .int (iZ (np : Int)), .ref ow, .ref om, .ref ok_, .ref oK, .ref og, .ref on_, .ref oh, .ref ox, .int qn, .int qf, .ref op_, .int ql])), (ow, .inl (cI, 108000, .inl fw)), (om, .inl (cI, 9, .inl fm)), (ok_, .inl (cI, 166400, .inl fk)), (oK, .inl (cI, 64, .inl fK))] [(mo, .inr (8, [.int qc, .int (iZ (np : Int)), .ref ow, .ref om, .ref ok_, .ref oK, .ref og, .ref on_, .ref oh, .ref ox, .int qn, .int qf, .ref op_, .int ql])), (ow, .inl (cI, 108000, .inl u_9.1)), (om, .inl (cI, 9, .inl u_9.2)), (ok_, .inl (cI, 166400, .inl fk)), (oK, .inl (cI, 64, .inl fK))] sz) (va_A [(mo, .inr (8, [.int qc, .int (iZ (np : Int)), .ref ow, .ref om, .ref ok_, .ref oK, .ref og, .ref on_, .ref oh, .ref ox, .int qn, .int qf, .ref op_, .int ql])), (ow, .inl (cI, 108000, .inl fw)), (om, .inl (cI, 9, .inl fm)), (ok_, .inl (cI, 166400, .inl fk)), (oK, .inl (cI, 64, .inl fK))] sz)) 0 0 (va_A [(mo, .inr (8, [.int qc, .int (iZ (np : Int)), .ref ow, .ref om, .ref ok_, .ref oK, .ref og, .ref on_, .ref oh, .ref ox, .int qn, .int qf, .ref op_, .int ql])), (ow, .inl (cI, 108000, .inl fw)), (om, .inl (cI, 9, .inl fm)), (ok_, .inl (cI, 166400, .inl fk)), (oK, .inl (cI, 64, .inl fK))] sz) := by
  refine met_enter (by decide +kernel) (Nat.le_of_ble_eq_true rfl) ?_
  intro p e s m args below meth c ls A R Q H locs K hin hAe hA hR hQ hP hK hD hS hl
  obtain ⟨hx, hb, hml, hrt, hlk, hts, hown, hno⟩ := id K
  have hl : lv_has ls 4 [(0, .ref mo), (1, .int (iZ (b : Int))), (2, .int (iZ (sl : Int)))] := hl
  have hn9 := hKB.n hs64
  rw [← ovr_0 fw b (kv sl)] at hP hD
  refine lv_iconst (v := iZ (0)) hx hb d_Mo_load_0 (by decide +kernel) ?_
  refine lv_istore_n (lv' := [(3, .int (iZ 0)), (0, .ref mo), (1, .int (iZ (b : Int))), (2, .int (iZ (sl : Int)))]) hx hb d_Mo_load_1 rfl hl (by decide) rfl (fun ls hl => ?_)
  have L2 : ∀ (N : Nat) (k : Nat) (H : Heap) (locs : List Loc) (ls : Array Slot), nd (kv sl) - k < N → (k ≤ nd (kv sl)) → va_P D cls0 [(mo, .inr (8, [.int qc, .int (iZ (np : Int)), .ref ow, .ref om, .ref ok_, .ref oK, .ref og, .ref on_, .ref oh, .ref ox, .int qn, .int qf, .ref op_, .int ql])), (ow, .inl (cI, 108000, .inl (ovr fw b k (kv sl)))), (om, .inl (cI, 9, .inl fm)), (ok_, .inl (cI, 166400, .inl fk)), (oK, .inl (cI, 64, .inl fK))] H → va_D A [(mo, .inr (8, [.int qc, .int (iZ (np : Int)), .ref ow, .ref om, .ref ok_, .ref oK, .ref og, .ref on_, .ref oh, .ref ox, .int qn, .int qf, .ref op_, .int ql])), (ow, .inl (cI, 108000, .inl (ovr fw b k (kv sl)))), (om, .inl (cI, 9, .inl fm)), (ok_, .inl (cI, 166400, .inl fk)), (oK, .inl (cI, 64, .inl fK))] → va_S A s.heap H locs → lv_has ls 4 [(0, .ref mo), (1, .int (iZ (b : Int))), (2, .int (iZ (sl : Int))), (3, .int (iZ (k : Int)))] → W p l e R s m args below meth c H locs 0 0 Q (F0 m 2 ls []) := by
    intro N
    induction N with
    | zero => intro k H locs ls hN; exact absurd hN (Nat.not_lt_zero _)
    | succ N ih =>
      intro k H locs ls hN ik hP hD hS hl
      refine lv_iload_n hx hb d_Mo_load_2 rfl (lv_at hl 3 rfl) ?_
      refine lv_aload_n hx hb d_Mo_load_3 rfl (lv_at hl 0 rfl) ?_
      refine va_get (D := D) (ci := 8) (v := .ref oK) (C := R_Mo) (T := F_Mo) (N := 14) hx hb hts i_Mo hown hK hP 0 rfl rfl 5 (by decide) (hts _ (big_in mw_1120 rfl)) (fun _ h9 => h9) rfl d_Mo_load_4 ?_
      refine lv_iload_n hx hb d_Mo_load_7 rfl (lv_at hl 2 rfl) ?_
      refine zz_iald hx hb hK hP 4 0 rfl rfl (sl) (by omega) (by omega) (by omega) d_Mo_load_8 ?_
      rw [hKB.m hs64]
      refine zz_icmp_ge (tgt := 42) hx hb d_Mo_load_9 (by decide) (by omega) (by omega) (fun c9 => ?_) (fun c9 => ?_)
      · refine lv_aload_n hx hb d_Mo_load_42 rfl (lv_at hl 0 rfl) ?_
        refine va_get (D := D) (ci := 8) (v := .ref om) (C := R_Mo) (T := F_Mo) (N := 14) hx hb hts i_Mo hown hK hP 0 rfl rfl 3 (by decide) (hts _ (big_in mw_1118 rfl)) (fun _ h9 => h9) rfl d_Mo_load_43 ?_
        refine lv_iload_n hx hb d_Mo_load_46 rfl (lv_at hl 1 rfl) ?_
        refine lv_aload_n hx hb d_Mo_load_47 rfl (lv_at hl 0 rfl) ?_
        refine va_get (D := D) (ci := 8) (v := .ref oK) (C := R_Mo) (T := F_Mo) (N := 14) hx hb hts i_Mo hown hK hP 0 rfl rfl 5 (by decide) (hts _ (big_in mw_1120 rfl)) (fun _ h9 => h9) rfl d_Mo_load_48 ?_
        refine lv_iload_n hx hb d_Mo_load_51 rfl (lv_at hl 2 rfl) ?_
        refine zz_iald hx hb hK hP 4 0 rfl rfl (sl) (by omega) (by omega) (by omega) d_Mo_load_52 ?_
        rw [hKB.m hs64]
        refine zz_iast hx hb hK hP hD hS 2 0 rfl rfl (b) (by omega) (by omega) (by omega) d_Mo_load_53 (fun H locs hP hD hS => ?_)
        have hP : va_P D cls0 [(mo, .inr (8, [.int qc, .int (iZ (np : Int)), .ref ow, .ref om, .ref ok_, .ref oK, .ref og, .ref on_, .ref oh, .ref ox, .int qn, .int qf, .ref op_, .int ql])), (ow, .inl (cI, 108000, .inl (ovr fw b k (kv sl)))), (om, .inl (cI, 9, .inl (upd fm b (iZ (nd (kv sl) : Int))))), (ok_, .inl (cI, 166400, .inl fk)), (oK, .inl (cI, 64, .inl fK))] H := hP
        have hD : va_D A [(mo, .inr (8, [.int qc, .int (iZ (np : Int)), .ref ow, .ref om, .ref ok_, .ref oK, .ref og, .ref on_, .ref oh, .ref ox, .int qn, .int qf, .ref op_, .int ql])), (ow, .inl (cI, 108000, .inl (ovr fw b k (kv sl)))), (om, .inl (cI, 9, .inl (upd fm b (iZ (nd (kv sl) : Int))))), (ok_, .inl (cI, 166400, .inl fk)), (oK, .inl (cI, 64, .inl fK))] := hD
        have hP9 : va_P D cls0 [(mo, .inr (8, [.int qc, .int (iZ (np : Int)), .ref ow, .ref om, .ref ok_, .ref oK, .ref og, .ref on_, .ref oh, .ref ox, .int qn, .int qf, .ref op_, .int ql])), (ow, .inl (cI, 108000, .inl (ovr fw b k (kv sl)))), (om, .inl (cI, 9, .inl (upd fm b (iZ (nd (kv sl) : Int))))), (ok_, .inl (cI, 166400, .inl fk)), (oK, .inl (cI, 64, .inl fK))] H := hP.sub [0, 1, 2, 3, 4] rfl
        have hD9 : va_D A [(mo, .inr (8, [.int qc, .int (iZ (np : Int)), .ref ow, .ref om, .ref ok_, .ref oK, .ref og, .ref on_, .ref oh, .ref ox, .int qn, .int qf, .ref op_, .int ql])), (ow, .inl (cI, 108000, .inl (ovr fw b k (kv sl)))), (om, .inl (cI, 9, .inl (upd fm b (iZ (nd (kv sl) : Int))))), (ok_, .inl (cI, 166400, .inl fk)), (oK, .inl (cI, 64, .inl fK))] := hD.sub [0, 1, 2, 3, 4] (by decide) rfl
        rw [hQ, ← hAe]
        refine r_v K (ovr fw b k (kv sl), upd fm b (iZ (nd (kv sl) : Int))) hS d_Mo_load_54 ?_ (fun t ht hv => ?_)
        · try dsimp only
          exact ⟨rfl, hW.set (by omega) (by omega) rfl⟩
        · exact ⟨by rw [ht]; exact hP9, va_K.moved hv hK, by rw [← hAe]; exact hD9⟩
      · refine lv_aload_n hx hb d_Mo_load_12 rfl (lv_at hl 0 rfl) ?_
        refine va_get (D := D) (ci := 8) (v := .ref ow) (C := R_Mo) (T := F_Mo) (N := 14) hx hb hts i_Mo hown hK hP 0 rfl rfl 2 (by decide) (hts _ (big_in mw_1117 rfl)) (fun _ h9 => h9) rfl d_Mo_load_13 ?_
        refine lv_sipush (v := iZ (12000)) hx hb d_Mo_load_16 (by decide +kernel) ?_
        refine lv_iload_n hx hb d_Mo_load_19 rfl (lv_at hl 1 rfl) ?_
        refine zz_imul hx hb d_Mo_load_20 ?_
        refine lv_iload_n hx hb d_Mo_load_21 rfl (lv_at hl 3 rfl) ?_
        refine zz_iadd hx hb d_Mo_load_22 ?_
        refine lv_aload_n hx hb d_Mo_load_23 rfl (lv_at hl 0 rfl) ?_
        refine va_get (D := D) (ci := 8) (v := .ref ok_) (C := R_Mo) (T := F_Mo) (N := 14) hx hb hts i_Mo hown hK hP 0 rfl rfl 4 (by decide) (hts _ (big_in mw_1119 rfl)) (fun _ h9 => h9) rfl d_Mo_load_24 ?_
        refine lv_sipush (v := iZ (2600)) hx hb d_Mo_load_27 (by decide +kernel) ?_
        refine lv_iload_n hx hb d_Mo_load_30 rfl (lv_at hl 2 rfl) ?_
        refine zz_imul hx hb d_Mo_load_31 ?_
        refine lv_iload_n hx hb d_Mo_load_32 rfl (lv_at hl 3 rfl) ?_
        refine zz_iadd hx hb d_Mo_load_33 ?_
        refine zz_iald hx hb hK hP 3 0 rfl rfl (2600 * sl + k) (by omega) (by omega) (by omega) d_Mo_load_34 ?_
        rw [hKB.d hs64 (by omega)]
        refine zz_iast hx hb hK hP hD hS 1 0 rfl rfl (12000 * b + k) (by omega) (by omega) (by omega) d_Mo_load_35 (fun H locs hP hD hS => ?_)
        have hP : va_P D cls0 [(mo, .inr (8, [.int qc, .int (iZ (np : Int)), .ref ow, .ref om, .ref ok_, .ref oK, .ref og, .ref on_, .ref oh, .ref ox, .int qn, .int qf, .ref op_, .int ql])), (ow, .inl (cI, 108000, .inl (upd (ovr fw b k (kv sl)) (12000 * b + k) (iZ (dz (kv sl) k : Int))))), (om, .inl (cI, 9, .inl fm)), (ok_, .inl (cI, 166400, .inl fk)), (oK, .inl (cI, 64, .inl fK))] H := hP
        have hD : va_D A [(mo, .inr (8, [.int qc, .int (iZ (np : Int)), .ref ow, .ref om, .ref ok_, .ref oK, .ref og, .ref on_, .ref oh, .ref ox, .int qn, .int qf, .ref op_, .int ql])), (ow, .inl (cI, 108000, .inl (upd (ovr fw b k (kv sl)) (12000 * b + k) (iZ (dz (kv sl) k : Int))))), (om, .inl (cI, 9, .inl fm)), (ok_, .inl (cI, 166400, .inl fk)), (oK, .inl (cI, 64, .inl fK))] := hD
        rw [ovr_s (rfl)] at hP hD
        refine lv_iinc (v := iZ ((k : Int) + 1)) (lv' := [(3, .int (iZ ((k : Int) + 1))), (0, .ref mo), (1, .int (iZ (b : Int))), (2, .int (iZ (sl : Int)))]) hx hb d_Mo_load_36 hl (k := 3) rfl (iZ_add _ _) (by decide) rfl (fun ls hl => ?_)
        refine lv_goto (tgt := 2) hx hb d_Mo_load_39 (by decide) ?_
        rw [show ((k : Int) + 1 : Int) = ((k + 1 : Nat) : Int) by omega] at hl
        exact ih (k + 1) _ _ _ (by omega) (by omega) (hP.sub (ws' := [(mo, .inr (8, [.int qc, .int (iZ (np : Int)), .ref ow, .ref om, .ref ok_, .ref oK, .ref og, .ref on_, .ref oh, .ref ox, .int qn, .int qf, .ref op_, .int ql])), (ow, .inl (cI, 108000, .inl (ovr fw b (k + 1) (kv sl)))), (om, .inl (cI, 9, .inl fm)), (ok_, .inl (cI, 166400, .inl fk)), (oK, .inl (cI, 64, .inl fK))]) [0, 1, 2, 3, 4] rfl) (hD.sub (ws' := [(mo, .inr (8, [.int qc, .int (iZ (np : Int)), .ref ow, .ref om, .ref ok_, .ref oK, .ref og, .ref on_, .ref oh, .ref ox, .int qn, .int qf, .ref op_, .int ql])), (ow, .inl (cI, 108000, .inl (ovr fw b (k + 1) (kv sl)))), (om, .inl (cI, 9, .inl fm)), (ok_, .inl (cI, 166400, .inl fk)), (oK, .inl (cI, 64, .inl fK))]) [0, 1, 2, 3, 4] (by decide) rfl) hS (lv_sub hl [1, 2, 3, 0] rfl)
  exact L2 _ 0 _ _ _ (Nat.lt_succ_self _) (by omega) (hP.sub (ws' := [(mo, .inr (8, [.int qc, .int (iZ (np : Int)), .ref ow, .ref om, .ref ok_, .ref oK, .ref og, .ref on_, .ref oh, .ref ox, .int qn, .int qf, .ref op_, .int ql])), (ow, .inl (cI, 108000, .inl (ovr fw b 0 (kv sl)))), (om, .inl (cI, 9, .inl fm)), (ok_, .inl (cI, 166400, .inl fk)), (oK, .inl (cI, 64, .inl fK))]) [0, 1, 2, 3, 4] rfl) (hD.sub (ws' := [(mo, .inr (8, [.int qc, .int (iZ (np : Int)), .ref ow, .ref om, .ref ok_, .ref oK, .ref og, .ref on_, .ref oh, .ref ox, .int qn, .int qf, .ref op_, .int ql])), (ow, .inl (cI, 108000, .inl (ovr fw b 0 (kv sl)))), (om, .inl (cI, 9, .inl fm)), (ok_, .inl (cI, 166400, .inl fk)), (oK, .inl (cI, 64, .inl fK))]) [0, 1, 2, 3, 4] (by decide) rfl) hS (lv_sub hl [1, 2, 3, 0] rfl)
set_option maxHeartbeats 4000000 in
set_option maxRecDepth 100000 in
/-- keep(slot, b) -/
theorem c_Mo_keep (l : Launch) (D : va_G) (mo : Nat) (qc : Int32) (np : Nat) (ow : Nat) (om : Nat) (ok_ : Nat) (oK : Nat) (og : Nat) (on_ : Nat) (oh : Nat) (ox : Nat) (qn : Int32) (qf : Int32) (op_ : Nat) (ql : Int32) (fw : Nat → Int32) (fm : Nat → Int32) (cI : ClassId) (fk : Nat → Int32) (fK : Nat → Int32) (val : Nat → Nat) (kv : Nat → Nat) (sl : Nat) (b : Nat) (sz : Nat) (hW : WB fw fm val) (hKB : KB fk fK kv) (hb9 : b < 9) (hs64 : sl < 64) (hcap : nd (val b) ≤ 2600) : Met l y_Mo_keep (wsB y_Mo_keep b_Mo_keep 4 none) ({ frames := 0, cells := 0, slots := 0, locals := 0 }) (va_Pc [.ref mo, .int (iZ (sl : Int)), .int (iZ (b : Int))] (wPre D [(cI, .int)] [(mo, .inr (8, [.int qc, .int (iZ (np : Int)), .ref ow, .ref om, .ref ok_, .ref oK, .ref og, .ref on_, .ref oh, .ref ox, .int qn, .int qf, .ref op_, .int ql])), (ow, .inl (cI, 108000, .inl fw)), (om, .inl (cI, 9, .inl fm)), (ok_, .inl (cI, 166400, .inl fk)), (oK, .inl (cI, 64, .inl fK))] sz)) (va_QV (fun (v_9 : Option Value) (u_9 : (Nat → Int32) × (Nat → Int32)) => v_9 = none ∧ (KB u_9.1 u_9.2 (up kv sl (val b)))) (fun u_9 => wPost D [(cI, .int)] [(mo, .inr (8, [.int qc, .int (iZ (np : Int)), .ref ow, .ref om, .ref ok_, .ref oK, .ref og, .ref on_, .ref oh, .ref ox, .int qn, .int qf, .ref op_, .int ql])), (ow, .inl (cI, 108000, .inl fw)), (om, .inl (cI, 9, .inl fm)), (ok_, .inl (cI, 166400, .inl fk)), (oK, .inl (cI, 64, .inl fK))] [(mo, .inr (8, [.int qc, .int (iZ (np : Int)), .ref ow, .ref om, .ref ok_, .ref oK, .ref og, .ref on_, .ref oh, .ref ox, .int qn, .int qf, .ref op_, .int ql])), (ow, .inl (cI, 108000, .inl fw)), (om, .inl (cI, 9, .inl fm)), (ok_, .inl (cI, 166400, .inl u_9.1)), (oK, .inl (cI, 64, .inl u_9.2))] sz) (va_A [(mo, .inr (8, [.int qc, .int (iZ (np : Int)), .ref ow, .ref om, .ref ok_, .ref oK, .ref og, .ref on_, .ref oh, .ref ox, .int qn, .int qf, .ref op_, .int ql])), (ow, .inl (cI, 108000, .inl fw)), (om, .inl (cI, 9, .inl fm)), (ok_, .inl (cI, 166400, .inl fk)), (oK, .inl (cI, 64, .inl fK))] sz)) 0 0 (va_A [(mo, .inr (8, [.int qc, .int (iZ (np : Int)), .ref ow, .ref om, .ref ok_, .ref oK, .ref og, .ref on_, .ref oh, .ref ox, .int qn, .int qf, .ref op_, .int ql])), (ow, .inl (cI, 108000, .inl fw)), (om, .inl (cI, 9, .inl fm)), (ok_, .inl (cI, 166400, .inl fk)), (oK, .inl (cI, 64, .inl fK))] sz) := by
  refine met_enter (by decide +kernel) (Nat.le_of_ble_eq_true rfl) ?_
  intro p e s m args below meth c ls A R Q H locs K hin hAe hA hR hQ hP hK hD hS hl
  obtain ⟨hx, hb, hml, hrt, hlk, hts, hown, hno⟩ := id K
  have hl : lv_has ls 4 [(0, .ref mo), (1, .int (iZ (sl : Int))), (2, .int (iZ (b : Int)))] := hl
  rw [← ovk_0 fk sl (val b)] at hP hD
  refine lv_iconst (v := iZ (0)) hx hb d_Mo_keep_0 (by decide +kernel) ?_
  refine lv_istore_n (lv' := [(3, .int (iZ 0)), (0, .ref mo), (1, .int (iZ (sl : Int))), (2, .int (iZ (b : Int)))]) hx hb d_Mo_keep_1 rfl hl (by decide) rfl (fun ls hl => ?_)
  have L2 : ∀ (N : Nat) (k : Nat) (H : Heap) (locs : List Loc) (ls : Array Slot), nd (val b) - k < N → (k ≤ nd (val b)) → va_P D cls0 [(mo, .inr (8, [.int qc, .int (iZ (np : Int)), .ref ow, .ref om, .ref ok_, .ref oK, .ref og, .ref on_, .ref oh, .ref ox, .int qn, .int qf, .ref op_, .int ql])), (ow, .inl (cI, 108000, .inl fw)), (om, .inl (cI, 9, .inl fm)), (ok_, .inl (cI, 166400, .inl (ovk fk sl k (val b)))), (oK, .inl (cI, 64, .inl fK))] H → va_D A [(mo, .inr (8, [.int qc, .int (iZ (np : Int)), .ref ow, .ref om, .ref ok_, .ref oK, .ref og, .ref on_, .ref oh, .ref ox, .int qn, .int qf, .ref op_, .int ql])), (ow, .inl (cI, 108000, .inl fw)), (om, .inl (cI, 9, .inl fm)), (ok_, .inl (cI, 166400, .inl (ovk fk sl k (val b)))), (oK, .inl (cI, 64, .inl fK))] → va_S A s.heap H locs → lv_has ls 4 [(0, .ref mo), (1, .int (iZ (sl : Int))), (2, .int (iZ (b : Int))), (3, .int (iZ (k : Int)))] → W p l e R s m args below meth c H locs 0 0 Q (F0 m 2 ls []) := by
    intro N
    induction N with
    | zero => intro k H locs ls hN; exact absurd hN (Nat.not_lt_zero _)
    | succ N ih =>
      intro k H locs ls hN ik hP hD hS hl
      refine lv_iload_n hx hb d_Mo_keep_2 rfl (lv_at hl 3 rfl) ?_
      refine lv_aload_n hx hb d_Mo_keep_3 rfl (lv_at hl 0 rfl) ?_
      refine va_get (D := D) (ci := 8) (v := .ref om) (C := R_Mo) (T := F_Mo) (N := 14) hx hb hts i_Mo hown hK hP 0 rfl rfl 3 (by decide) (hts _ (big_in mw_1118 rfl)) (fun _ h9 => h9) rfl d_Mo_keep_4 ?_
      refine lv_iload_n hx hb d_Mo_keep_7 rfl (lv_at hl 2 rfl) ?_
      refine zz_iald hx hb hK hP 2 0 rfl rfl (b) (by omega) (by omega) (by omega) d_Mo_keep_8 ?_
      rw [hW.m hb9]
      refine zz_icmp_ge (tgt := 42) hx hb d_Mo_keep_9 (by decide) (by omega) (by omega) (fun c9 => ?_) (fun c9 => ?_)
      · refine lv_aload_n hx hb d_Mo_keep_42 rfl (lv_at hl 0 rfl) ?_
        refine va_get (D := D) (ci := 8) (v := .ref oK) (C := R_Mo) (T := F_Mo) (N := 14) hx hb hts i_Mo hown hK hP 0 rfl rfl 5 (by decide) (hts _ (big_in mw_1120 rfl)) (fun _ h9 => h9) rfl d_Mo_keep_43 ?_
        refine lv_iload_n hx hb d_Mo_keep_46 rfl (lv_at hl 1 rfl) ?_
        refine lv_aload_n hx hb d_Mo_keep_47 rfl (lv_at hl 0 rfl) ?_
        refine va_get (D := D) (ci := 8) (v := .ref om) (C := R_Mo) (T := F_Mo) (N := 14) hx hb hts i_Mo hown hK hP 0 rfl rfl 3 (by decide) (hts _ (big_in mw_1118 rfl)) (fun _ h9 => h9) rfl d_Mo_keep_48 ?_
        refine lv_iload_n hx hb d_Mo_keep_51 rfl (lv_at hl 2 rfl) ?_
        refine zz_iald hx hb hK hP 2 0 rfl rfl (b) (by omega) (by omega) (by omega) d_Mo_keep_52 ?_
        rw [hW.m hb9]
        refine zz_iast hx hb hK hP hD hS 4 0 rfl rfl (sl) (by omega) (by omega) (by omega) d_Mo_keep_53 (fun H locs hP hD hS => ?_)
        have hP : va_P D cls0 [(mo, .inr (8, [.int qc, .int (iZ (np : Int)), .ref ow, .ref om, .ref ok_, .ref oK, .ref og, .ref on_, .ref oh, .ref ox, .int qn, .int qf, .ref op_, .int ql])), (ow, .inl (cI, 108000, .inl fw)), (om, .inl (cI, 9, .inl fm)), (ok_, .inl (cI, 166400, .inl (ovk fk sl k (val b)))), (oK, .inl (cI, 64, .inl (upd fK sl (iZ (nd (val b) : Int)))))] H := hP
        have hD : va_D A [(mo, .inr (8, [.int qc, .int (iZ (np : Int)), .ref ow, .ref om, .ref ok_, .ref oK, .ref og, .ref on_, .ref oh, .ref ox, .int qn, .int qf, .ref op_, .int ql])), (ow, .inl (cI, 108000, .inl fw)), (om, .inl (cI, 9, .inl fm)), (ok_, .inl (cI, 166400, .inl (ovk fk sl k (val b)))), (oK, .inl (cI, 64, .inl (upd fK sl (iZ (nd (val b) : Int)))))] := hD
        have hP9 : va_P D cls0 [(mo, .inr (8, [.int qc, .int (iZ (np : Int)), .ref ow, .ref om, .ref ok_, .ref oK, .ref og, .ref on_, .ref oh, .ref ox, .int qn, .int qf, .ref op_, .int ql])), (ow, .inl (cI, 108000, .inl fw)), (om, .inl (cI, 9, .inl fm)), (ok_, .inl (cI, 166400, .inl (ovk fk sl k (val b)))), (oK, .inl (cI, 64, .inl (upd fK sl (iZ (nd (val b) : Int)))))] H := hP.sub [0, 1, 2, 3, 4] rfl
        have hD9 : va_D A [(mo, .inr (8, [.int qc, .int (iZ (np : Int)), .ref ow, .ref om, .ref ok_, .ref oK, .ref og, .ref on_, .ref oh, .ref ox, .int qn, .int qf, .ref op_, .int ql])), (ow, .inl (cI, 108000, .inl fw)), (om, .inl (cI, 9, .inl fm)), (ok_, .inl (cI, 166400, .inl (ovk fk sl k (val b)))), (oK, .inl (cI, 64, .inl (upd fK sl (iZ (nd (val b) : Int)))))] := hD.sub [0, 1, 2, 3, 4] (by decide) rfl
        rw [hQ, ← hAe]
        refine r_v K (ovk fk sl k (val b), upd fK sl (iZ (nd (val b) : Int))) hS d_Mo_keep_54 ?_ (fun t ht hv => ?_)
        · try dsimp only
          exact ⟨rfl, hKB.set (by omega) (by omega) rfl⟩
        · exact ⟨by rw [ht]; exact hP9, va_K.moved hv hK, by rw [← hAe]; exact hD9⟩
      · refine lv_aload_n hx hb d_Mo_keep_12 rfl (lv_at hl 0 rfl) ?_
        refine va_get (D := D) (ci := 8) (v := .ref ok_) (C := R_Mo) (T := F_Mo) (N := 14) hx hb hts i_Mo hown hK hP 0 rfl rfl 4 (by decide) (hts _ (big_in mw_1119 rfl)) (fun _ h9 => h9) rfl d_Mo_keep_13 ?_
        refine lv_sipush (v := iZ (2600)) hx hb d_Mo_keep_16 (by decide +kernel) ?_
        refine lv_iload_n hx hb d_Mo_keep_19 rfl (lv_at hl 1 rfl) ?_
        refine zz_imul hx hb d_Mo_keep_20 ?_
        refine lv_iload_n hx hb d_Mo_keep_21 rfl (lv_at hl 3 rfl) ?_
        refine zz_iadd hx hb d_Mo_keep_22 ?_
        refine lv_aload_n hx hb d_Mo_keep_23 rfl (lv_at hl 0 rfl) ?_
        refine va_get (D := D) (ci := 8) (v := .ref ow) (C := R_Mo) (T := F_Mo) (N := 14) hx hb hts i_Mo hown hK hP 0 rfl rfl 2 (by decide) (hts _ (big_in mw_1117 rfl)) (fun _ h9 => h9) rfl d_Mo_keep_24 ?_
        refine lv_sipush (v := iZ (12000)) hx hb d_Mo_keep_27 (by decide +kernel) ?_
        refine lv_iload_n hx hb d_Mo_keep_30 rfl (lv_at hl 2 rfl) ?_
        refine zz_imul hx hb d_Mo_keep_31 ?_
        refine lv_iload_n hx hb d_Mo_keep_32 rfl (lv_at hl 3 rfl) ?_
        refine zz_iadd hx hb d_Mo_keep_33 ?_
        refine zz_iald hx hb hK hP 1 0 rfl rfl (12000 * b + k) (by omega) (by omega) (by omega) d_Mo_keep_34 ?_
        rw [hW.d hb9 (by omega)]
        refine zz_iast hx hb hK hP hD hS 3 0 rfl rfl (2600 * sl + k) (by omega) (by omega) (by omega) d_Mo_keep_35 (fun H locs hP hD hS => ?_)
        have hP : va_P D cls0 [(mo, .inr (8, [.int qc, .int (iZ (np : Int)), .ref ow, .ref om, .ref ok_, .ref oK, .ref og, .ref on_, .ref oh, .ref ox, .int qn, .int qf, .ref op_, .int ql])), (ow, .inl (cI, 108000, .inl fw)), (om, .inl (cI, 9, .inl fm)), (ok_, .inl (cI, 166400, .inl (upd (ovk fk sl k (val b)) (2600 * sl + k) (iZ (dz (val b) k : Int))))), (oK, .inl (cI, 64, .inl fK))] H := hP
        have hD : va_D A [(mo, .inr (8, [.int qc, .int (iZ (np : Int)), .ref ow, .ref om, .ref ok_, .ref oK, .ref og, .ref on_, .ref oh, .ref ox, .int qn, .int qf, .ref op_, .int ql])), (ow, .inl (cI, 108000, .inl fw)), (om, .inl (cI, 9, .inl fm)), (ok_, .inl (cI, 166400, .inl (upd (ovk fk sl k (val b)) (2600 * sl + k) (iZ (dz (val b) k : Int))))), (oK, .inl (cI, 64, .inl fK))] := hD
        rw [ovk_s rfl] at hP hD
        refine lv_iinc (v := iZ ((k : Int) + 1)) (lv' := [(3, .int (iZ ((k : Int) + 1))), (0, .ref mo), (1, .int (iZ (sl : Int))), (2, .int (iZ (b : Int)))]) hx hb d_Mo_keep_36 hl (k := 3) rfl (iZ_add _ _) (by decide) rfl (fun ls hl => ?_)
        refine lv_goto (tgt := 2) hx hb d_Mo_keep_39 (by decide) ?_
        rw [show ((k : Int) + 1 : Int) = ((k + 1 : Nat) : Int) by omega] at hl
        exact ih (k + 1) _ _ _ (by omega) (by omega) (hP.sub (ws' := [(mo, .inr (8, [.int qc, .int (iZ (np : Int)), .ref ow, .ref om, .ref ok_, .ref oK, .ref og, .ref on_, .ref oh, .ref ox, .int qn, .int qf, .ref op_, .int ql])), (ow, .inl (cI, 108000, .inl fw)), (om, .inl (cI, 9, .inl fm)), (ok_, .inl (cI, 166400, .inl (ovk fk sl (k + 1) (val b)))), (oK, .inl (cI, 64, .inl fK))]) [0, 1, 2, 3, 4] rfl) (hD.sub (ws' := [(mo, .inr (8, [.int qc, .int (iZ (np : Int)), .ref ow, .ref om, .ref ok_, .ref oK, .ref og, .ref on_, .ref oh, .ref ox, .int qn, .int qf, .ref op_, .int ql])), (ow, .inl (cI, 108000, .inl fw)), (om, .inl (cI, 9, .inl fm)), (ok_, .inl (cI, 166400, .inl (ovk fk sl (k + 1) (val b)))), (oK, .inl (cI, 64, .inl fK))]) [0, 1, 2, 3, 4] (by decide) rfl) hS (lv_sub hl [1, 2, 3, 0] rfl)
  exact L2 _ 0 _ _ _ (Nat.lt_succ_self _) (by omega) (hP.sub (ws' := [(mo, .inr (8, [.int qc, .int (iZ (np : Int)), .ref ow, .ref om, .ref ok_, .ref oK, .ref og, .ref on_, .ref oh, .ref ox, .int qn, .int qf, .ref op_, .int ql])), (ow, .inl (cI, 108000, .inl fw)), (om, .inl (cI, 9, .inl fm)), (ok_, .inl (cI, 166400, .inl (ovk fk sl 0 (val b)))), (oK, .inl (cI, 64, .inl fK))]) [0, 1, 2, 3, 4] rfl) (hD.sub (ws' := [(mo, .inr (8, [.int qc, .int (iZ (np : Int)), .ref ow, .ref om, .ref ok_, .ref oK, .ref og, .ref on_, .ref oh, .ref ox, .int qn, .int qf, .ref op_, .int ql])), (ow, .inl (cI, 108000, .inl fw)), (om, .inl (cI, 9, .inl fm)), (ok_, .inl (cI, 166400, .inl (ovk fk sl 0 (val b)))), (oK, .inl (cI, 64, .inl fK))]) [0, 1, 2, 3, 4] (by decide) rfl) hS (lv_sub hl [1, 2, 3, 0] rfl)
def nSum (g : Nat → Nat) : Nat → Nat
  | 0 => 0
  | k + 1 => nSum g k + g k
theorem nSum_le {g : Nat → Nat} {B : Nat} : ∀ k, (∀ i, i < k → g i ≤ B) → nSum g k ≤ k * B
  | 0, _ => by rw [Nat.zero_mul]; exact Nat.le_refl _
  | k + 1, h => by rw [Nat.succ_mul]; exact Nat.add_le_add (nSum_le k (fun i hi => h i (by omega))) (h k (by omega))
set_option maxHeartbeats 4000000 in
set_option maxRecDepth 100000 in
/-- used() -/
theorem c_Mo_used (l : Launch) (D : va_G) (mo : Nat) (qc : Int32) (np : Nat) (ow : Nat) (om : Nat) (ok_ : Nat) (oK : Nat) (og : Nat) (on_ : Nat) (oh : Nat) (ox : Nat) (qn : Int32) (qf : Int32) (op_ : Nat) (ql : Int32) (fn : Nat → Int32) (cI : ClassId) (nr : Nat → Nat) (sz : Nat) (hN_ : ∀ r, r < 32 → fn r = iZ (nr r : Int)) (hB_ : ∀ r, r < 32 → nr r ≤ 10000) : Met l y_Mo_used (wsB y_Mo_used b_Mo_used 3 (some .int)) ({ frames := 0, cells := 0, slots := 0, locals := 0 }) (va_Pc [.ref mo] (wPre D [(cI, .int)] [(mo, .inr (8, [.int qc, .int (iZ (np : Int)), .ref ow, .ref om, .ref ok_, .ref oK, .ref og, .ref on_, .ref oh, .ref ox, .int qn, .int qf, .ref op_, .int ql])), (on_, .inl (cI, 32, .inl fn))] sz)) (va_QV (fun (v_9 : Option Value) (u_9 : Unit) => v_9 = some (.int (iZ (nSum nr 32 : Int)))) (fun u_9 => wPost D [(cI, .int)] [(mo, .inr (8, [.int qc, .int (iZ (np : Int)), .ref ow, .ref om, .ref ok_, .ref oK, .ref og, .ref on_, .ref oh, .ref ox, .int qn, .int qf, .ref op_, .int ql])), (on_, .inl (cI, 32, .inl fn))] [(mo, .inr (8, [.int (iZ 0), .int (iZ (np : Int)), .ref ow, .ref om, .ref ok_, .ref oK, .ref og, .ref on_, .ref oh, .ref ox, .int qn, .int qf, .ref op_, .int ql])), (on_, .inl (cI, 32, .inl fn))] sz) (va_A [(mo, .inr (8, [.int qc, .int (iZ (np : Int)), .ref ow, .ref om, .ref ok_, .ref oK, .ref og, .ref on_, .ref oh, .ref ox, .int qn, .int qf, .ref op_, .int ql])), (on_, .inl (cI, 32, .inl fn))] sz)) 0 0 (va_A [(mo, .inr (8, [.int qc, .int (iZ (np : Int)), .ref ow, .ref om, .ref ok_, .ref oK, .ref og, .ref on_, .ref oh, .ref ox, .int qn, .int qf, .ref op_, .int ql])), (on_, .inl (cI, 32, .inl fn))] sz) := by
  refine met_enter (by decide +kernel) (Nat.le_of_ble_eq_true rfl) ?_
  intro p e s m args below meth c ls A R Q H locs K hin hAe hA hR hQ hP hK hD hS hl
  obtain ⟨hx, hb, hml, hrt, hlk, hts, hown, hno⟩ := id K
  have hl : lv_has ls 3 [(0, .ref mo)] := hl
  refine lv_aload_n hx hb d_Mo_used_0 rfl (lv_at hl 0 rfl) ?_
  refine lv_iconst (v := iZ (0)) hx hb d_Mo_used_1 (by decide +kernel) ?_
  refine va_put (D := D) (ci := 8) (v := .int (iZ 0)) (ty := .int) (C := R_Mo) (T := F_Mo) (N := 14) hx hb hts i_Mo t_Mo t_Mo_ok n_Mo hown hK hP hD hS 0 rfl rfl 0 (by decide) (hts _ (big_in mw_1115 rfl)) (fun _ h9 => h9) rfl (by decide +kernel) rfl rfl (Nat.le_of_ble_eq_true rfl) d_Mo_used_2 (fun H locs hP hD hS => ?_)
  have hP : va_P D cls0 [(mo, .inr (8, [.int (iZ 0), .int (iZ (np : Int)), .ref ow, .ref om, .ref ok_, .ref oK, .ref og, .ref on_, .ref oh, .ref ox, .int qn, .int qf, .ref op_, .int ql])), (on_, .inl (cI, 32, .inl fn))] H := hP
  have hD : va_D A [(mo, .inr (8, [.int (iZ 0), .int (iZ (np : Int)), .ref ow, .ref om, .ref ok_, .ref oK, .ref og, .ref on_, .ref oh, .ref ox, .int qn, .int qf, .ref op_, .int ql])), (on_, .inl (cI, 32, .inl fn))] := hD
  refine lv_iconst (v := iZ (0)) hx hb d_Mo_used_5 (by decide +kernel) ?_
  refine lv_istore_n (lv' := [(1, .int (iZ 0)), (0, .ref mo)]) hx hb d_Mo_used_6 rfl hl (by decide) rfl (fun ls hl => ?_)
  refine lv_iconst (v := iZ (0)) hx hb d_Mo_used_7 (by decide +kernel) ?_
  refine lv_istore_n (lv' := [(2, .int (iZ 0)), (1, .int (iZ 0)), (0, .ref mo)]) hx hb d_Mo_used_8 rfl hl (by decide) rfl (fun ls hl => ?_)
  have L9 : ∀ (N : Nat) (k : Nat) (al : Nat) (H : Heap) (locs : List Loc) (ls : Array Slot), 32 - k < N → (k ≤ 32) → (al = nSum nr k) → va_P D cls0 [(mo, .inr (8, [.int (iZ 0), .int (iZ (np : Int)), .ref ow, .ref om, .ref ok_, .ref oK, .ref og, .ref on_, .ref oh, .ref ox, .int qn, .int qf, .ref op_, .int ql])), (on_, .inl (cI, 32, .inl fn))] H → va_D A [(mo, .inr (8, [.int (iZ 0), .int (iZ (np : Int)), .ref ow, .ref om, .ref ok_, .ref oK, .ref og, .ref on_, .ref oh, .ref ox, .int qn, .int qf, .ref op_, .int ql])), (on_, .inl (cI, 32, .inl fn))] → va_S A s.heap H locs → lv_has ls 3 [(0, .ref mo), (1, .int (iZ (al : Int))), (2, .int (iZ (k : Int)))] → W p l e R s m args below meth c H locs 0 0 Q (F0 m 9 ls []) := by
    intro N
    induction N with
    | zero => intro k al H locs ls hN; exact absurd hN (Nat.not_lt_zero _)
    | succ N ih =>
      intro k al H locs ls hN ik ia hP hD hS hl
      refine lv_iload_n hx hb d_Mo_used_9 rfl (lv_at hl 2 rfl) ?_
      refine lv_bipush (v := iZ (32)) hx hb d_Mo_used_10 (by decide +kernel) ?_
      refine zz_icmp_ge (tgt := 30) hx hb d_Mo_used_12 (by decide) (by omega) (by omega) (fun c12 => ?_) (fun c12 => ?_)
      · refine lv_iload_n hx hb d_Mo_used_30 rfl (lv_at hl 1 rfl) ?_
        have hP9 : va_P D cls0 [(mo, .inr (8, [.int (iZ 0), .int (iZ (np : Int)), .ref ow, .ref om, .ref ok_, .ref oK, .ref og, .ref on_, .ref oh, .ref ox, .int qn, .int qf, .ref op_, .int ql])), (on_, .inl (cI, 32, .inl fn))] H := hP.sub [0, 1] rfl
        have hD9 : va_D A [(mo, .inr (8, [.int (iZ 0), .int (iZ (np : Int)), .ref ow, .ref om, .ref ok_, .ref oK, .ref og, .ref on_, .ref oh, .ref ox, .int qn, .int qf, .ref op_, .int ql])), (on_, .inl (cI, 32, .inl fn))] := hD.sub [0, 1] (by decide) rfl
        rw [hQ, ← hAe]
        refine r_i (v := (iZ (al : Int))) K () hS d_Mo_used_31 ?_ (fun t ht hv => ?_)
        · have ek : k = 32 := by omega
          subst ek
          rw [ia]
        · exact ⟨by rw [ht]; exact hP9, va_K.moved hv hK, by rw [← hAe]; exact hD9⟩
      · have bk := hB_ k (by omega)
        have bs := nSum_le (g := nr) k (fun i hi => hB_ i (by omega))
        refine lv_iload_n hx hb d_Mo_used_15 rfl (lv_at hl 1 rfl) ?_
        refine lv_aload_n hx hb d_Mo_used_16 rfl (lv_at hl 0 rfl) ?_
        refine va_get (D := D) (ci := 8) (v := .ref on_) (C := R_Mo) (T := F_Mo) (N := 14) hx hb hts i_Mo hown hK hP 0 rfl rfl 7 (by decide) (hts _ (big_in mw_1122 rfl)) (fun _ h9 => h9) rfl d_Mo_used_17 ?_
        refine lv_iload_n hx hb d_Mo_used_20 rfl (lv_at hl 2 rfl) ?_
        refine zz_iald hx hb hK hP 1 0 rfl rfl (k) (by omega) (by omega) (by omega) d_Mo_used_21 ?_
        rw [hN_ k (by omega)]
        refine zz_iadd hx hb d_Mo_used_22 ?_
        refine lv_istore_n (lv' := [(1, .int (iZ ((al : Int) + (nr k : Int)))), (0, .ref mo), (2, .int (iZ (k : Int)))]) hx hb d_Mo_used_23 rfl hl (by decide) rfl (fun ls hl => ?_)
        refine lv_iinc (v := iZ ((k : Int) + 1)) (lv' := [(2, .int (iZ ((k : Int) + 1))), (1, .int (iZ ((al : Int) + (nr k : Int)))), (0, .ref mo)]) hx hb d_Mo_used_24 hl (k := 2) rfl (iZ_add _ _) (by decide) rfl (fun ls hl => ?_)
        refine lv_goto (tgt := 9) hx hb d_Mo_used_27 (by decide) ?_
        rw [show ((al : Int) + (nr k : Int) : Int) = ((al + nr k : Nat) : Int) by omega] at hl
        rw [show ((k : Int) + 1 : Int) = ((k + 1 : Nat) : Int) by omega] at hl
        exact ih (k + 1) (al + nr k) _ _ _ (by omega) (by omega) (by rw [ia]; rfl) (hP.sub (ws' := [(mo, .inr (8, [.int (iZ 0), .int (iZ (np : Int)), .ref ow, .ref om, .ref ok_, .ref oK, .ref og, .ref on_, .ref oh, .ref ox, .int qn, .int qf, .ref op_, .int ql])), (on_, .inl (cI, 32, .inl fn))]) [0, 1] rfl) (hD.sub (ws' := [(mo, .inr (8, [.int (iZ 0), .int (iZ (np : Int)), .ref ow, .ref om, .ref ok_, .ref oK, .ref og, .ref on_, .ref oh, .ref ox, .int qn, .int qf, .ref op_, .int ql])), (on_, .inl (cI, 32, .inl fn))]) [0, 1] (by decide) rfl) hS (lv_sub hl [2, 1, 0] rfl)
  exact L9 _ 0 0 _ _ _ (Nat.lt_succ_self _) (by omega) rfl (hP.sub (ws' := [(mo, .inr (8, [.int (iZ 0), .int (iZ (np : Int)), .ref ow, .ref om, .ref ok_, .ref oK, .ref og, .ref on_, .ref oh, .ref ox, .int qn, .int qf, .ref op_, .int ql])), (on_, .inl (cI, 32, .inl fn))]) [0, 1] rfl) (hD.sub (ws' := [(mo, .inr (8, [.int (iZ 0), .int (iZ (np : Int)), .ref ow, .ref om, .ref ok_, .ref oK, .ref og, .ref on_, .ref oh, .ref ox, .int qn, .int qf, .ref op_, .int ql])), (on_, .inl (cI, 32, .inl fn))]) [0, 1] (by decide) rfl) hS (lv_sub hl [2, 1, 0] rfl)
/-- how many halves -/
def HV (v n : Nat) : Prop := v < hB n ∧ (n = 0 ∨ hB (n - 1) ≤ v)
theorem hB_le {a b : Nat} (h : a ≤ b) : hB a ≤ hB b := Nat.pow_le_pow_right (by decide) h
theorem hB_two (n : Nat) : hB (2 * n) = pB n := by unfold hB pB; rw [Nat.pow_mul]
theorem HV_lm {v n : Nat} (h : HV v n) : (n + 1) / 2 = lm v := by
  apply Nat.le_antisymm
  · rcases h.2 with q | q
    · subst q; exact Nat.zero_le _
    · rcases Nat.eq_zero_or_pos n with z | z
      · subst z; exact Nat.zero_le _
      · have : (n + 1) / 2 - 1 < lm v := lm_lt.mpr (by rw [← hB_two]; exact Nat.le_trans (hB_le (by omega)) q)
        omega
  · apply lm_le.mpr
    rw [← hB_two]
    exact Nat.lt_of_lt_of_le h.1 (hB_le (by omega))
theorem hB_div (v n : Nat) : v / hB (n + 1) = v / hB n / 65536 := by rw [hB_s, Nat.div_div_eq_div_mul]
theorem ovh_u {fw : Nat → Int32} {t q e Q : Nat} {x : Int32} (hq : 0 < q) (hqe : q ≤ e) (h : x = iZ (dz Q (q - 1) : Int)) : upd (ovh fw t q e Q) (12000 * t + (q - 1)) x = ovh fw t (q - 1) e Q := by
  funext j
  by_cases r : j = 12000 * t + (q - 1)
  · rw [r, pk_us]
    unfold ovh
    rw [if_pos ⟨by omega, by omega⟩, h, show 12000 * t + (q - 1) - 12000 * t = q - 1 by omega]
  · rw [pk_un r]
    unfold ovh
    by_cases y : 12000 * t + q ≤ j ∧ j < 12000 * t + e
    · rw [if_pos y, if_pos (by omega)]
    · rw [if_neg y, if_neg (by omega)]
set_option maxHeartbeats 4000000 in
set_option maxRecDepth 100000 in
/-- parts(b) -/
theorem c_Mo_parts (l : Launch) (D : va_G) (mo : Nat) (qc : Int32) (np : Nat) (ow : Nat) (om : Nat) (ok_ : Nat) (oK : Nat) (og : Nat) (on_ : Nat) (oh : Nat) (ox : Nat) (qn : Int32) (qf : Int32) (op_ : Nat) (ql : Int32) (fw : Nat → Int32) (fm : Nat → Int32) (cI : ClassId) (fh : Nat → Int32) (val : Nat → Nat) (b : Nat) (sz : Nat) (hW : WB fw fm val) (hb9 : b < 9) (hb4 : b ≠ 4) (hcap : val b < hB 9990) : Met l y_Mo_parts (wsB y_Mo_parts b_Mo_parts 6 (some .int)) ({ frames := 1, cells := 0, slots := 0, locals := 23 }) (va_Pc [.ref mo, .int (iZ (b : Int))] (wPre D [(cI, .int)] [(mo, .inr (8, [.int qc, .int (iZ (np : Int)), .ref ow, .ref om, .ref ok_, .ref oK, .ref og, .ref on_, .ref oh, .ref ox, .int qn, .int qf, .ref op_, .int ql])), (ow, .inl (cI, 108000, .inl fw)), (om, .inl (cI, 9, .inl fm)), (oh, .inl (cI, 10000, .inl fh))] sz)) (va_QV (fun (v_9 : Option Value) (u_9 : Nat × (Nat → Int32) × (Nat → Int32) × (Nat → Int32)) => v_9 = some (.int (iZ (u_9.1 : Int))) ∧ (HV (val b) u_9.1) ∧ (WB u_9.2.1 u_9.2.2.1 (up val 4 0)) ∧ (∀ i, i < u_9.1 → u_9.2.2.2 i = iZ ((val b / hB i % 65536 : Nat) : Int))) (fun u_9 => wPost D [(cI, .int)] [(mo, .inr (8, [.int qc, .int (iZ (np : Int)), .ref ow, .ref om, .ref ok_, .ref oK, .ref og, .ref on_, .ref oh, .ref ox, .int qn, .int qf, .ref op_, .int ql])), (ow, .inl (cI, 108000, .inl fw)), (om, .inl (cI, 9, .inl fm)), (oh, .inl (cI, 10000, .inl fh))] [(mo, .inr (8, [.int qc, .int (iZ (np : Int)), .ref ow, .ref om, .ref ok_, .ref oK, .ref og, .ref on_, .ref oh, .ref ox, .int qn, .int qf, .ref op_, .int ql])), (ow, .inl (cI, 108000, .inl u_9.2.1)), (om, .inl (cI, 9, .inl u_9.2.2.1)), (oh, .inl (cI, 10000, .inl u_9.2.2.2))] sz) (va_A [(mo, .inr (8, [.int qc, .int (iZ (np : Int)), .ref ow, .ref om, .ref ok_, .ref oK, .ref og, .ref on_, .ref oh, .ref ox, .int qn, .int qf, .ref op_, .int ql])), (ow, .inl (cI, 108000, .inl fw)), (om, .inl (cI, 9, .inl fm)), (oh, .inl (cI, 10000, .inl fh))] sz)) 0 0 (va_A [(mo, .inr (8, [.int qc, .int (iZ (np : Int)), .ref ow, .ref om, .ref ok_, .ref oK, .ref og, .ref on_, .ref oh, .ref ox, .int qn, .int qf, .ref op_, .int ql])), (ow, .inl (cI, 108000, .inl fw)), (om, .inl (cI, 9, .inl fm)), (oh, .inl (cI, 10000, .inl fh))] sz) := by
  refine met_enter (by decide +kernel) (Nat.le_of_ble_eq_true rfl) ?_
  intro p e s m args below meth c ls A R Q H locs K hin hAe hA hR hQ hP hK hD hS hl
  obtain ⟨hx, hb, hml, hrt, hlk, hts, hown, hno⟩ := id K
  have hl : lv_has ls 6 [(0, .ref mo), (1, .int (iZ (b : Int)))] := hl
  refine lv_aload_n hx hb d_Mo_parts_0 rfl (lv_at hl 0 rfl) ?_
  refine lv_iconst (v := iZ (4)) hx hb d_Mo_parts_1 (by decide +kernel) ?_
  refine lv_iload_n hx hb d_Mo_parts_2 rfl (lv_at hl 1 rfl) ?_
  refine cv (n := 2) (wr := [(oh, .inl (cI, 10000, .inl fh))]) (w1 := (fun (u : (Nat → Int32) × (Nat → Int32)) => [(mo, .inr (8, [.int qc, .int (iZ (np : Int)), .ref ow, .ref om, .ref ok_, .ref oK, .ref og, .ref on_, .ref oh, .ref ox, .int qn, .int qf, .ref op_, .int ql])), (ow, .inl (cI, 108000, .inl u.1)), (om, .inl (cI, 9, .inl u.2))])) (As := [.int (iZ 4), .int (iZ (b : Int))]) (rest := []) K hP hD hK hS hA hl.1 (c_Mo_copyTo l D mo qc np ow om ok_ oK og on_ oh ox qn qf op_ ql fw fm cI val 4 b H.size hW (by omega) (by omega) (by omega)) [0, 1, 2] [3] [0] rfl rfl rfl (by decide) (by decide) (by decide) 0 rfl rfl (big_in mw_1193 rfl) (big_in mw_10 rfl) (big_in mw_1190 rfl) (big_in mw_1192 rfl) (big_in sp_22 rfl) rfl rfl (by decide +kernel) ⟨by rw [hR]; exact Nat.le_of_ble_eq_true rfl, by rw [hR]; exact Nat.le_of_ble_eq_true rfl⟩ rfl (Nat.le_of_ble_eq_true rfl) d_Mo_parts_3 ⟨by rw [hR]; exact Nat.le_of_ble_eq_true rfl, by rw [hR]; exact Nat.le_of_ble_eq_true rfl⟩ rfl (fun v u H locs hp1 hP hD hS _ => ?_)
  obtain ⟨fx0, fy0⟩ := u
  try dsimp only at hp1
  obtain ⟨rfl, w0⟩ := hp1
  have hP : va_P D cls0 [(oh, .inl (cI, 10000, .inl fh)), (mo, .inr (8, [.int qc, .int (iZ (np : Int)), .ref ow, .ref om, .ref ok_, .ref oK, .ref og, .ref on_, .ref oh, .ref ox, .int qn, .int qf, .ref op_, .int ql])), (ow, .inl (cI, 108000, .inl fx0)), (om, .inl (cI, 9, .inl fy0))] H := hP
  have hD : va_D A [(oh, .inl (cI, 10000, .inl fh)), (mo, .inr (8, [.int qc, .int (iZ (np : Int)), .ref ow, .ref om, .ref ok_, .ref oK, .ref og, .ref on_, .ref oh, .ref ox, .int qn, .int qf, .ref op_, .int ql])), (ow, .inl (cI, 108000, .inl fx0)), (om, .inl (cI, 9, .inl fy0))] := hD
  show W p l e R s m args below meth c H locs _ _ Q (F0 m 6 ls [])
  refine lv_iconst (v := iZ (0)) hx hb d_Mo_parts_6 (by decide +kernel) ?_
  refine lv_istore_n (lv' := [(2, .int (iZ 0)), (0, .ref mo), (1, .int (iZ (b : Int)))]) hx hb d_Mo_parts_7 rfl hl (by decide) rfl (fun ls hl => ?_)
  have L8 : ∀ (N : Nat) (n : Nat) (fx : Nat → Int32) (fy : Nat → Int32) (fg : Nat → Int32) (H : Heap) (locs : List Loc) (ls : Array Slot), (val b / hB n) < N → (WB fx fy (up val 4 (val b / hB n))) → (n = 0 ∨ hB (n - 1) ≤ val b) → (∀ i, i < n → fg i = iZ ((val b / hB i % 65536 : Nat) : Int)) → va_P D cls0 [(mo, .inr (8, [.int qc, .int (iZ (np : Int)), .ref ow, .ref om, .ref ok_, .ref oK, .ref og, .ref on_, .ref oh, .ref ox, .int qn, .int qf, .ref op_, .int ql])), (ow, .inl (cI, 108000, .inl fx)), (om, .inl (cI, 9, .inl fy)), (oh, .inl (cI, 10000, .inl fg))] H → va_D A [(mo, .inr (8, [.int qc, .int (iZ (np : Int)), .ref ow, .ref om, .ref ok_, .ref oK, .ref og, .ref on_, .ref oh, .ref ox, .int qn, .int qf, .ref op_, .int ql])), (ow, .inl (cI, 108000, .inl fx)), (om, .inl (cI, 9, .inl fy)), (oh, .inl (cI, 10000, .inl fg))] → va_S A s.heap H locs → lv_has ls 6 [(0, .ref mo), (1, .int (iZ (b : Int))), (2, .int (iZ (n : Int)))] → W p l e R s m args below meth c H locs 0 0 Q (F0 m 8 ls []) := by
    intro N
    induction N with
    | zero => intro n fx fy fg H locs ls hN; exact absurd hN (Nat.not_lt_zero _)
    | succ N ih =>
      intro n fx fy fg H locs ls hN iW i1 i2 hP hD hS hl
      have n4 : nd (val b / hB n) ≤ 12000 := by have z := iW.n (b := 4) (by decide); rw [up_s] at z; exact z
      refine lv_aload_n hx hb d_Mo_parts_8 rfl (lv_at hl 0 rfl) ?_
      refine va_get (D := D) (ci := 8) (v := .ref om) (C := R_Mo) (T := F_Mo) (N := 14) hx hb hts i_Mo hown hK hP 0 rfl rfl 3 (by decide) (hts _ (big_in mw_1118 rfl)) (fun _ h9 => h9) rfl d_Mo_parts_9 ?_
      refine lv_iconst (v := iZ (4)) hx hb d_Mo_parts_12 (by decide +kernel) ?_
      refine zz_iald hx hb hK hP 2 0 rfl rfl (4) (by omega) (by omega) (by omega) d_Mo_parts_13 ?_
      rw [iW.m (by decide), up_s]
      refine zz_if_le (tgt := 103) hx hb d_Mo_parts_14 (by decide) (by omega) (fun c14 => ?_) (fun c14 => ?_)
      · refine lv_iload_n hx hb d_Mo_parts_103 rfl (lv_at hl 2 rfl) ?_
        have hP9 : va_P D cls0 [(mo, .inr (8, [.int qc, .int (iZ (np : Int)), .ref ow, .ref om, .ref ok_, .ref oK, .ref og, .ref on_, .ref oh, .ref ox, .int qn, .int qf, .ref op_, .int ql])), (ow, .inl (cI, 108000, .inl fx)), (om, .inl (cI, 9, .inl fy)), (oh, .inl (cI, 10000, .inl fg))] H := hP.sub [0, 1, 2, 3] rfl
        have hD9 : va_D A [(mo, .inr (8, [.int qc, .int (iZ (np : Int)), .ref ow, .ref om, .ref ok_, .ref oK, .ref og, .ref on_, .ref oh, .ref ox, .int qn, .int qf, .ref op_, .int ql])), (ow, .inl (cI, 108000, .inl fx)), (om, .inl (cI, 9, .inl fy)), (oh, .inl (cI, 10000, .inl fg))] := hD.sub [0, 1, 2, 3] (by decide) rfl
        rw [hQ, ← hAe]
        refine r_i (v := (iZ (n : Int))) K (n, fx, fy, fg) hS d_Mo_parts_104 ?_ (fun t ht hv => ?_)
        · try dsimp only
          have y0 : (val b / hB n) = 0 := Nat.eq_zero_of_not_pos (fun z => by have y := nd_pos.mpr z; omega)
          refine ⟨rfl, ⟨?_, i1⟩, by rw [y0] at iW; exact iW, i2⟩
          exact (Nat.div_eq_zero_iff_lt (hB_pos n)).mp y0
        · exact ⟨by rw [ht]; exact hP9, va_K.moved hv hK, by rw [← hAe]; exact hD9⟩
      · have yp : 0 < (val b / hB n) := nd_pos.mp (by omega)
        have hle : hB n ≤ val b := by apply Nat.le_of_not_lt; intro z; rw [Nat.div_eq_of_lt z] at yp; omega
        have nb : n < 9990 := by apply Nat.lt_of_not_le; intro z; have y := hB_le z; omega
        refine lv_iconst (v := iZ (0)) hx hb d_Mo_parts_17 (by decide +kernel) ?_
        refine lv_istore_n (lv' := [(3, .int (iZ 0)), (0, .ref mo), (1, .int (iZ (b : Int))), (2, .int (iZ (n : Int)))]) hx hb d_Mo_parts_18 rfl hl (by decide) rfl (fun ls hl => ?_)
        refine lv_aload_n hx hb d_Mo_parts_19 rfl (lv_at hl 1 rfl) ?_
        refine va_get (D := D) (ci := 8) (v := .ref om) (C := R_Mo) (T := F_Mo) (N := 14) hx hb hts i_Mo hown hK hP 0 rfl rfl 3 (by decide) (hts _ (big_in mw_1118 rfl)) (fun _ h9 => h9) rfl d_Mo_parts_20 ?_
        refine lv_iconst (v := iZ (4)) hx hb d_Mo_parts_23 (by decide +kernel) ?_
        refine zz_iald hx hb hK hP 2 0 rfl rfl (4) (by omega) (by omega) (by omega) d_Mo_parts_24 ?_
        rw [iW.m (by decide), up_s]
        refine lv_iconst (v := iZ (1)) hx hb d_Mo_parts_25 (by decide +kernel) ?_
        refine zz_isub hx hb d_Mo_parts_26 ?_
        rw [← ovh_e fx 4 (nd (val b / hB n)) ((val b / hB n) / 65536)] at hP hD
        refine lv_istore (lv' := [(4, .int (iZ ((nd (val b / hB n) : Int) - 1))), (3, .int (iZ 0)), (0, .ref mo), (1, .int (iZ (b : Int))), (2, .int (iZ (n : Int)))]) hx hb d_Mo_parts_27 hl (by decide) rfl (fun ls hl => ?_)
        have L29 : ∀ (N : Nat) (q : Nat) (rs : Nat) (H : Heap) (locs : List Loc) (ls : Array Slot), q < N → (q ≤ nd (val b / hB n)) → (rs = (val b / hB n) / tB q % 65536) → va_P D cls0 [(mo, .inr (8, [.int qc, .int (iZ (np : Int)), .ref ow, .ref om, .ref ok_, .ref oK, .ref og, .ref on_, .ref oh, .ref ox, .int qn, .int qf, .ref op_, .int ql])), (ow, .inl (cI, 108000, .inl (ovh fx 4 q (nd (val b / hB n)) ((val b / hB n) / 65536)))), (om, .inl (cI, 9, .inl fy)), (oh, .inl (cI, 10000, .inl fg))] H → va_D A [(mo, .inr (8, [.int qc, .int (iZ (np : Int)), .ref ow, .ref om, .ref ok_, .ref oK, .ref og, .ref on_, .ref oh, .ref ox, .int qn, .int qf, .ref op_, .int ql])), (ow, .inl (cI, 108000, .inl (ovh fx 4 q (nd (val b / hB n)) ((val b / hB n) / 65536)))), (om, .inl (cI, 9, .inl fy)), (oh, .inl (cI, 10000, .inl fg))] → va_S A s.heap H locs → lv_has ls 6 [(0, .ref mo), (1, .int (iZ (b : Int))), (2, .int (iZ (n : Int))), (3, .int (iZ (rs : Int))), (4, .int (iZ ((q : Int) - 1)))] → W p l e R s m args below meth c H locs 0 0 Q (F0 m 29 ls []) := by
          intro N
          induction N with
          | zero => intro q rs H locs ls hN; exact absurd hN (Nat.not_lt_zero _)
          | succ N ih_L29 =>
            intro q rs H locs ls hN iq irs hP hD hS hl
            refine lv_iload hx hb d_Mo_parts_29 (lv_at hl 4 rfl) ?_
            refine zz_if_lt (tgt := 79) hx hb d_Mo_parts_31 (by decide) (by omega) (fun c31 => ?_) (fun c31 => ?_)
            · have q0 : q = 0 := by omega
              rw [q0, ovh_0] at hP hD
              rw [q0] at irs
              refine lv_aload_n hx hb d_Mo_parts_79 rfl (lv_at hl 0 rfl) ?_
              refine lv_iconst (v := iZ (4)) hx hb d_Mo_parts_80 (by decide +kernel) ?_
              refine lv_aload_n hx hb d_Mo_parts_81 rfl (lv_at hl 0 rfl) ?_
              refine va_get (D := D) (ci := 8) (v := .ref om) (C := R_Mo) (T := F_Mo) (N := 14) hx hb hts i_Mo hown hK hP 0 rfl rfl 3 (by decide) (hts _ (big_in mw_1118 rfl)) (fun _ h9 => h9) rfl d_Mo_parts_82 ?_
              refine lv_iconst (v := iZ (4)) hx hb d_Mo_parts_85 (by decide +kernel) ?_
              refine zz_iald hx hb hK hP 2 0 rfl rfl (4) (by omega) (by omega) (by omega) d_Mo_parts_86 ?_
              rw [iW.m (by decide), up_s]
              rw [show ((nd (val b / hB n) : Int) : Int) = (((nd (val b / hB n)) : Nat) : Int) by omega]
              refine cv (n := 2) (wr := [(oh, .inl (cI, 10000, .inl fg))]) (w1 := (fun (u : Unit) => [(mo, .inr (8, [.int qc, .int (iZ (np : Int)), .ref ow, .ref om, .ref ok_, .ref oK, .ref og, .ref on_, .ref oh, .ref ox, .int qn, .int qf, .ref op_, .int ql])), (ow, .inl (cI, 108000, .inl (ovr fx 4 (nd (val b / hB n)) ((val b / hB n) / 65536)))), (om, .inl (cI, 9, .inl (upd fy 4 (iZ (nd ((val b / hB n) / 65536) : Int)))))])) (As := [.int (iZ 4), .int (iZ (((nd (val b / hB n)) : Nat) : Int))]) (rest := []) K hP hD hK hS hA hl.1 (c_Mo_trim l D mo qc np ow om ok_ oK og on_ oh ox qn qf op_ ql (ovr fx 4 (nd (val b / hB n)) ((val b / hB n) / 65536)) fy cI 4 (nd (val b / hB n)) ((val b / hB n) / 65536) H.size (by decide) n4 (nd_mono (Nat.div_le_self _ _)) (fun i hi => ovr_in hi)) [0, 1, 2] [3] [0] rfl rfl rfl (by decide) (by decide) (by decide) 0 rfl rfl (big_in mw_1211 rfl) (big_in mw_10 rfl) (big_in mw_1208 rfl) (big_in mw_1210 rfl) (big_in sp_26 rfl) rfl rfl (by decide +kernel) ⟨by rw [hR]; exact Nat.le_of_ble_eq_true rfl, by rw [hR]; exact Nat.le_of_ble_eq_true rfl⟩ rfl (Nat.le_of_ble_eq_true rfl) d_Mo_parts_87 ⟨by rw [hR]; exact Nat.le_of_ble_eq_true rfl, by rw [hR]; exact Nat.le_of_ble_eq_true rfl⟩ rfl (fun v u H locs hp2 hP hD hS _ => ?_)
              obtain rfl := hp2
              have hP : va_P D cls0 [(oh, .inl (cI, 10000, .inl fg)), (mo, .inr (8, [.int qc, .int (iZ (np : Int)), .ref ow, .ref om, .ref ok_, .ref oK, .ref og, .ref on_, .ref oh, .ref ox, .int qn, .int qf, .ref op_, .int ql])), (ow, .inl (cI, 108000, .inl (ovr fx 4 (nd (val b / hB n)) ((val b / hB n) / 65536)))), (om, .inl (cI, 9, .inl (upd fy 4 (iZ (nd ((val b / hB n) / 65536) : Int)))))] H := hP
              have hD : va_D A [(oh, .inl (cI, 10000, .inl fg)), (mo, .inr (8, [.int qc, .int (iZ (np : Int)), .ref ow, .ref om, .ref ok_, .ref oK, .ref og, .ref on_, .ref oh, .ref ox, .int qn, .int qf, .ref op_, .int ql])), (ow, .inl (cI, 108000, .inl (ovr fx 4 (nd (val b / hB n)) ((val b / hB n) / 65536)))), (om, .inl (cI, 9, .inl (upd fy 4 (iZ (nd ((val b / hB n) / 65536) : Int)))))] := hD
              show W p l e R s m args below meth c H locs _ _ Q (F0 m 90 ls [])
              refine lv_aload_n hx hb d_Mo_parts_90 rfl (lv_at hl 0 rfl) ?_
              refine va_get (D := D) (ci := 8) (v := .ref oh) (C := R_Mo) (T := F_Mo) (N := 14) hx hb hts i_Mo hown hK hP 1 rfl rfl 8 (by decide) (hts _ (big_in mw_1123 rfl)) (fun _ h9 => h9) rfl d_Mo_parts_91 ?_
              refine lv_iload_n hx hb d_Mo_parts_94 rfl (lv_at hl 2 rfl) ?_
              refine lv_iload_n hx hb d_Mo_parts_95 rfl (lv_at hl 3 rfl) ?_
              refine zz_iast hx hb hK hP hD hS 0 0 rfl rfl (n) (by omega) (by omega) (by omega) d_Mo_parts_96 (fun H locs hP hD hS => ?_)
              have hP : va_P D cls0 [(oh, .inl (cI, 10000, .inl (upd fg n (iZ (rs : Int))))), (mo, .inr (8, [.int qc, .int (iZ (np : Int)), .ref ow, .ref om, .ref ok_, .ref oK, .ref og, .ref on_, .ref oh, .ref ox, .int qn, .int qf, .ref op_, .int ql])), (ow, .inl (cI, 108000, .inl (ovr fx 4 (nd (val b / hB n)) ((val b / hB n) / 65536)))), (om, .inl (cI, 9, .inl (upd fy 4 (iZ (nd ((val b / hB n) / 65536) : Int)))))] H := hP
              have hD : va_D A [(oh, .inl (cI, 10000, .inl (upd fg n (iZ (rs : Int))))), (mo, .inr (8, [.int qc, .int (iZ (np : Int)), .ref ow, .ref om, .ref ok_, .ref oK, .ref og, .ref on_, .ref oh, .ref ox, .int qn, .int qf, .ref op_, .int ql])), (ow, .inl (cI, 108000, .inl (ovr fx 4 (nd (val b / hB n)) ((val b / hB n) / 65536)))), (om, .inl (cI, 9, .inl (upd fy 4 (iZ (nd ((val b / hB n) / 65536) : Int)))))] := hD
              refine lv_iinc (v := iZ ((n : Int) + 1)) (lv' := [(2, .int (iZ ((n : Int) + 1))), (0, .ref mo), (1, .int (iZ (b : Int))), (3, .int (iZ (rs : Int))), (4, .int (iZ ((q : Int) - 1)))]) hx hb d_Mo_parts_97 hl (k := 2) rfl (iZ_add _ _) (by decide) rfl (fun ls hl => ?_)
              refine lv_goto (tgt := 8) hx hb d_Mo_parts_100 (by decide) ?_
              rw [show ((n : Int) + 1 : Int) = ((n + 1 : Nat) : Int) by omega] at hl
              exact ih (n + 1) (ovr fx 4 (nd (val b / hB n)) ((val b / hB n) / 65536)) (upd fy 4 (iZ (nd ((val b / hB n) / 65536) : Int))) (upd fg n (iZ (rs : Int))) _ _ _ (by rw [hB_div]; have z := Nat.div_lt_self (n := (val b / hB n)) (k := 65536) yp (by decide); omega) (by rw [hB_div]; have z := (iW.set (b := 4) (V := (val b / hB n) / 65536) (n := nd (val b / hB n)) (nd_mono (Nat.div_le_self _ _)) n4 rfl); rw [up_up] at z; exact z) (Or.inr hle) (fun i hi => by by_cases e : i = n; (rw [e, pk_us]; congr 2; rw [irs, tB_0, Nat.div_one]); (rw [pk_un e]; exact i2 i (by omega))) (hP.sub (ws' := [(mo, .inr (8, [.int qc, .int (iZ (np : Int)), .ref ow, .ref om, .ref ok_, .ref oK, .ref og, .ref on_, .ref oh, .ref ox, .int qn, .int qf, .ref op_, .int ql])), (ow, .inl (cI, 108000, .inl (ovr fx 4 (nd (val b / hB n)) ((val b / hB n) / 65536)))), (om, .inl (cI, 9, .inl (upd fy 4 (iZ (nd ((val b / hB n) / 65536) : Int))))), (oh, .inl (cI, 10000, .inl (upd fg n (iZ (rs : Int)))))]) [1, 2, 3, 0] rfl) (hD.sub (ws' := [(mo, .inr (8, [.int qc, .int (iZ (np : Int)), .ref ow, .ref om, .ref ok_, .ref oK, .ref og, .ref on_, .ref oh, .ref ox, .int qn, .int qf, .ref op_, .int ql])), (ow, .inl (cI, 108000, .inl (ovr fx 4 (nd (val b / hB n)) ((val b / hB n) / 65536)))), (om, .inl (cI, 9, .inl (upd fy 4 (iZ (nd ((val b / hB n) / 65536) : Int))))), (oh, .inl (cI, 10000, .inl (upd fg n (iZ (rs : Int)))))]) [1, 2, 3, 0] (by decide) rfl) hS (lv_sub hl [1, 2, 0] rfl)
            · have hz := hv_dz (val b / hB n) (q - 1)
              rw [show q - 1 + 1 = q by omega, ← irs] at hz
              have bz := dz_lt (val b / hB n) (q - 1)
              have rb : rs < 65536 := by rw [irs]; exact Nat.mod_lt _ (by decide)
              refine lv_iload_n hx hb d_Mo_parts_34 rfl (lv_at hl 3 rfl) ?_
              refine lv_sipush (v := iZ (10000)) hx hb d_Mo_parts_35 (by decide +kernel) ?_
              refine zz_imul hx hb d_Mo_parts_38 ?_
              refine lv_aload_n hx hb d_Mo_parts_39 rfl (lv_at hl 0 rfl) ?_
              refine va_get (D := D) (ci := 8) (v := .ref ow) (C := R_Mo) (T := F_Mo) (N := 14) hx hb hts i_Mo hown hK hP 0 rfl rfl 2 (by decide) (hts _ (big_in mw_1117 rfl)) (fun _ h9 => h9) rfl d_Mo_parts_40 ?_
              refine lv_ldc (v := iZ (48000)) hx hb hown (hts _ (big_in mw_1224 rfl)) d_Mo_parts_43 ?_
              refine lv_iload hx hb d_Mo_parts_45 (lv_at hl 4 rfl) ?_
              refine zz_iadd hx hb d_Mo_parts_47 ?_
              refine zz_iald hx hb hK hP 1 0 rfl rfl (12000 * 4 + (q - 1)) (by omega) (by omega) (by omega) d_Mo_parts_48 ?_
              rw [ovh_out (by omega), iW.d (by decide) (by rw [up_s]; omega), up_s]
              refine zz_iadd hx hb d_Mo_parts_49 ?_
              refine lv_istore (lv' := [(5, .int (iZ ((rs : Int) * 10000 + (dz (val b / hB n) (q - 1) : Int)))), (0, .ref mo), (1, .int (iZ (b : Int))), (2, .int (iZ (n : Int))), (3, .int (iZ (rs : Int))), (4, .int (iZ ((q : Int) - 1)))]) hx hb d_Mo_parts_50 hl (by decide) rfl (fun ls hl => ?_)
              refine lv_aload_n hx hb d_Mo_parts_52 rfl (lv_at hl 1 rfl) ?_
              refine va_get (D := D) (ci := 8) (v := .ref ow) (C := R_Mo) (T := F_Mo) (N := 14) hx hb hts i_Mo hown hK hP 0 rfl rfl 2 (by decide) (hts _ (big_in mw_1117 rfl)) (fun _ h9 => h9) rfl d_Mo_parts_53 ?_
              refine lv_ldc (v := iZ (48000)) hx hb hown (hts _ (big_in mw_1224 rfl)) d_Mo_parts_56 ?_
              refine lv_iload hx hb d_Mo_parts_58 (lv_at hl 5 rfl) ?_
              refine zz_iadd hx hb d_Mo_parts_60 ?_
              refine lv_iload hx hb d_Mo_parts_61 (lv_at hl 0 rfl) ?_
              refine lv_ldc (v := iZ (65536)) hx hb hown (hts _ (big_in mw_1225 rfl)) d_Mo_parts_63 ?_
              refine zz_idiv hx hb d_Mo_parts_65 (by omega) (by omega) ?_
              refine zz_iast hx hb hK hP hD hS 1 0 rfl rfl (12000 * 4 + (q - 1)) (by omega) (by omega) (by omega) d_Mo_parts_66 (fun H locs hP hD hS => ?_)
              have hP : va_P D cls0 [(mo, .inr (8, [.int qc, .int (iZ (np : Int)), .ref ow, .ref om, .ref ok_, .ref oK, .ref og, .ref on_, .ref oh, .ref ox, .int qn, .int qf, .ref op_, .int ql])), (ow, .inl (cI, 108000, .inl (upd (ovh fx 4 q (nd (val b / hB n)) ((val b / hB n) / 65536)) (12000 * 4 + (q - 1)) (iZ (((rs : Int) * 10000 + (dz (val b / hB n) (q - 1) : Int)) / 65536))))), (om, .inl (cI, 9, .inl fy)), (oh, .inl (cI, 10000, .inl fg))] H := hP
              have hD : va_D A [(mo, .inr (8, [.int qc, .int (iZ (np : Int)), .ref ow, .ref om, .ref ok_, .ref oK, .ref og, .ref on_, .ref oh, .ref ox, .int qn, .int qf, .ref op_, .int ql])), (ow, .inl (cI, 108000, .inl (upd (ovh fx 4 q (nd (val b / hB n)) ((val b / hB n) / 65536)) (12000 * 4 + (q - 1)) (iZ (((rs : Int) * 10000 + (dz (val b / hB n) (q - 1) : Int)) / 65536))))), (om, .inl (cI, 9, .inl fy)), (oh, .inl (cI, 10000, .inl fg))] := hD
              rw [ovh_u (by omega) iq (by congr 1; omega)] at hP hD
              refine lv_iload hx hb d_Mo_parts_67 (lv_at hl 0 rfl) ?_
              refine lv_ldc (v := iZ (65536)) hx hb hown (hts _ (big_in mw_1225 rfl)) d_Mo_parts_69 ?_
              refine zz_irem hx hb d_Mo_parts_71 (by omega) (by omega) ?_
              refine lv_istore_n (lv' := [(3, .int (iZ (((rs : Int) * 10000 + (dz (val b / hB n) (q - 1) : Int)) % 65536))), (5, .int (iZ ((rs : Int) * 10000 + (dz (val b / hB n) (q - 1) : Int)))), (0, .ref mo), (1, .int (iZ (b : Int))), (2, .int (iZ (n : Int))), (4, .int (iZ ((q : Int) - 1)))]) hx hb d_Mo_parts_72 rfl hl (by decide) rfl (fun ls hl => ?_)
              refine lv_iinc (v := iZ ((q : Int) - 1 - 1)) (lv' := [(4, .int (iZ ((q : Int) - 1 - 1))), (3, .int (iZ (((rs : Int) * 10000 + (dz (val b / hB n) (q - 1) : Int)) % 65536))), (5, .int (iZ ((rs : Int) * 10000 + (dz (val b / hB n) (q - 1) : Int)))), (0, .ref mo), (1, .int (iZ (b : Int))), (2, .int (iZ (n : Int)))]) hx hb d_Mo_parts_73 hl (k := 5) rfl (iZ_add _ _) (by decide) rfl (fun ls hl => ?_)
              refine lv_goto (tgt := 29) hx hb d_Mo_parts_76 (by decide) ?_
              rw [show (((rs : Int) * 10000 + (dz (val b / hB n) (q - 1) : Int)) % 65536 : Int) = (((rs * 10000 + dz (val b / hB n) (q - 1)) % 65536 : Nat) : Int) by omega] at hl
              rw [show ((q : Int) - 1 - 1 : Int) = ((q - 1 : Nat) : Int) - 1 by omega] at hl
              exact ih_L29 (q - 1) ((rs * 10000 + dz (val b / hB n) (q - 1)) % 65536) _ _ _ (by omega) (by omega) hz.2 (hP.sub (ws' := [(mo, .inr (8, [.int qc, .int (iZ (np : Int)), .ref ow, .ref om, .ref ok_, .ref oK, .ref og, .ref on_, .ref oh, .ref ox, .int qn, .int qf, .ref op_, .int ql])), (ow, .inl (cI, 108000, .inl (ovh fx 4 (q - 1) (nd (val b / hB n)) ((val b / hB n) / 65536)))), (om, .inl (cI, 9, .inl fy)), (oh, .inl (cI, 10000, .inl fg))]) [0, 1, 2, 3] rfl) (hD.sub (ws' := [(mo, .inr (8, [.int qc, .int (iZ (np : Int)), .ref ow, .ref om, .ref ok_, .ref oK, .ref og, .ref on_, .ref oh, .ref ox, .int qn, .int qf, .ref op_, .int ql])), (ow, .inl (cI, 108000, .inl (ovh fx 4 (q - 1) (nd (val b / hB n)) ((val b / hB n) / 65536)))), (om, .inl (cI, 9, .inl fy)), (oh, .inl (cI, 10000, .inl fg))]) [0, 1, 2, 3] (by decide) rfl) hS (lv_sub hl [3, 4, 5, 1, 0] rfl)
        rw [show ((nd (val b / hB n) : Int) - 1 : Int) = ((nd (val b / hB n) : Nat) : Int) - 1 by omega] at hl
        exact L29 _ (nd (val b / hB n)) 0 _ _ _ (Nat.lt_succ_self _) (Nat.le_refl _) (by rw [Nat.div_eq_of_lt (nd_self _)]) (hP.sub (ws' := [(mo, .inr (8, [.int qc, .int (iZ (np : Int)), .ref ow, .ref om, .ref ok_, .ref oK, .ref og, .ref on_, .ref oh, .ref ox, .int qn, .int qf, .ref op_, .int ql])), (ow, .inl (cI, 108000, .inl (ovh fx 4 (nd (val b / hB n)) (nd (val b / hB n)) ((val b / hB n) / 65536)))), (om, .inl (cI, 9, .inl fy)), (oh, .inl (cI, 10000, .inl fg))]) [0, 1, 2, 3] rfl) (hD.sub (ws' := [(mo, .inr (8, [.int qc, .int (iZ (np : Int)), .ref ow, .ref om, .ref ok_, .ref oK, .ref og, .ref on_, .ref oh, .ref ox, .int qn, .int qf, .ref op_, .int ql])), (ow, .inl (cI, 108000, .inl (ovh fx 4 (nd (val b / hB n)) (nd (val b / hB n)) ((val b / hB n) / 65536)))), (om, .inl (cI, 9, .inl fy)), (oh, .inl (cI, 10000, .inl fg))]) [0, 1, 2, 3] (by decide) rfl) hS (lv_sub hl [2, 3, 4, 1, 0] rfl)
  exact L8 _ 0 fx0 fy0 fh _ _ _ (Nat.lt_succ_self _) (by rw [hB_0, Nat.div_one]; exact w0) (Or.inl rfl) (fun i hi => absurd hi (Nat.not_lt_zero _)) (hP.sub (ws' := [(mo, .inr (8, [.int qc, .int (iZ (np : Int)), .ref ow, .ref om, .ref ok_, .ref oK, .ref og, .ref on_, .ref oh, .ref ox, .int qn, .int qf, .ref op_, .int ql])), (ow, .inl (cI, 108000, .inl fx0)), (om, .inl (cI, 9, .inl fy0)), (oh, .inl (cI, 10000, .inl fh))]) [1, 2, 3, 0] rfl) (hD.sub (ws' := [(mo, .inr (8, [.int qc, .int (iZ (np : Int)), .ref ow, .ref om, .ref ok_, .ref oK, .ref og, .ref on_, .ref oh, .ref ox, .int qn, .int qf, .ref op_, .int ql])), (ow, .inl (cI, 108000, .inl fx0)), (om, .inl (cI, 9, .inl fy0)), (oh, .inl (cI, 10000, .inl fh))]) [1, 2, 3, 0] (by decide) rfl) hS (lv_sub hl [1, 2, 0] rfl)
theorem HV_le {v n : Nat} (h : HV v n) (hv : v < hB 9990) : n ≤ 9990 := by
  rcases h.2 with q | q
  · omega
  · apply Nat.le_of_not_lt
    intro z
    have := hB_le (show 9990 ≤ n - 1 by omega)
    omega
set_option maxHeartbeats 4000000 in
set_option maxRecDepth 100000 in
/-- limbs(b) -/
theorem c_Mo_limbs (l : Launch) (D : va_G) (mo : Nat) (qc : Int32) (np : Nat) (ow : Nat) (om : Nat) (ok_ : Nat) (oK : Nat) (og : Nat) (on_ : Nat) (oh : Nat) (ox : Nat) (qn : Int32) (qf : Int32) (op_ : Nat) (ql : Int32) (fw : Nat → Int32) (fm : Nat → Int32) (cI : ClassId) (fh : Nat → Int32) (val : Nat → Nat) (b : Nat) (sz : Nat) (hW : WB fw fm val) (hb9 : b < 9) (hb4 : b ≠ 4) (hcap : val b < hB 9990) : Met l y_Mo_limbs (wsB y_Mo_limbs b_Mo_limbs 2 (some .int)) ({ frames := 2, cells := 0, slots := 0, locals := 48 }) (va_Pc [.ref mo, .int (iZ (b : Int))] (wPre D [(cI, .int)] [(mo, .inr (8, [.int qc, .int (iZ (np : Int)), .ref ow, .ref om, .ref ok_, .ref oK, .ref og, .ref on_, .ref oh, .ref ox, .int qn, .int qf, .ref op_, .int ql])), (ow, .inl (cI, 108000, .inl fw)), (om, .inl (cI, 9, .inl fm)), (oh, .inl (cI, 10000, .inl fh))] sz)) (va_QV (fun (v_9 : Option Value) (u_9 : (Nat → Int32) × (Nat → Int32) × (Nat → Int32)) => v_9 = some (.int (iZ (lm (val b) : Int))) ∧ (WB u_9.1 u_9.2.1 (up val 4 0))) (fun u_9 => wPost D [(cI, .int)] [(mo, .inr (8, [.int qc, .int (iZ (np : Int)), .ref ow, .ref om, .ref ok_, .ref oK, .ref og, .ref on_, .ref oh, .ref ox, .int qn, .int qf, .ref op_, .int ql])), (ow, .inl (cI, 108000, .inl fw)), (om, .inl (cI, 9, .inl fm)), (oh, .inl (cI, 10000, .inl fh))] [(mo, .inr (8, [.int qc, .int (iZ (np : Int)), .ref ow, .ref om, .ref ok_, .ref oK, .ref og, .ref on_, .ref oh, .ref ox, .int qn, .int qf, .ref op_, .int ql])), (ow, .inl (cI, 108000, .inl u_9.1)), (om, .inl (cI, 9, .inl u_9.2.1)), (oh, .inl (cI, 10000, .inl u_9.2.2))] sz) (va_A [(mo, .inr (8, [.int qc, .int (iZ (np : Int)), .ref ow, .ref om, .ref ok_, .ref oK, .ref og, .ref on_, .ref oh, .ref ox, .int qn, .int qf, .ref op_, .int ql])), (ow, .inl (cI, 108000, .inl fw)), (om, .inl (cI, 9, .inl fm)), (oh, .inl (cI, 10000, .inl fh))] sz)) 0 0 (va_A [(mo, .inr (8, [.int qc, .int (iZ (np : Int)), .ref ow, .ref om, .ref ok_, .ref oK, .ref og, .ref on_, .ref oh, .ref ox, .int qn, .int qf, .ref op_, .int ql])), (ow, .inl (cI, 108000, .inl fw)), (om, .inl (cI, 9, .inl fm)), (oh, .inl (cI, 10000, .inl fh))] sz) := by
  refine met_enter (by decide +kernel) (Nat.le_of_ble_eq_true rfl) ?_
  intro p e s m args below meth c ls A R Q H locs K hin hAe hA hR hQ hP hK hD hS hl
  obtain ⟨hx, hb, hml, hrt, hlk, hts, hown, hno⟩ := id K
  have hl : lv_has ls 2 [(0, .ref mo), (1, .int (iZ (b : Int)))] := hl
  refine lv_aload_n hx hb d_Mo_limbs_0 rfl (lv_at hl 0 rfl) ?_
  refine lv_iload_n hx hb d_Mo_limbs_1 rfl (lv_at hl 1 rfl) ?_
  refine cv (n := 1) (wr := []) (w1 := (fun (u : Nat × (Nat → Int32) × (Nat → Int32) × (Nat → Int32)) => [(mo, .inr (8, [.int qc, .int (iZ (np : Int)), .ref ow, .ref om, .ref ok_, .ref oK, .ref og, .ref on_, .ref oh, .ref ox, .int qn, .int qf, .ref op_, .int ql])), (ow, .inl (cI, 108000, .inl u.2.1)), (om, .inl (cI, 9, .inl u.2.2.1)), (oh, .inl (cI, 10000, .inl u.2.2.2))])) (As := [.int (iZ (b : Int))]) (rest := []) K hP hD hK hS hA hl.1 (c_Mo_parts l D mo qc np ow om ok_ oK og on_ oh ox qn qf op_ ql fw fm cI fh val b H.size hW (by omega) (by omega) (by omega)) [0, 1, 2, 3] [] [0] rfl rfl rfl (by decide) (by decide) (by decide) 0 rfl rfl (big_in mw_1223 rfl) (big_in mw_10 rfl) (big_in mw_1220 rfl) (big_in mw_1222 rfl) (big_in sp_29 rfl) rfl rfl (by decide +kernel) ⟨by rw [hR]; exact Nat.le_of_ble_eq_true rfl, by rw [hR]; exact Nat.le_of_ble_eq_true rfl⟩ rfl (Nat.le_of_ble_eq_true rfl) d_Mo_limbs_2 ⟨by rw [hR]; exact Nat.le_of_ble_eq_true rfl, by rw [hR]; exact Nat.le_of_ble_eq_true rfl⟩ rfl (fun v u H locs hp1 hP hD hS _ => ?_)
  obtain ⟨rn, fx, fy, fg⟩ := u
  try dsimp only at hp1
  obtain ⟨rfl, ph, pw, pd⟩ := hp1
  have hP : va_P D cls0 [(mo, .inr (8, [.int qc, .int (iZ (np : Int)), .ref ow, .ref om, .ref ok_, .ref oK, .ref og, .ref on_, .ref oh, .ref ox, .int qn, .int qf, .ref op_, .int ql])), (ow, .inl (cI, 108000, .inl fx)), (om, .inl (cI, 9, .inl fy)), (oh, .inl (cI, 10000, .inl fg))] H := hP
  have hD : va_D A [(mo, .inr (8, [.int qc, .int (iZ (np : Int)), .ref ow, .ref om, .ref ok_, .ref oK, .ref og, .ref on_, .ref oh, .ref ox, .int qn, .int qf, .ref op_, .int ql])), (ow, .inl (cI, 108000, .inl fx)), (om, .inl (cI, 9, .inl fy)), (oh, .inl (cI, 10000, .inl fg))] := hD
  show W p l e R s m args below meth c H locs _ _ Q (F0 m 5 ls [.int (iZ (rn : Int))])
  have pl := HV_lm ph
  have pb := HV_le ph hcap
  refine lv_iconst (v := iZ (1)) hx hb d_Mo_limbs_5 (by decide +kernel) ?_
  refine zz_iadd hx hb d_Mo_limbs_6 ?_
  refine lv_iconst (v := iZ (2)) hx hb d_Mo_limbs_7 (by decide +kernel) ?_
  refine zz_idiv hx hb d_Mo_limbs_8 (by omega) (by omega) ?_
  have hP9 : va_P D cls0 [(mo, .inr (8, [.int qc, .int (iZ (np : Int)), .ref ow, .ref om, .ref ok_, .ref oK, .ref og, .ref on_, .ref oh, .ref ox, .int qn, .int qf, .ref op_, .int ql])), (ow, .inl (cI, 108000, .inl fx)), (om, .inl (cI, 9, .inl fy)), (oh, .inl (cI, 10000, .inl fg))] H := hP.sub [0, 1, 2, 3] rfl
  have hD9 : va_D A [(mo, .inr (8, [.int qc, .int (iZ (np : Int)), .ref ow, .ref om, .ref ok_, .ref oK, .ref og, .ref on_, .ref oh, .ref ox, .int qn, .int qf, .ref op_, .int ql])), (ow, .inl (cI, 108000, .inl fx)), (om, .inl (cI, 9, .inl fy)), (oh, .inl (cI, 10000, .inl fg))] := hD.sub [0, 1, 2, 3] (by decide) rfl
  rw [hQ, ← hAe]
  refine r_i (v := (iZ (((rn : Int) + 1) / 2))) K (fx, fy, fg) hS d_Mo_limbs_9 ?_ (fun t ht hv => ?_)
  · try dsimp only
    refine ⟨?_, pw⟩
    rw [← pl]
    congr 2
  · exact ⟨by rw [ht]; exact hP9, va_K.moved hv hK, by rw [← hAe]; exact hD9⟩
