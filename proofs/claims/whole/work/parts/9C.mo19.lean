section M19
variable {p : Program} {l : Launch} {e : Env} {R : Room} {s : State} {m : MethodId} {args : Array Value} {below : List Frame} {meth : Method} {c : Code} {H : Heap} {locs : List Loc} {cells slots : Nat} {Q : State → Prop}
variable {cc : ByteArray} {pc : Nat} {ls : Array Slot} {rest : List Value} {a b z : Int} {off : Int} {tgt : Nat}
theorem lZ_255 {z : Int} (h0 : 0 ≤ z) (h1 : z < 18446744073709551616) : (lZ z &&& lZ 255) = lZ (z % 256) := by
  apply Int64.toBitVec_inj.mp
  apply BitVec.eq_of_toNat_eq
  rw [lZ_nat (by omega) (by omega)]
  show ((lZ z).toBitVec &&& (lZ 255).toBitVec).toNat = _
  rw [BitVec.toNat_and, show (lZ 255).toBitVec.toNat = 2 ^ 8 - 1 from by decide, Nat.and_two_pow_sub_one_eq_mod, lZ_nat h0 h1]
  omega
theorem zz_l255 (hexec : p.tables.exec = Jvm.exec) (hb : c.code = cc) (hdg : decode cc pc = .ok (.land, 1)) (h0 : 0 ≤ z) (h1 : z < 18446744073709551616) (k : W p l e R s m args below meth c H locs cells slots Q (F0 m (pc + 1) ls (.long (lZ (z % 256)) :: rest))) : W p l e R s m args below meth c H locs cells slots Q (F0 m pc ls (.long (lZ 255) :: .long (lZ z) :: rest)) := by
  refine lv_land hexec hb hdg ?_
  rw [lZ_255 h0 h1]
  exact k
end M19
set_option maxHeartbeats 4000000 in
set_option maxRecDepth 100000 in
/-- type(eight) -/
theorem c_Mo_type (l : Launch) (D : va_G) (mo : Nat) (qc : Int32) (np : Nat) (ow : Nat) (om : Nat) (ok_ : Nat) (oK : Nat) (og : Nat) (on_ : Nat) (oh : Nat) (ox : Nat) (qf : Int32) (op_ : Nat) (ql : Int32) (cn : Nat) (ft : Nat → Int32) (cI : ClassId) (w : Nat) (sz : Nat) (hw : w < 18446744073709551616) (hcn : cn ≤ 400) : Met l y_Mo_type (wsB y_Mo_type b_Mo_type 6 (some .boolean)) ({ frames := 0, cells := 0, slots := 0, locals := 0 }) (va_Pc [.ref mo, .long (lZ (w : Int))] (wPre D [(cI, .int)] [(mo, .inr (8, [.int qc, .int (iZ (np : Int)), .ref ow, .ref om, .ref ok_, .ref oK, .ref og, .ref on_, .ref oh, .ref ox, .int (iZ (cn : Int)), .int qf, .ref op_, .int ql])), (ox, .inl (cI, 400, .inl ft))] sz)) (va_QV (fun (v_9 : Option Value) (u_9 : Int × Nat × (Nat → Int32)) => v_9 = some (.int (iZ u_9.1)) ∧ ((u_9.1 = 0 ∧ u_9.2.1 = cn ∧ u_9.2.2 = ft ∧ (tkBad w ∨ ∃ n, TkN w n ∧ 400 < cn + n)) ∨ (u_9.1 = 1 ∧ ∃ n, TkN w n ∧ ¬ tkBad w ∧ cn + n ≤ 400 ∧ u_9.2.1 = cn + n ∧ u_9.2.2 = extC ft cn n w))) (fun u_9 => wPost D [(cI, .int)] [(mo, .inr (8, [.int qc, .int (iZ (np : Int)), .ref ow, .ref om, .ref ok_, .ref oK, .ref og, .ref on_, .ref oh, .ref ox, .int (iZ (cn : Int)), .int qf, .ref op_, .int ql])), (ox, .inl (cI, 400, .inl ft))] [(mo, .inr (8, [.int (iZ 0), .int (iZ (np : Int)), .ref ow, .ref om, .ref ok_, .ref oK, .ref og, .ref on_, .ref oh, .ref ox, .int (iZ (u_9.2.1 : Int)), .int qf, .ref op_, .int ql])), (ox, .inl (cI, 400, .inl u_9.2.2))] sz) (va_A [(mo, .inr (8, [.int qc, .int (iZ (np : Int)), .ref ow, .ref om, .ref ok_, .ref oK, .ref og, .ref on_, .ref oh, .ref ox, .int (iZ (cn : Int)), .int qf, .ref op_, .int ql])), (ox, .inl (cI, 400, .inl ft))] sz)) 0 0 (va_A [(mo, .inr (8, [.int qc, .int (iZ (np : Int)), .ref ow, .ref om, .ref ok_, .ref oK, .ref og, .ref on_, .ref oh, .ref ox, .int (iZ (cn : Int)), .int qf, .ref op_, .int ql])), (ox, .inl (cI, 400, .inl ft))] sz) := by
  refine met_enter (by decide +kernel) (Nat.le_of_ble_eq_true rfl) ?_
  intro p e s m args below meth c ls A R Q H locs K hin hAe hA hR hQ hP hK hD hS hl
  obtain ⟨hx, hb, hml, hrt, hlk, hts, hown, hno⟩ := id K
  have hl : lv_has ls 6 [(0, .ref mo), (1, .long (lZ (w : Int)))] := hl
  refine lv_aload_n hx hb d_Mo_type_0 rfl (lv_at hl 0 rfl) ?_
  refine lv_iconst (v := iZ (0)) hx hb d_Mo_type_1 (by decide +kernel) ?_
  refine va_put (D := D) (ci := 8) (v := .int (iZ 0)) (ty := .int) (C := R_Mo) (T := F_Mo) (N := 14) hx hb hts i_Mo t_Mo t_Mo_ok n_Mo hown hK hP hD hS 0 rfl rfl 0 (by decide) (hts _ (big_in mw_1115 rfl)) (fun _ h9 => h9) rfl (by decide +kernel) rfl rfl (Nat.le_of_ble_eq_true rfl) d_Mo_type_2 (fun H locs hP hD hS => ?_)
  have hP : va_P D cls0 [(mo, .inr (8, [.int (iZ 0), .int (iZ (np : Int)), .ref ow, .ref om, .ref ok_, .ref oK, .ref og, .ref on_, .ref oh, .ref ox, .int (iZ (cn : Int)), .int qf, .ref op_, .int ql])), (ox, .inl (cI, 400, .inl ft))] H := hP
  have hD : va_D A [(mo, .inr (8, [.int (iZ 0), .int (iZ (np : Int)), .ref ow, .ref om, .ref ok_, .ref oK, .ref og, .ref on_, .ref oh, .ref ox, .int (iZ (cn : Int)), .int qf, .ref op_, .int ql])), (ox, .inl (cI, 400, .inl ft))] := hD
  refine lv_iconst (v := iZ (0)) hx hb d_Mo_type_5 (by decide +kernel) ?_
  refine lv_istore_n (lv' := [(3, .int (iZ 0)), (0, .ref mo), (1, .long (lZ (w : Int)))]) hx hb d_Mo_type_6 rfl hl (by decide) rfl (fun ls hl => ?_)
  have L7 : ∀ (N : Nat) (n : Nat) (H : Heap) (locs : List Loc) (ls : Array Slot), 8 - n < N → (n ≤ 8) → (∀ i, i < n → byt w i ≠ 0 ∧ (33 ≤ byt w i ∧ byt w i ≤ 126)) → va_P D cls0 [(mo, .inr (8, [.int (iZ 0), .int (iZ (np : Int)), .ref ow, .ref om, .ref ok_, .ref oK, .ref og, .ref on_, .ref oh, .ref ox, .int (iZ (cn : Int)), .int qf, .ref op_, .int ql])), (ox, .inl (cI, 400, .inl ft))] H → va_D A [(mo, .inr (8, [.int (iZ 0), .int (iZ (np : Int)), .ref ow, .ref om, .ref ok_, .ref oK, .ref og, .ref on_, .ref oh, .ref ox, .int (iZ (cn : Int)), .int qf, .ref op_, .int ql])), (ox, .inl (cI, 400, .inl ft))] → va_S A s.heap H locs → lv_has ls 6 [(0, .ref mo), (1, .long (lZ (w : Int))), (3, .int (iZ (n : Int)))] → W p l e R s m args below meth c H locs 0 0 Q (F0 m 7 ls []) := by
    intro N
    induction N with
    | zero => intro n H locs ls hN; exact absurd hN (Nat.not_lt_zero _)
    | succ N ih =>
      intro n H locs ls hN ii iq hP hD hS hl
      refine lv_iload_n hx hb d_Mo_type_7 rfl (lv_at hl 2 rfl) ?_
      have L83 : ∀ (N : Nat) (k : Nat) (H : Heap) (locs : List Loc) (ls : Array Slot), n - k < N → (k ≤ n) → (cn + n ≤ 400) → (TkN w n) → va_P D cls0 [(mo, .inr (8, [.int (iZ 0), .int (iZ (np : Int)), .ref ow, .ref om, .ref ok_, .ref oK, .ref og, .ref on_, .ref oh, .ref ox, .int (iZ ((cn + k : Nat) : Int)), .int qf, .ref op_, .int ql])), (ox, .inl (cI, 400, .inl (extC ft cn k w)))] H → va_D A [(mo, .inr (8, [.int (iZ 0), .int (iZ (np : Int)), .ref ow, .ref om, .ref ok_, .ref oK, .ref og, .ref on_, .ref oh, .ref ox, .int (iZ ((cn + k : Nat) : Int)), .int qf, .ref op_, .int ql])), (ox, .inl (cI, 400, .inl (extC ft cn k w)))] → va_S A s.heap H locs → lv_has ls 6 [(0, .ref mo), (1, .long (lZ (w : Int))), (3, .int (iZ (n : Int))), (4, .int (iZ (k : Int)))] → W p l e R s m args below meth c H locs 0 0 Q (F0 m 83 ls []) := by
        intro N
        induction N with
        | zero => intro k H locs ls hN; exact absurd hN (Nat.not_lt_zero _)
        | succ N ih_L83 =>
          intro k H locs ls hN ik ic tkn hP hD hS hl
          refine lv_iload hx hb d_Mo_type_83 (lv_at hl 3 rfl) ?_
          refine lv_iload_n hx hb d_Mo_type_85 rfl (lv_at hl 2 rfl) ?_
          refine zz_icmp_ge (tgt := 126) hx hb d_Mo_type_86 (by decide) (by omega) (by omega) (fun c86 => ?_) (fun c86 => ?_)
          · have ek : k = n := by omega
            subst ek
            refine lv_iconst (v := iZ (1)) hx hb d_Mo_type_126 (by decide +kernel) ?_
            rw [show (((cn + k : Nat) : Int) : Int) = (cn + k : Int) by omega] at hP hD
            have hP9 : va_P D cls0 [(mo, .inr (8, [.int (iZ 0), .int (iZ (np : Int)), .ref ow, .ref om, .ref ok_, .ref oK, .ref og, .ref on_, .ref oh, .ref ox, .int (iZ (cn + k : Int)), .int qf, .ref op_, .int ql])), (ox, .inl (cI, 400, .inl (extC ft cn k w)))] H := hP.sub [0, 1] rfl
            have hD9 : va_D A [(mo, .inr (8, [.int (iZ 0), .int (iZ (np : Int)), .ref ow, .ref om, .ref ok_, .ref oK, .ref og, .ref on_, .ref oh, .ref ox, .int (iZ (cn + k : Int)), .int qf, .ref op_, .int ql])), (ox, .inl (cI, 400, .inl (extC ft cn k w)))] := hD.sub [0, 1] (by decide) rfl
            rw [hQ, ← hAe]
            refine r_z (v := (iZ 1)) K (1, cn + k, extC ft cn k w) hS rfl d_Mo_type_127 ?_ (fun t ht hv => ?_)
            · try dsimp only
              exact ⟨rfl, Or.inr ⟨rfl, k, tkn, tkBad.not tkn (fun i hi => (iq i hi).2), by omega, rfl, rfl⟩⟩
            · exact ⟨by rw [ht]; exact hP9, va_K.moved hv hK, by rw [← hAe]; exact hD9⟩
          · refine lv_aload_n hx hb d_Mo_type_89 rfl (lv_at hl 0 rfl) ?_
            refine va_get (D := D) (ci := 8) (v := .ref ox) (C := R_Mo) (T := F_Mo) (N := 14) hx hb hts i_Mo hown hK hP 0 rfl rfl 9 (by decide) (hts _ (big_in mw_1124 rfl)) (fun _ h9 => h9) rfl d_Mo_type_90 ?_
            refine lv_aload_n hx hb d_Mo_type_93 rfl (lv_at hl 0 rfl) ?_
            refine va_get (D := D) (ci := 8) (v := .int (iZ ((cn + k : Nat) : Int))) (C := R_Mo) (T := F_Mo) (N := 14) hx hb hts i_Mo hown hK hP 0 rfl rfl 10 (by decide) (hts _ (big_in mw_1125 rfl)) (fun _ h9 => h9) rfl d_Mo_type_94 ?_
            have ws : (0 : Int) ≤ (w : Int) / 2 ^ (8 * k) ∧ (w : Int) / 2 ^ (8 * k) < 18446744073709551616 := by rw [show (w : Int) / 2 ^ (8 * k) = ((w / 2 ^ (8 * k) : Nat) : Int) by simp]; have z := Nat.div_le_self w (2 ^ (8 * k)); generalize w / 2 ^ (8 * k) = y at *; omega
            refine lv_lload_n hx hb d_Mo_type_97 rfl (lv_at hl 1 rfl) ?_
            refine lv_bipush (v := iZ (8)) hx hb d_Mo_type_98 (by decide +kernel) ?_
            refine lv_iload hx hb d_Mo_type_100 (lv_at hl 3 rfl) ?_
            refine zz_imul hx hb d_Mo_type_102 ?_
            refine zz_lushr (n := 8 * k) hx hb d_Mo_type_103 (by omega) (by omega) (by omega) (by omega) ?_
            refine lv_ldc2 (v := lZ (255)) hx hb hown (hts _ (big_in mw_1358 rfl)) d_Mo_type_104 ?_
            refine zz_l255 hx hb d_Mo_type_107 ws.1 ws.2 ?_
            obtain ⟨x2, hx2, bx2⟩ : ∃ x : Nat, x = byt w k ∧ x < 256 := ⟨_, rfl, byt_lt w k⟩
            rw [show (((w : Int) / 2 ^ (8 * k)) % 256 : Int) = (x2 : Int) by rw [hx2]; simp [byt]]
            refine zz_l2i hx hb d_Mo_type_108 ?_
            refine zz_iast hx hb hK hP hD hS 1 0 rfl rfl (cn + k) (by omega) (by omega) (by omega) d_Mo_type_109 (fun H locs hP hD hS => ?_)
            have hP : va_P D cls0 [(mo, .inr (8, [.int (iZ 0), .int (iZ (np : Int)), .ref ow, .ref om, .ref ok_, .ref oK, .ref og, .ref on_, .ref oh, .ref ox, .int (iZ ((cn + k : Nat) : Int)), .int qf, .ref op_, .int ql])), (ox, .inl (cI, 400, .inl (upd (extC ft cn k w) (cn + k) (iZ (x2 : Int)))))] H := hP
            have hD : va_D A [(mo, .inr (8, [.int (iZ 0), .int (iZ (np : Int)), .ref ow, .ref om, .ref ok_, .ref oK, .ref og, .ref on_, .ref oh, .ref ox, .int (iZ ((cn + k : Nat) : Int)), .int qf, .ref op_, .int ql])), (ox, .inl (cI, 400, .inl (upd (extC ft cn k w) (cn + k) (iZ (x2 : Int)))))] := hD
            rw [hx2, extC_s] at hP hD
            refine lv_aload_n hx hb d_Mo_type_110 rfl (lv_at hl 0 rfl) ?_
            refine lv_dup hx hb d_Mo_type_111 rfl ?_
            refine va_get (D := D) (ci := 8) (v := .int (iZ ((cn + k : Nat) : Int))) (C := R_Mo) (T := F_Mo) (N := 14) hx hb hts i_Mo hown hK hP 0 rfl rfl 10 (by decide) (hts _ (big_in mw_1125 rfl)) (fun _ h9 => h9) rfl d_Mo_type_112 ?_
            refine lv_iconst (v := iZ (1)) hx hb d_Mo_type_115 (by decide +kernel) ?_
            refine zz_iadd hx hb d_Mo_type_116 ?_
            refine va_put (D := D) (ci := 8) (v := .int (iZ (((cn + k : Nat) : Int) + 1))) (ty := .int) (C := R_Mo) (T := F_Mo) (N := 14) hx hb hts i_Mo t_Mo t_Mo_ok n_Mo hown hK hP hD hS 0 rfl rfl 10 (by decide) (hts _ (big_in mw_1125 rfl)) (fun _ h9 => h9) rfl (by decide +kernel) rfl rfl (Nat.le_of_ble_eq_true rfl) d_Mo_type_117 (fun H locs hP hD hS => ?_)
            have hP : va_P D cls0 [(mo, .inr (8, [.int (iZ 0), .int (iZ (np : Int)), .ref ow, .ref om, .ref ok_, .ref oK, .ref og, .ref on_, .ref oh, .ref ox, .int (iZ (((cn + k : Nat) : Int) + 1)), .int qf, .ref op_, .int ql])), (ox, .inl (cI, 400, .inl (extC ft cn (k + 1) w)))] H := hP
            have hD : va_D A [(mo, .inr (8, [.int (iZ 0), .int (iZ (np : Int)), .ref ow, .ref om, .ref ok_, .ref oK, .ref og, .ref on_, .ref oh, .ref ox, .int (iZ (((cn + k : Nat) : Int) + 1)), .int qf, .ref op_, .int ql])), (ox, .inl (cI, 400, .inl (extC ft cn (k + 1) w)))] := hD
            refine lv_iinc (v := iZ ((k : Int) + 1)) (lv' := [(4, .int (iZ ((k : Int) + 1))), (0, .ref mo), (1, .long (lZ (w : Int))), (3, .int (iZ (n : Int)))]) hx hb d_Mo_type_120 hl (k := 3) rfl (iZ_add _ _) (by decide) rfl (fun ls hl => ?_)
            refine lv_goto (tgt := 83) hx hb d_Mo_type_123 (by decide) ?_
            rw [show (((cn + k : Nat) : Int) + 1 : Int) = ((cn + (k + 1) : Nat) : Int) by omega] at hP hD
            rw [show ((k : Int) + 1 : Int) = ((k + 1 : Nat) : Int) by omega] at hl
            exact ih_L83 (k + 1) _ _ _ (by omega) (by omega) ic tkn (hP.sub (ws' := [(mo, .inr (8, [.int (iZ 0), .int (iZ (np : Int)), .ref ow, .ref om, .ref ok_, .ref oK, .ref og, .ref on_, .ref oh, .ref ox, .int (iZ ((cn + (k + 1) : Nat) : Int)), .int qf, .ref op_, .int ql])), (ox, .inl (cI, 400, .inl (extC ft cn (k + 1) w)))]) [0, 1] rfl) (hD.sub (ws' := [(mo, .inr (8, [.int (iZ 0), .int (iZ (np : Int)), .ref ow, .ref om, .ref ok_, .ref oK, .ref og, .ref on_, .ref oh, .ref ox, .int (iZ ((cn + (k + 1) : Nat) : Int)), .int qf, .ref op_, .int ql])), (ox, .inl (cI, 400, .inl (extC ft cn (k + 1) w)))]) [0, 1] (by decide) rfl) hS (lv_sub hl [1, 2, 3, 0] rfl)
      refine lv_bipush (v := iZ (8)) hx hb d_Mo_type_8 (by decide +kernel) ?_
      refine zz_icmp_ge (tgt := 66) hx hb d_Mo_type_10 (by decide) (by omega) (by omega) (fun c10 => ?_) (fun c10 => ?_)
      · have tkn : TkN w n := ⟨ii, fun i hi => (iq i hi).1, by first | (left; omega) | (right; rw [← hx0]; omega)⟩
        refine lv_aload_n hx hb d_Mo_type_66 rfl (lv_at hl 0 rfl) ?_
        refine va_get (D := D) (ci := 8) (v := .int (iZ (cn : Int))) (C := R_Mo) (T := F_Mo) (N := 14) hx hb hts i_Mo hown hK hP 0 rfl rfl 10 (by decide) (hts _ (big_in mw_1125 rfl)) (fun _ h9 => h9) rfl d_Mo_type_67 ?_
        refine lv_iload_n hx hb d_Mo_type_70 rfl (lv_at hl 2 rfl) ?_
        refine zz_iadd hx hb d_Mo_type_71 ?_
        refine lv_sipush (v := iZ (400)) hx hb d_Mo_type_72 (by decide +kernel) ?_
        refine zz_icmp_le (tgt := 80) hx hb d_Mo_type_75 (by decide) (by omega) (by omega) (fun c75 => ?_) (fun c75 => ?_)
        · rw [← extC_0 ft cn w] at hP hD
          refine lv_iconst (v := iZ (0)) hx hb d_Mo_type_80 (by decide +kernel) ?_
          refine lv_istore (lv' := [(4, .int (iZ 0)), (0, .ref mo), (1, .long (lZ (w : Int))), (3, .int (iZ (n : Int)))]) hx hb d_Mo_type_81 hl (by decide) rfl (fun ls hl => ?_)
          rw [show ((cn : Int) : Int) = ((cn + 0 : Nat) : Int) by omega] at hP hD
          exact L83 _ 0 _ _ _ (Nat.lt_succ_self _) (by omega) (by omega) tkn (hP.sub (ws' := [(mo, .inr (8, [.int (iZ 0), .int (iZ (np : Int)), .ref ow, .ref om, .ref ok_, .ref oK, .ref og, .ref on_, .ref oh, .ref ox, .int (iZ ((cn + 0 : Nat) : Int)), .int qf, .ref op_, .int ql])), (ox, .inl (cI, 400, .inl (extC ft cn 0 w)))]) [0, 1] rfl) (hD.sub (ws' := [(mo, .inr (8, [.int (iZ 0), .int (iZ (np : Int)), .ref ow, .ref om, .ref ok_, .ref oK, .ref og, .ref on_, .ref oh, .ref ox, .int (iZ ((cn + 0 : Nat) : Int)), .int qf, .ref op_, .int ql])), (ox, .inl (cI, 400, .inl (extC ft cn 0 w)))]) [0, 1] (by decide) rfl) hS (lv_sub hl [1, 2, 3, 0] rfl)
        · refine lv_iconst (v := iZ (0)) hx hb d_Mo_type_78 (by decide +kernel) ?_
          have hP9 : va_P D cls0 [(mo, .inr (8, [.int (iZ 0), .int (iZ (np : Int)), .ref ow, .ref om, .ref ok_, .ref oK, .ref og, .ref on_, .ref oh, .ref ox, .int (iZ (cn : Int)), .int qf, .ref op_, .int ql])), (ox, .inl (cI, 400, .inl ft))] H := hP.sub [0, 1] rfl
          have hD9 : va_D A [(mo, .inr (8, [.int (iZ 0), .int (iZ (np : Int)), .ref ow, .ref om, .ref ok_, .ref oK, .ref og, .ref on_, .ref oh, .ref ox, .int (iZ (cn : Int)), .int qf, .ref op_, .int ql])), (ox, .inl (cI, 400, .inl ft))] := hD.sub [0, 1] (by decide) rfl
          rw [hQ, ← hAe]
          refine r_z (v := (iZ 0)) K (0, cn, ft) hS rfl d_Mo_type_79 ?_ (fun t ht hv => ?_)
          · try dsimp only
            exact ⟨rfl, Or.inl ⟨rfl, rfl, rfl, Or.inr ⟨n, tkn, by omega⟩⟩⟩
          · exact ⟨by rw [ht]; exact hP9, va_K.moved hv hK, by rw [← hAe]; exact hD9⟩
      · have ws : (0 : Int) ≤ (w : Int) / 2 ^ (8 * n) ∧ (w : Int) / 2 ^ (8 * n) < 18446744073709551616 := by rw [show (w : Int) / 2 ^ (8 * n) = ((w / 2 ^ (8 * n) : Nat) : Int) by simp]; have z := Nat.div_le_self w (2 ^ (8 * n)); generalize w / 2 ^ (8 * n) = y at *; omega
        refine lv_lload_n hx hb d_Mo_type_13 rfl (lv_at hl 1 rfl) ?_
        refine lv_bipush (v := iZ (8)) hx hb d_Mo_type_14 (by decide +kernel) ?_
        refine lv_iload_n hx hb d_Mo_type_16 rfl (lv_at hl 2 rfl) ?_
        refine zz_imul hx hb d_Mo_type_17 ?_
        refine zz_lushr (n := 8 * n) hx hb d_Mo_type_18 (by omega) (by omega) (by omega) (by omega) ?_
        refine lv_ldc2 (v := lZ (255)) hx hb hown (hts _ (big_in mw_1358 rfl)) d_Mo_type_19 ?_
        refine zz_l255 hx hb d_Mo_type_22 ws.1 ws.2 ?_
        obtain ⟨x0, hx0, bx0⟩ : ∃ x : Nat, x = byt w n ∧ x < 256 := ⟨_, rfl, byt_lt w n⟩
        rw [show (((w : Int) / 2 ^ (8 * n)) % 256 : Int) = (x0 : Int) by rw [hx0]; simp [byt]]
        refine lv_lconst (v := lZ (0)) hx hb d_Mo_type_23 (by decide +kernel) ?_
        refine zz_lcmp_eq (tgt := 66) hx hb d_Mo_type_24 d_Mo_type_25 (by decide) (by omega) (by omega) (fun c24 => ?_) (fun c24 => ?_)
        · have tkn : TkN w n := ⟨ii, fun i hi => (iq i hi).1, by first | (left; omega) | (right; rw [← hx0]; omega)⟩
          refine lv_aload_n hx hb d_Mo_type_66 rfl (lv_at hl 0 rfl) ?_
          refine va_get (D := D) (ci := 8) (v := .int (iZ (cn : Int))) (C := R_Mo) (T := F_Mo) (N := 14) hx hb hts i_Mo hown hK hP 0 rfl rfl 10 (by decide) (hts _ (big_in mw_1125 rfl)) (fun _ h9 => h9) rfl d_Mo_type_67 ?_
          refine lv_iload_n hx hb d_Mo_type_70 rfl (lv_at hl 2 rfl) ?_
          refine zz_iadd hx hb d_Mo_type_71 ?_
          refine lv_sipush (v := iZ (400)) hx hb d_Mo_type_72 (by decide +kernel) ?_
          refine zz_icmp_le (tgt := 80) hx hb d_Mo_type_75 (by decide) (by omega) (by omega) (fun c75 => ?_) (fun c75 => ?_)
          · rw [← extC_0 ft cn w] at hP hD
            refine lv_iconst (v := iZ (0)) hx hb d_Mo_type_80 (by decide +kernel) ?_
            refine lv_istore (lv' := [(4, .int (iZ 0)), (0, .ref mo), (1, .long (lZ (w : Int))), (3, .int (iZ (n : Int)))]) hx hb d_Mo_type_81 hl (by decide) rfl (fun ls hl => ?_)
            rw [show ((cn : Int) : Int) = ((cn + 0 : Nat) : Int) by omega] at hP hD
            exact L83 _ 0 _ _ _ (Nat.lt_succ_self _) (by omega) (by omega) tkn (hP.sub (ws' := [(mo, .inr (8, [.int (iZ 0), .int (iZ (np : Int)), .ref ow, .ref om, .ref ok_, .ref oK, .ref og, .ref on_, .ref oh, .ref ox, .int (iZ ((cn + 0 : Nat) : Int)), .int qf, .ref op_, .int ql])), (ox, .inl (cI, 400, .inl (extC ft cn 0 w)))]) [0, 1] rfl) (hD.sub (ws' := [(mo, .inr (8, [.int (iZ 0), .int (iZ (np : Int)), .ref ow, .ref om, .ref ok_, .ref oK, .ref og, .ref on_, .ref oh, .ref ox, .int (iZ ((cn + 0 : Nat) : Int)), .int qf, .ref op_, .int ql])), (ox, .inl (cI, 400, .inl (extC ft cn 0 w)))]) [0, 1] (by decide) rfl) hS (lv_sub hl [1, 2, 3, 0] rfl)
          · refine lv_iconst (v := iZ (0)) hx hb d_Mo_type_78 (by decide +kernel) ?_
            have hP9 : va_P D cls0 [(mo, .inr (8, [.int (iZ 0), .int (iZ (np : Int)), .ref ow, .ref om, .ref ok_, .ref oK, .ref og, .ref on_, .ref oh, .ref ox, .int (iZ (cn : Int)), .int qf, .ref op_, .int ql])), (ox, .inl (cI, 400, .inl ft))] H := hP.sub [0, 1] rfl
            have hD9 : va_D A [(mo, .inr (8, [.int (iZ 0), .int (iZ (np : Int)), .ref ow, .ref om, .ref ok_, .ref oK, .ref og, .ref on_, .ref oh, .ref ox, .int (iZ (cn : Int)), .int qf, .ref op_, .int ql])), (ox, .inl (cI, 400, .inl ft))] := hD.sub [0, 1] (by decide) rfl
            rw [hQ, ← hAe]
            refine r_z (v := (iZ 0)) K (0, cn, ft) hS rfl d_Mo_type_79 ?_ (fun t ht hv => ?_)
            · try dsimp only
              exact ⟨rfl, Or.inl ⟨rfl, rfl, rfl, Or.inr ⟨n, tkn, by omega⟩⟩⟩
            · exact ⟨by rw [ht]; exact hP9, va_K.moved hv hK, by rw [← hAe]; exact hD9⟩
        · refine lv_lload_n hx hb d_Mo_type_28 rfl (lv_at hl 1 rfl) ?_
          refine lv_bipush (v := iZ (8)) hx hb d_Mo_type_29 (by decide +kernel) ?_
          refine lv_iload_n hx hb d_Mo_type_31 rfl (lv_at hl 2 rfl) ?_
          refine zz_imul hx hb d_Mo_type_32 ?_
          refine zz_lushr (n := 8 * n) hx hb d_Mo_type_33 (by omega) (by omega) (by omega) (by omega) ?_
          refine lv_ldc2 (v := lZ (255)) hx hb hown (hts _ (big_in mw_1358 rfl)) d_Mo_type_34 ?_
          refine zz_l255 hx hb d_Mo_type_37 ws.1 ws.2 ?_
          obtain ⟨x1, hx1, bx1⟩ : ∃ x : Nat, x = byt w n ∧ x < 256 := ⟨_, rfl, byt_lt w n⟩
          rw [show (((w : Int) / 2 ^ (8 * n)) % 256 : Int) = (x1 : Int) by rw [hx1]; simp [byt]]
          refine lv_lstore (lv' := [(4, .long (lZ (x1 : Int))), (0, .ref mo), (1, .long (lZ (w : Int))), (3, .int (iZ (n : Int)))]) hx hb d_Mo_type_38 hl (by decide) rfl (fun ls hl => ?_)
          refine lv_lload hx hb d_Mo_type_40 (lv_at hl 0 rfl) ?_
          refine lv_ldc2 (v := lZ (33)) hx hb hown (hts _ (big_in mw_1359 rfl)) d_Mo_type_42 ?_
          refine zz_lcmp_lt (tgt := 58) hx hb d_Mo_type_45 d_Mo_type_46 (by decide) (by omega) (by omega) (fun c45 => ?_) (fun c45 => ?_)
          · refine lv_iconst (v := iZ (0)) hx hb d_Mo_type_58 (by decide +kernel) ?_
            have hP9 : va_P D cls0 [(mo, .inr (8, [.int (iZ 0), .int (iZ (np : Int)), .ref ow, .ref om, .ref ok_, .ref oK, .ref og, .ref on_, .ref oh, .ref ox, .int (iZ (cn : Int)), .int qf, .ref op_, .int ql])), (ox, .inl (cI, 400, .inl ft))] H := hP.sub [0, 1] rfl
            have hD9 : va_D A [(mo, .inr (8, [.int (iZ 0), .int (iZ (np : Int)), .ref ow, .ref om, .ref ok_, .ref oK, .ref og, .ref on_, .ref oh, .ref ox, .int (iZ (cn : Int)), .int qf, .ref op_, .int ql])), (ox, .inl (cI, 400, .inl ft))] := hD.sub [0, 1] (by decide) rfl
            rw [hQ, ← hAe]
            refine r_z (v := (iZ 0)) K (0, cn, ft) hS rfl d_Mo_type_59 ?_ (fun t ht hv => ?_)
            · try dsimp only
              exact ⟨rfl, Or.inl ⟨rfl, rfl, rfl, Or.inl ⟨n, by omega, fun j hj => by rcases Nat.lt_or_ge j n with q | q; exact (iq j q).1; (rw [show j = n by omega, ← hx0]; omega), by rw [← hx1]; omega⟩⟩⟩
            · exact ⟨by rw [ht]; exact hP9, va_K.moved hv hK, by rw [← hAe]; exact hD9⟩
          · refine lv_lload hx hb d_Mo_type_49 (lv_at hl 0 rfl) ?_
            refine lv_ldc2 (v := lZ (126)) hx hb hown (hts _ (big_in mw_1360 rfl)) d_Mo_type_51 ?_
            refine zz_lcmp_le (tgt := 60) hx hb d_Mo_type_54 d_Mo_type_55 (by decide) (by omega) (by omega) (fun c54 => ?_) (fun c54 => ?_)
            · refine lv_iinc (v := iZ ((n : Int) + 1)) (lv' := [(3, .int (iZ ((n : Int) + 1))), (4, .long (lZ (x1 : Int))), (0, .ref mo), (1, .long (lZ (w : Int)))]) hx hb d_Mo_type_60 hl (k := 3) rfl (iZ_add _ _) (by decide) rfl (fun ls hl => ?_)
              refine lv_goto (tgt := 7) hx hb d_Mo_type_63 (by decide) ?_
              rw [show ((n : Int) + 1 : Int) = ((n + 1 : Nat) : Int) by omega] at hl
              exact ih (n + 1) _ _ _ (by omega) (by omega) (fun i hi => by rcases Nat.lt_or_ge i n with q | q; exact iq i q; (rw [show i = n by omega, ← hx0]; omega)) (hP.sub (ws' := [(mo, .inr (8, [.int (iZ 0), .int (iZ (np : Int)), .ref ow, .ref om, .ref ok_, .ref oK, .ref og, .ref on_, .ref oh, .ref ox, .int (iZ (cn : Int)), .int qf, .ref op_, .int ql])), (ox, .inl (cI, 400, .inl ft))]) [0, 1] rfl) (hD.sub (ws' := [(mo, .inr (8, [.int (iZ 0), .int (iZ (np : Int)), .ref ow, .ref om, .ref ok_, .ref oK, .ref og, .ref on_, .ref oh, .ref ox, .int (iZ (cn : Int)), .int qf, .ref op_, .int ql])), (ox, .inl (cI, 400, .inl ft))]) [0, 1] (by decide) rfl) hS (lv_sub hl [2, 3, 0] rfl)
            · refine lv_iconst (v := iZ (0)) hx hb d_Mo_type_58 (by decide +kernel) ?_
              have hP9 : va_P D cls0 [(mo, .inr (8, [.int (iZ 0), .int (iZ (np : Int)), .ref ow, .ref om, .ref ok_, .ref oK, .ref og, .ref on_, .ref oh, .ref ox, .int (iZ (cn : Int)), .int qf, .ref op_, .int ql])), (ox, .inl (cI, 400, .inl ft))] H := hP.sub [0, 1] rfl
              have hD9 : va_D A [(mo, .inr (8, [.int (iZ 0), .int (iZ (np : Int)), .ref ow, .ref om, .ref ok_, .ref oK, .ref og, .ref on_, .ref oh, .ref ox, .int (iZ (cn : Int)), .int qf, .ref op_, .int ql])), (ox, .inl (cI, 400, .inl ft))] := hD.sub [0, 1] (by decide) rfl
              rw [hQ, ← hAe]
              refine r_z (v := (iZ 0)) K (0, cn, ft) hS rfl d_Mo_type_59 ?_ (fun t ht hv => ?_)
              · try dsimp only
                exact ⟨rfl, Or.inl ⟨rfl, rfl, rfl, Or.inl ⟨n, by omega, fun j hj => by rcases Nat.lt_or_ge j n with q | q; exact (iq j q).1; (rw [show j = n by omega, ← hx0]; omega), by rw [← hx1]; omega⟩⟩⟩
              · exact ⟨by rw [ht]; exact hP9, va_K.moved hv hK, by rw [← hAe]; exact hD9⟩
  exact L7 _ 0 _ _ _ (Nat.lt_succ_self _) (by omega) (fun i hi => absurd hi (Nat.not_lt_zero _)) (hP.sub (ws' := [(mo, .inr (8, [.int (iZ 0), .int (iZ (np : Int)), .ref ow, .ref om, .ref ok_, .ref oK, .ref og, .ref on_, .ref oh, .ref ox, .int (iZ (cn : Int)), .int qf, .ref op_, .int ql])), (ox, .inl (cI, 400, .inl ft))]) [0, 1] rfl) (hD.sub (ws' := [(mo, .inr (8, [.int (iZ 0), .int (iZ (np : Int)), .ref ow, .ref om, .ref ok_, .ref oK, .ref og, .ref on_, .ref oh, .ref ox, .int (iZ (cn : Int)), .int qf, .ref op_, .int ql])), (ox, .inl (cI, 400, .inl ft))]) [0, 1] (by decide) rfl) hS (lv_sub hl [1, 2, 0] rfl)
def atT (t : Nat → Nat) (n i : Nat) : Int := if i < n then (t i : Int) else -1
theorem atT_in {t : Nat → Nat} {n i : Nat} (h : i < n) : atT t n i = (t i : Int) := if_pos h
theorem atT_out {t : Nat → Nat} {n i : Nat} (h : n ≤ i) : atT t n i = -1 := if_neg (by omega)
theorem atT_frm (t : Nat → Nat) (n : Nat) : (atT t n 0 = 45 ∧ frm t n = 1) ∨ (atT t n 0 ≠ 45 ∧ frm t n = 0) := by
  unfold atT frm
  by_cases h : 0 < n
  · rw [if_pos h]
    by_cases k : t 0 = 45
    · rw [if_pos ⟨h, k⟩]; left; omega
    · rw [if_neg (fun z => k z.2)]; right; omega
  · rw [if_neg h, if_neg (fun z => h z.1)]; right; omega
set_option maxHeartbeats 4000000 in
set_option maxRecDepth 100000 in
/-- at(i) -/
theorem c_Mo_at (l : Launch) (D : va_G) (mo : Nat) (qc : Int32) (np : Nat) (ow : Nat) (om : Nat) (ok_ : Nat) (oK : Nat) (og : Nat) (on_ : Nat) (oh : Nat) (ox : Nat) (qf : Int32) (op_ : Nat) (ql : Int32) (cn : Nat) (ft : Nat → Int32) (cI : ClassId) (tx : Nat → Nat) (i : Nat) (sz : Nat) (hcn : cn ≤ 400) (htx : ∀ j, j < cn → ft j = iZ (tx j : Int) ∧ tx j < 65536) (hi : i < 1000) : Met l y_Mo_at (wsB y_Mo_at b_Mo_at 2 (some .int)) ({ frames := 0, cells := 0, slots := 0, locals := 0 }) (va_Pc [.ref mo, .int (iZ (i : Int))] (wPre D [(cI, .int)] [(mo, .inr (8, [.int qc, .int (iZ (np : Int)), .ref ow, .ref om, .ref ok_, .ref oK, .ref og, .ref on_, .ref oh, .ref ox, .int (iZ (cn : Int)), .int qf, .ref op_, .int ql])), (ox, .inl (cI, 400, .inl ft))] sz)) (va_QV (fun (v_9 : Option Value) (u_9 : Int) => v_9 = some (.int (iZ u_9)) ∧ (u_9 = atT tx cn i) ∧ (-1 ≤ u_9 ∧ u_9 < 65536)) (fun u_9 => wPost D [(cI, .int)] [(mo, .inr (8, [.int qc, .int (iZ (np : Int)), .ref ow, .ref om, .ref ok_, .ref oK, .ref og, .ref on_, .ref oh, .ref ox, .int (iZ (cn : Int)), .int qf, .ref op_, .int ql])), (ox, .inl (cI, 400, .inl ft))] [(mo, .inr (8, [.int qc, .int (iZ (np : Int)), .ref ow, .ref om, .ref ok_, .ref oK, .ref og, .ref on_, .ref oh, .ref ox, .int (iZ (cn : Int)), .int qf, .ref op_, .int ql])), (ox, .inl (cI, 400, .inl ft))] sz) (va_A [(mo, .inr (8, [.int qc, .int (iZ (np : Int)), .ref ow, .ref om, .ref ok_, .ref oK, .ref og, .ref on_, .ref oh, .ref ox, .int (iZ (cn : Int)), .int qf, .ref op_, .int ql])), (ox, .inl (cI, 400, .inl ft))] sz)) 0 0 (va_A [(mo, .inr (8, [.int qc, .int (iZ (np : Int)), .ref ow, .ref om, .ref ok_, .ref oK, .ref og, .ref on_, .ref oh, .ref ox, .int (iZ (cn : Int)), .int qf, .ref op_, .int ql])), (ox, .inl (cI, 400, .inl ft))] sz) := by
  refine met_enter (by decide +kernel) (Nat.le_of_ble_eq_true rfl) ?_
  intro p e s m args below meth c ls A R Q H locs K hin hAe hA hR hQ hP hK hD hS hl
  obtain ⟨hx, hb, hml, hrt, hlk, hts, hown, hno⟩ := id K
  have hl : lv_has ls 2 [(0, .ref mo), (1, .int (iZ (i : Int)))] := hl
  refine lv_iload_n hx hb d_Mo_at_0 rfl (lv_at hl 1 rfl) ?_
  refine lv_aload_n hx hb d_Mo_at_1 rfl (lv_at hl 0 rfl) ?_
  refine va_get (D := D) (ci := 8) (v := .int (iZ (cn : Int))) (C := R_Mo) (T := F_Mo) (N := 14) hx hb hts i_Mo hown hK hP 0 rfl rfl 10 (by decide) (hts _ (big_in mw_1125 rfl)) (fun _ h9 => h9) rfl d_Mo_at_2 ?_
  refine zz_icmp_ge (tgt := 17) hx hb d_Mo_at_5 (by decide) (by omega) (by omega) (fun c5 => ?_) (fun c5 => ?_)
  · refine lv_iconst (v := iZ (-1)) hx hb d_Mo_at_17 (by decide +kernel) ?_
    have hP9 : va_P D cls0 [(mo, .inr (8, [.int qc, .int (iZ (np : Int)), .ref ow, .ref om, .ref ok_, .ref oK, .ref og, .ref on_, .ref oh, .ref ox, .int (iZ (cn : Int)), .int qf, .ref op_, .int ql])), (ox, .inl (cI, 400, .inl ft))] H := hP.sub [0, 1] rfl
    have hD9 : va_D A [(mo, .inr (8, [.int qc, .int (iZ (np : Int)), .ref ow, .ref om, .ref ok_, .ref oK, .ref og, .ref on_, .ref oh, .ref ox, .int (iZ (cn : Int)), .int qf, .ref op_, .int ql])), (ox, .inl (cI, 400, .inl ft))] := hD.sub [0, 1] (by decide) rfl
    rw [hQ, ← hAe]
    refine r_i (v := (iZ (-1))) K (-1) hS d_Mo_at_18 ?_ (fun t ht hv => ?_)
    · refine ⟨rfl, ?_, by omega⟩
      first | (rw [atT_in (by omega)]; done) | (rw [atT_out (by omega)]; done)
    · exact ⟨by rw [ht]; exact hP9, va_K.moved hv hK, by rw [← hAe]; exact hD9⟩
  · obtain ⟨ha, hb_⟩ := htx i (by omega)
    refine lv_aload_n hx hb d_Mo_at_8 rfl (lv_at hl 0 rfl) ?_
    refine va_get (D := D) (ci := 8) (v := .ref ox) (C := R_Mo) (T := F_Mo) (N := 14) hx hb hts i_Mo hown hK hP 0 rfl rfl 9 (by decide) (hts _ (big_in mw_1124 rfl)) (fun _ h9 => h9) rfl d_Mo_at_9 ?_
    refine lv_iload_n hx hb d_Mo_at_12 rfl (lv_at hl 1 rfl) ?_
    refine zz_iald hx hb hK hP 1 0 rfl rfl (i) (by omega) (by omega) (by omega) d_Mo_at_13 ?_
    rw [ha]
    refine lv_goto (tgt := 18) hx hb d_Mo_at_14 (by decide) ?_
    have hP9 : va_P D cls0 [(mo, .inr (8, [.int qc, .int (iZ (np : Int)), .ref ow, .ref om, .ref ok_, .ref oK, .ref og, .ref on_, .ref oh, .ref ox, .int (iZ (cn : Int)), .int qf, .ref op_, .int ql])), (ox, .inl (cI, 400, .inl ft))] H := hP.sub [0, 1] rfl
    have hD9 : va_D A [(mo, .inr (8, [.int qc, .int (iZ (np : Int)), .ref ow, .ref om, .ref ok_, .ref oK, .ref og, .ref on_, .ref oh, .ref ox, .int (iZ (cn : Int)), .int qf, .ref op_, .int ql])), (ox, .inl (cI, 400, .inl ft))] := hD.sub [0, 1] (by decide) rfl
    rw [hQ, ← hAe]
    refine r_i (v := (iZ (tx i : Int))) K (tx i : Int) hS d_Mo_at_18 ?_ (fun t ht hv => ?_)
    · refine ⟨rfl, ?_, by omega⟩
      first | (rw [atT_in (by omega)]; done) | (rw [atT_out (by omega)]; done)
    · exact ⟨by rw [ht]; exact hP9, va_K.moved hv hK, by rw [← hAe]; exact hD9⟩
set_option maxHeartbeats 4000000 in
set_option maxRecDepth 100000 in
/-- isFigure(i) -/
theorem c_Mo_isFigure (l : Launch) (D : va_G) (mo : Nat) (qc : Int32) (np : Nat) (ow : Nat) (om : Nat) (ok_ : Nat) (oK : Nat) (og : Nat) (on_ : Nat) (oh : Nat) (ox : Nat) (qf : Int32) (op_ : Nat) (ql : Int32) (cn : Nat) (ft : Nat → Int32) (cI : ClassId) (tx : Nat → Nat) (i : Nat) (sz : Nat) (hcn : cn ≤ 400) (htx : ∀ j, j < cn → ft j = iZ (tx j : Int) ∧ tx j < 65536) (hi : i < 1000) : Met l y_Mo_isFigure (wsB y_Mo_isFigure b_Mo_isFigure 2 (some .boolean)) ({ frames := 1, cells := 0, slots := 0, locals := 21 }) (va_Pc [.ref mo, .int (iZ (i : Int))] (wPre D [(cI, .int)] [(mo, .inr (8, [.int qc, .int (iZ (np : Int)), .ref ow, .ref om, .ref ok_, .ref oK, .ref og, .ref on_, .ref oh, .ref ox, .int (iZ (cn : Int)), .int qf, .ref op_, .int ql])), (ox, .inl (cI, 400, .inl ft))] sz)) (va_QV (fun (v_9 : Option Value) (u_9 : Int) => v_9 = some (.int (iZ u_9)) ∧ ((i < cn ∧ isF (tx i) ∧ u_9 = 1) ∨ ((i < cn → ¬ isF (tx i)) ∧ u_9 = 0))) (fun u_9 => wPost D [(cI, .int)] [(mo, .inr (8, [.int qc, .int (iZ (np : Int)), .ref ow, .ref om, .ref ok_, .ref oK, .ref og, .ref on_, .ref oh, .ref ox, .int (iZ (cn : Int)), .int qf, .ref op_, .int ql])), (ox, .inl (cI, 400, .inl ft))] [(mo, .inr (8, [.int qc, .int (iZ (np : Int)), .ref ow, .ref om, .ref ok_, .ref oK, .ref og, .ref on_, .ref oh, .ref ox, .int (iZ (cn : Int)), .int qf, .ref op_, .int ql])), (ox, .inl (cI, 400, .inl ft))] sz) (va_A [(mo, .inr (8, [.int qc, .int (iZ (np : Int)), .ref ow, .ref om, .ref ok_, .ref oK, .ref og, .ref on_, .ref oh, .ref ox, .int (iZ (cn : Int)), .int qf, .ref op_, .int ql])), (ox, .inl (cI, 400, .inl ft))] sz)) 0 0 (va_A [(mo, .inr (8, [.int qc, .int (iZ (np : Int)), .ref ow, .ref om, .ref ok_, .ref oK, .ref og, .ref on_, .ref oh, .ref ox, .int (iZ (cn : Int)), .int qf, .ref op_, .int ql])), (ox, .inl (cI, 400, .inl ft))] sz) := by
  refine met_enter (by decide +kernel) (Nat.le_of_ble_eq_true rfl) ?_
  intro p e s m args below meth c ls A R Q H locs K hin hAe hA hR hQ hP hK hD hS hl
  obtain ⟨hx, hb, hml, hrt, hlk, hts, hown, hno⟩ := id K
  have hl : lv_has ls 2 [(0, .ref mo), (1, .int (iZ (i : Int)))] := hl
  refine lv_aload_n hx hb d_Mo_isFigure_0 rfl (lv_at hl 0 rfl) ?_
  refine lv_iload_n hx hb d_Mo_isFigure_1 rfl (lv_at hl 1 rfl) ?_
  refine cv (n := 1) (wr := []) (w1 := (fun (u : Int) => [(mo, .inr (8, [.int qc, .int (iZ (np : Int)), .ref ow, .ref om, .ref ok_, .ref oK, .ref og, .ref on_, .ref oh, .ref ox, .int (iZ (cn : Int)), .int qf, .ref op_, .int ql])), (ox, .inl (cI, 400, .inl ft))])) (As := [.int (iZ (i : Int))]) (rest := []) K hP hD hK hS hA hl.1 (c_Mo_at l D mo qc np ow om ok_ oK og on_ oh ox qf op_ ql cn ft cI tx i H.size hcn htx (by omega)) [0, 1] [] [0] rfl rfl rfl (by decide) (by decide) (by decide) 0 rfl rfl (big_in mw_1372 rfl) (big_in mw_10 rfl) (big_in mw_1369 rfl) (big_in mw_1371 rfl) (big_in sp_47 rfl) rfl rfl (by decide +kernel) ⟨by rw [hR]; exact Nat.le_of_ble_eq_true rfl, by rw [hR]; exact Nat.le_of_ble_eq_true rfl⟩ rfl (Nat.le_of_ble_eq_true rfl) d_Mo_isFigure_2 ⟨by rw [hR]; exact Nat.le_of_ble_eq_true rfl, by rw [hR]; exact Nat.le_of_ble_eq_true rfl⟩ rfl (fun v u H locs hp1 hP hD hS _ => ?_)
  obtain ⟨x1, rfl⟩ : ∃ z, z = u := ⟨_, rfl⟩
  obtain ⟨rfl, ex1, bx1⟩ := hp1
  have hP : va_P D cls0 [(mo, .inr (8, [.int qc, .int (iZ (np : Int)), .ref ow, .ref om, .ref ok_, .ref oK, .ref og, .ref on_, .ref oh, .ref ox, .int (iZ (cn : Int)), .int qf, .ref op_, .int ql])), (ox, .inl (cI, 400, .inl ft))] H := hP
  have hD : va_D A [(mo, .inr (8, [.int qc, .int (iZ (np : Int)), .ref ow, .ref om, .ref ok_, .ref oK, .ref og, .ref on_, .ref oh, .ref ox, .int (iZ (cn : Int)), .int qf, .ref op_, .int ql])), (ox, .inl (cI, 400, .inl ft))] := hD
  show W p l e R s m args below meth c H locs _ _ Q (F0 m 5 ls [.int (iZ x1)])
  refine lv_bipush (v := iZ (48)) hx hb d_Mo_isFigure_5 (by decide +kernel) ?_
  refine zz_icmp_lt (tgt := 24) hx hb d_Mo_isFigure_7 (by decide) (by omega) (by omega) (fun c7 => ?_) (fun c7 => ?_)
  · refine lv_iconst (v := iZ (0)) hx hb d_Mo_isFigure_24 (by decide +kernel) ?_
    have hP9 : va_P D cls0 [(mo, .inr (8, [.int qc, .int (iZ (np : Int)), .ref ow, .ref om, .ref ok_, .ref oK, .ref og, .ref on_, .ref oh, .ref ox, .int (iZ (cn : Int)), .int qf, .ref op_, .int ql])), (ox, .inl (cI, 400, .inl ft))] H := hP.sub [0, 1] rfl
    have hD9 : va_D A [(mo, .inr (8, [.int qc, .int (iZ (np : Int)), .ref ow, .ref om, .ref ok_, .ref oK, .ref og, .ref on_, .ref oh, .ref ox, .int (iZ (cn : Int)), .int qf, .ref op_, .int ql])), (ox, .inl (cI, 400, .inl ft))] := hD.sub [0, 1] (by decide) rfl
    rw [hQ, ← hAe]
    refine r_z (v := (iZ 0)) K 0 hS rfl d_Mo_isFigure_25 ?_ (fun t ht hv => ?_)
    · refine ⟨rfl, ?_⟩
      unfold isF
      rcases Nat.lt_or_ge i cn with q | q
      · rw [atT_in q] at ex1; try rw [atT_in q] at ex2
        omega
      · rw [atT_out q] at ex1; try rw [atT_out q] at ex2
        omega
    · exact ⟨by rw [ht]; exact hP9, va_K.moved hv hK, by rw [← hAe]; exact hD9⟩
  · refine lv_aload_n hx hb d_Mo_isFigure_10 rfl (lv_at hl 0 rfl) ?_
    refine lv_iload_n hx hb d_Mo_isFigure_11 rfl (lv_at hl 1 rfl) ?_
    refine cv (n := 1) (wr := []) (w1 := (fun (u : Int) => [(mo, .inr (8, [.int qc, .int (iZ (np : Int)), .ref ow, .ref om, .ref ok_, .ref oK, .ref og, .ref on_, .ref oh, .ref ox, .int (iZ (cn : Int)), .int qf, .ref op_, .int ql])), (ox, .inl (cI, 400, .inl ft))])) (As := [.int (iZ (i : Int))]) (rest := []) K hP hD hK hS hA hl.1 (c_Mo_at l D mo qc np ow om ok_ oK og on_ oh ox qf op_ ql cn ft cI tx i H.size hcn htx (by omega)) [0, 1] [] [0] rfl rfl rfl (by decide) (by decide) (by decide) 0 rfl rfl (big_in mw_1372 rfl) (big_in mw_10 rfl) (big_in mw_1369 rfl) (big_in mw_1371 rfl) (big_in sp_47 rfl) rfl rfl (by decide +kernel) ⟨by rw [hR]; exact Nat.le_of_ble_eq_true rfl, by rw [hR]; exact Nat.le_of_ble_eq_true rfl⟩ rfl (Nat.le_of_ble_eq_true rfl) d_Mo_isFigure_12 ⟨by rw [hR]; exact Nat.le_of_ble_eq_true rfl, by rw [hR]; exact Nat.le_of_ble_eq_true rfl⟩ rfl (fun v u H locs hp2 hP hD hS _ => ?_)
    obtain ⟨x2, rfl⟩ : ∃ z, z = u := ⟨_, rfl⟩
    obtain ⟨rfl, ex2, bx2⟩ := hp2
    have hP : va_P D cls0 [(mo, .inr (8, [.int qc, .int (iZ (np : Int)), .ref ow, .ref om, .ref ok_, .ref oK, .ref og, .ref on_, .ref oh, .ref ox, .int (iZ (cn : Int)), .int qf, .ref op_, .int ql])), (ox, .inl (cI, 400, .inl ft))] H := hP
    have hD : va_D A [(mo, .inr (8, [.int qc, .int (iZ (np : Int)), .ref ow, .ref om, .ref ok_, .ref oK, .ref og, .ref on_, .ref oh, .ref ox, .int (iZ (cn : Int)), .int qf, .ref op_, .int ql])), (ox, .inl (cI, 400, .inl ft))] := hD
    show W p l e R s m args below meth c H locs _ _ Q (F0 m 15 ls [.int (iZ x2)])
    refine lv_bipush (v := iZ (57)) hx hb d_Mo_isFigure_15 (by decide +kernel) ?_
    refine zz_icmp_gt (tgt := 24) hx hb d_Mo_isFigure_17 (by decide) (by omega) (by omega) (fun c17 => ?_) (fun c17 => ?_)
    · refine lv_iconst (v := iZ (0)) hx hb d_Mo_isFigure_24 (by decide +kernel) ?_
      have hP9 : va_P D cls0 [(mo, .inr (8, [.int qc, .int (iZ (np : Int)), .ref ow, .ref om, .ref ok_, .ref oK, .ref og, .ref on_, .ref oh, .ref ox, .int (iZ (cn : Int)), .int qf, .ref op_, .int ql])), (ox, .inl (cI, 400, .inl ft))] H := hP.sub [0, 1] rfl
      have hD9 : va_D A [(mo, .inr (8, [.int qc, .int (iZ (np : Int)), .ref ow, .ref om, .ref ok_, .ref oK, .ref og, .ref on_, .ref oh, .ref ox, .int (iZ (cn : Int)), .int qf, .ref op_, .int ql])), (ox, .inl (cI, 400, .inl ft))] := hD.sub [0, 1] (by decide) rfl
      rw [hQ, ← hAe]
      refine r_z (v := (iZ 0)) K 0 hS rfl d_Mo_isFigure_25 ?_ (fun t ht hv => ?_)
      · refine ⟨rfl, ?_⟩
        unfold isF
        rcases Nat.lt_or_ge i cn with q | q
        · rw [atT_in q] at ex1; try rw [atT_in q] at ex2
          omega
        · rw [atT_out q] at ex1; try rw [atT_out q] at ex2
          omega
      · exact ⟨by rw [ht]; exact hP9, va_K.moved hv hK, by rw [← hAe]; exact hD9⟩
    · refine lv_iconst (v := iZ (1)) hx hb d_Mo_isFigure_20 (by decide +kernel) ?_
      refine lv_goto (tgt := 25) hx hb d_Mo_isFigure_21 (by decide) ?_
      have hP9 : va_P D cls0 [(mo, .inr (8, [.int qc, .int (iZ (np : Int)), .ref ow, .ref om, .ref ok_, .ref oK, .ref og, .ref on_, .ref oh, .ref ox, .int (iZ (cn : Int)), .int qf, .ref op_, .int ql])), (ox, .inl (cI, 400, .inl ft))] H := hP.sub [0, 1] rfl
      have hD9 : va_D A [(mo, .inr (8, [.int qc, .int (iZ (np : Int)), .ref ow, .ref om, .ref ok_, .ref oK, .ref og, .ref on_, .ref oh, .ref ox, .int (iZ (cn : Int)), .int qf, .ref op_, .int ql])), (ox, .inl (cI, 400, .inl ft))] := hD.sub [0, 1] (by decide) rfl
      rw [hQ, ← hAe]
      refine r_z (v := (iZ 1)) K 1 hS rfl d_Mo_isFigure_25 ?_ (fun t ht hv => ?_)
      · refine ⟨rfl, ?_⟩
        unfold isF
        rcases Nat.lt_or_ge i cn with q | q
        · rw [atT_in q] at ex1; try rw [atT_in q] at ex2
          omega
        · rw [atT_out q] at ex1; try rw [atT_out q] at ex2
          omega
      · exact ⟨by rw [ht]; exact hP9, va_K.moved hv hK, by rw [← hAe]; exact hD9⟩
set_option maxHeartbeats 4000000 in
set_option maxRecDepth 100000 in
/-- behind(from) -/
theorem c_Mo_behind (l : Launch) (D : va_G) (mo : Nat) (qc : Int32) (np : Nat) (ow : Nat) (om : Nat) (ok_ : Nat) (oK : Nat) (og : Nat) (on_ : Nat) (oh : Nat) (ox : Nat) (qf : Int32) (op_ : Nat) (ql : Int32) (cn : Nat) (ft : Nat → Int32) (cI : ClassId) (tx : Nat → Nat) (a : Nat) (sz : Nat) (hcn : cn ≤ 400) (htx : ∀ j, j < cn → ft j = iZ (tx j : Int) ∧ tx j < 65536) (ha : a ≤ cn) : Met l y_Mo_behind (wsB y_Mo_behind b_Mo_behind 3 (some .int)) ({ frames := 2, cells := 0, slots := 0, locals := 42 }) (va_Pc [.ref mo, .int (iZ (a : Int))] (wPre D [(cI, .int)] [(mo, .inr (8, [.int qc, .int (iZ (np : Int)), .ref ow, .ref om, .ref ok_, .ref oK, .ref og, .ref on_, .ref oh, .ref ox, .int (iZ (cn : Int)), .int qf, .ref op_, .int ql])), (ox, .inl (cI, 400, .inl ft))] sz)) (va_QV (fun (v_9 : Option Value) (u_9 : Nat) => v_9 = some (.int (iZ (u_9 : Int))) ∧ (Bh tx cn a u_9)) (fun u_9 => wPost D [(cI, .int)] [(mo, .inr (8, [.int qc, .int (iZ (np : Int)), .ref ow, .ref om, .ref ok_, .ref oK, .ref og, .ref on_, .ref oh, .ref ox, .int (iZ (cn : Int)), .int qf, .ref op_, .int ql])), (ox, .inl (cI, 400, .inl ft))] [(mo, .inr (8, [.int qc, .int (iZ (np : Int)), .ref ow, .ref om, .ref ok_, .ref oK, .ref og, .ref on_, .ref oh, .ref ox, .int (iZ (cn : Int)), .int qf, .ref op_, .int ql])), (ox, .inl (cI, 400, .inl ft))] sz) (va_A [(mo, .inr (8, [.int qc, .int (iZ (np : Int)), .ref ow, .ref om, .ref ok_, .ref oK, .ref og, .ref on_, .ref oh, .ref ox, .int (iZ (cn : Int)), .int qf, .ref op_, .int ql])), (ox, .inl (cI, 400, .inl ft))] sz)) 0 0 (va_A [(mo, .inr (8, [.int qc, .int (iZ (np : Int)), .ref ow, .ref om, .ref ok_, .ref oK, .ref og, .ref on_, .ref oh, .ref ox, .int (iZ (cn : Int)), .int qf, .ref op_, .int ql])), (ox, .inl (cI, 400, .inl ft))] sz) := by
  refine met_enter (by decide +kernel) (Nat.le_of_ble_eq_true rfl) ?_
  intro p e s m args below meth c ls A R Q H locs K hin hAe hA hR hQ hP hK hD hS hl
  obtain ⟨hx, hb, hml, hrt, hlk, hts, hown, hno⟩ := id K
  have hl : lv_has ls 3 [(0, .ref mo), (1, .int (iZ (a : Int)))] := hl
  refine lv_iload_n hx hb d_Mo_behind_0 rfl (lv_at hl 1 rfl) ?_
  refine lv_istore_n (lv' := [(2, .int (iZ (a : Int))), (0, .ref mo), (1, .int (iZ (a : Int)))]) hx hb d_Mo_behind_1 rfl hl (by decide) rfl (fun ls hl => ?_)
  have L2 : ∀ (N : Nat) (i : Nat) (H : Heap) (locs : List Loc) (ls : Array Slot), cn - i < N → (a ≤ i) → (i ≤ cn) → (digs tx a i) → va_P D cls0 [(mo, .inr (8, [.int qc, .int (iZ (np : Int)), .ref ow, .ref om, .ref ok_, .ref oK, .ref og, .ref on_, .ref oh, .ref ox, .int (iZ (cn : Int)), .int qf, .ref op_, .int ql])), (ox, .inl (cI, 400, .inl ft))] H → va_D A [(mo, .inr (8, [.int qc, .int (iZ (np : Int)), .ref ow, .ref om, .ref ok_, .ref oK, .ref og, .ref on_, .ref oh, .ref ox, .int (iZ (cn : Int)), .int qf, .ref op_, .int ql])), (ox, .inl (cI, 400, .inl ft))] → va_S A s.heap H locs → lv_has ls 3 [(0, .ref mo), (1, .int (iZ (a : Int))), (2, .int (iZ (i : Int)))] → W p l e R s m args below meth c H locs 0 0 Q (F0 m 2 ls []) := by
    intro N
    induction N with
    | zero => intro i H locs ls hN; exact absurd hN (Nat.not_lt_zero _)
    | succ N ih =>
      intro i H locs ls hN i1 i2 i3 hP hD hS hl
      refine lv_aload_n hx hb d_Mo_behind_2 rfl (lv_at hl 0 rfl) ?_
      refine lv_iload_n hx hb d_Mo_behind_3 rfl (lv_at hl 2 rfl) ?_
      refine cv (n := 1) (wr := []) (w1 := (fun (u : Int) => [(mo, .inr (8, [.int qc, .int (iZ (np : Int)), .ref ow, .ref om, .ref ok_, .ref oK, .ref og, .ref on_, .ref oh, .ref ox, .int (iZ (cn : Int)), .int qf, .ref op_, .int ql])), (ox, .inl (cI, 400, .inl ft))])) (As := [.int (iZ (i : Int))]) (rest := []) K hP hD hK hS hA hl.1 (c_Mo_isFigure l D mo qc np ow om ok_ oK og on_ oh ox qf op_ ql cn ft cI tx i H.size hcn htx (by omega)) [0, 1] [] [0] rfl rfl rfl (by decide) (by decide) (by decide) 0 rfl rfl (big_in mw_1380 rfl) (big_in mw_10 rfl) (big_in mw_1377 rfl) (big_in mw_1379 rfl) (big_in sp_49 rfl) rfl rfl (by decide +kernel) ⟨by rw [hR]; exact Nat.le_of_ble_eq_true rfl, by rw [hR]; exact Nat.le_of_ble_eq_true rfl⟩ rfl (Nat.le_of_ble_eq_true rfl) d_Mo_behind_4 ⟨by rw [hR]; exact Nat.le_of_ble_eq_true rfl, by rw [hR]; exact Nat.le_of_ble_eq_true rfl⟩ rfl (fun v u H locs hp1 hP hD hS _ => ?_)
      obtain ⟨rf, rfl⟩ : ∃ z, z = u := ⟨_, rfl⟩
      obtain ⟨rfl, pf⟩ := hp1
      have hP : va_P D cls0 [(mo, .inr (8, [.int qc, .int (iZ (np : Int)), .ref ow, .ref om, .ref ok_, .ref oK, .ref og, .ref on_, .ref oh, .ref ox, .int (iZ (cn : Int)), .int qf, .ref op_, .int ql])), (ox, .inl (cI, 400, .inl ft))] H := hP
      have hD : va_D A [(mo, .inr (8, [.int qc, .int (iZ (np : Int)), .ref ow, .ref om, .ref ok_, .ref oK, .ref og, .ref on_, .ref oh, .ref ox, .int (iZ (cn : Int)), .int qf, .ref op_, .int ql])), (ox, .inl (cI, 400, .inl ft))] := hD
      show W p l e R s m args below meth c H locs _ _ Q (F0 m 7 ls [.int (iZ rf)])
      have rb : rf = 0 ∨ rf = 1 := by rcases pf with h | h; exact Or.inr h.2.2; exact Or.inl h.2
      refine zz_if_eq (tgt := 16) hx hb d_Mo_behind_7 (by decide) (by omega) (fun c7 => ?_) (fun c7 => ?_)
      · have hnf : i < cn → ¬ isF (tx i) := by rcases pf with h | h; (exfalso; omega); exact h.1
        refine lv_iload_n hx hb d_Mo_behind_16 rfl (lv_at hl 2 rfl) ?_
        have hP9 : va_P D cls0 [(mo, .inr (8, [.int qc, .int (iZ (np : Int)), .ref ow, .ref om, .ref ok_, .ref oK, .ref og, .ref on_, .ref oh, .ref ox, .int (iZ (cn : Int)), .int qf, .ref op_, .int ql])), (ox, .inl (cI, 400, .inl ft))] H := hP.sub [0, 1] rfl
        have hD9 : va_D A [(mo, .inr (8, [.int qc, .int (iZ (np : Int)), .ref ow, .ref om, .ref ok_, .ref oK, .ref og, .ref on_, .ref oh, .ref ox, .int (iZ (cn : Int)), .int qf, .ref op_, .int ql])), (ox, .inl (cI, 400, .inl ft))] := hD.sub [0, 1] (by decide) rfl
        rw [hQ, ← hAe]
        refine r_i (v := (iZ (i : Int))) K i hS d_Mo_behind_17 ?_ (fun t ht hv => ?_)
        · refine ⟨rfl, i1, i2, i3, ?_⟩
          rcases Nat.lt_or_ge i cn with q | q
          · exact Or.inr (hnf q)
          · left; omega
        · exact ⟨by rw [ht]; exact hP9, va_K.moved hv hK, by rw [← hAe]; exact hD9⟩
      · have hlt : i < cn ∧ isF (tx i) := by rcases pf with h | h; exact ⟨h.1, h.2.1⟩; (exfalso; omega)
        refine lv_iinc (v := iZ ((i : Int) + 1)) (lv' := [(2, .int (iZ ((i : Int) + 1))), (0, .ref mo), (1, .int (iZ (a : Int)))]) hx hb d_Mo_behind_10 hl (k := 2) rfl (iZ_add _ _) (by decide) rfl (fun ls hl => ?_)
        refine lv_goto (tgt := 2) hx hb d_Mo_behind_13 (by decide) ?_
        rw [show ((i : Int) + 1 : Int) = ((i + 1 : Nat) : Int) by omega] at hl
        exact ih (i + 1) _ _ _ (by have z := hlt.1; omega) (by omega) hlt.1 (i3.s hlt.2) (hP.sub (ws' := [(mo, .inr (8, [.int qc, .int (iZ (np : Int)), .ref ow, .ref om, .ref ok_, .ref oK, .ref og, .ref on_, .ref oh, .ref ox, .int (iZ (cn : Int)), .int qf, .ref op_, .int ql])), (ox, .inl (cI, 400, .inl ft))]) [0, 1] rfl) (hD.sub (ws' := [(mo, .inr (8, [.int qc, .int (iZ (np : Int)), .ref ow, .ref om, .ref ok_, .ref oK, .ref og, .ref on_, .ref oh, .ref ox, .int (iZ (cn : Int)), .int qf, .ref op_, .int ql])), (ox, .inl (cI, 400, .inl ft))]) [0, 1] (by decide) rfl) hS (lv_sub hl [1, 2, 0] rfl)
  exact L2 _ a _ _ _ (Nat.lt_succ_self _) (Nat.le_refl _) ha (digs.nil (Nat.le_refl _)) (hP.sub (ws' := [(mo, .inr (8, [.int qc, .int (iZ (np : Int)), .ref ow, .ref om, .ref ok_, .ref oK, .ref og, .ref on_, .ref oh, .ref ox, .int (iZ (cn : Int)), .int qf, .ref op_, .int ql])), (ox, .inl (cI, 400, .inl ft))]) [0, 1] rfl) (hD.sub (ws' := [(mo, .inr (8, [.int qc, .int (iZ (np : Int)), .ref ow, .ref om, .ref ok_, .ref oK, .ref og, .ref on_, .ref oh, .ref ox, .int (iZ (cn : Int)), .int qf, .ref op_, .int ql])), (ox, .inl (cI, 400, .inl ft))]) [0, 1] (by decide) rfl) hS (lv_sub hl [1, 2, 0] rfl)
set_option maxHeartbeats 4000000 in
set_option maxRecDepth 100000 in
/-- wrong() -/
theorem c_Mo_wrong (l : Launch) (D : va_G) (mo : Nat) (qc : Int32) (np : Nat) (ow : Nat) (om : Nat) (ok_ : Nat) (oK : Nat) (og : Nat) (on_ : Nat) (oh : Nat) (ox : Nat) (qf : Int32) (op_ : Nat) (ql : Int32) (cn : Nat) (ft : Nat → Int32) (cI : ClassId) (tx : Nat → Nat) (sz : Nat) (hcn : cn ≤ 400) (htx : ∀ j, j < cn → ft j = iZ (tx j : Int) ∧ tx j < 65536) : Met l y_Mo_wrong (wsB y_Mo_wrong b_Mo_wrong 6 (some .int)) ({ frames := 3, cells := 0, slots := 0, locals := 64 }) (va_Pc [.ref mo] (wPre D [(cI, .int)] [(mo, .inr (8, [.int qc, .int (iZ (np : Int)), .ref ow, .ref om, .ref ok_, .ref oK, .ref og, .ref on_, .ref oh, .ref ox, .int (iZ (cn : Int)), .int qf, .ref op_, .int ql])), (ox, .inl (cI, 400, .inl ft))] sz)) (va_QV (fun (v_9 : Option Value) (u_9 : Int) => v_9 = some (.int (iZ u_9)) ∧ (WR tx cn u_9) ∧ (-1 ≤ u_9 ∧ u_9 ≤ 400)) (fun u_9 => wPost D [(cI, .int)] [(mo, .inr (8, [.int qc, .int (iZ (np : Int)), .ref ow, .ref om, .ref ok_, .ref oK, .ref og, .ref on_, .ref oh, .ref ox, .int (iZ (cn : Int)), .int qf, .ref op_, .int ql])), (ox, .inl (cI, 400, .inl ft))] [(mo, .inr (8, [.int qc, .int (iZ (np : Int)), .ref ow, .ref om, .ref ok_, .ref oK, .ref og, .ref on_, .ref oh, .ref ox, .int (iZ (cn : Int)), .int qf, .ref op_, .int ql])), (ox, .inl (cI, 400, .inl ft))] sz) (va_A [(mo, .inr (8, [.int qc, .int (iZ (np : Int)), .ref ow, .ref om, .ref ok_, .ref oK, .ref og, .ref on_, .ref oh, .ref ox, .int (iZ (cn : Int)), .int qf, .ref op_, .int ql])), (ox, .inl (cI, 400, .inl ft))] sz)) 0 0 (va_A [(mo, .inr (8, [.int qc, .int (iZ (np : Int)), .ref ow, .ref om, .ref ok_, .ref oK, .ref og, .ref on_, .ref oh, .ref ox, .int (iZ (cn : Int)), .int qf, .ref op_, .int ql])), (ox, .inl (cI, 400, .inl ft))] sz) := by
  refine met_enter (by decide +kernel) (Nat.le_of_ble_eq_true rfl) ?_
  intro p e s m args below meth c ls A R Q H locs K hin hAe hA hR hQ hP hK hD hS hl
  obtain ⟨hx, hb, hml, hrt, hlk, hts, hown, hno⟩ := id K
  have hl : lv_has ls 6 [(0, .ref mo)] := hl
  have L108 : ∀ (N : Nat) (to : Nat) (en : Nat) (i : Nat) (zz : Int) (H : Heap) (locs : List Loc) (ls : Array Slot), en - i < N → (Bh tx cn (frm tx cn) to) → (frm tx cn < to ∧ to < cn) → (tx to = 46 ∨ tx to = 47) → (Bh tx cn (to + 1) en) → (to + 1 < en ∧ en = cn) → (to + 1 ≤ i ∧ i ≤ en) → (0 ≤ zz ∧ zz ≤ 1) → (zz = 1 → tx to = 47 ∧ zrs tx (to + 1) i) → (zz = 0 → ¬ (tx to = 47 ∧ zrs tx (to + 1) i)) → va_P D cls0 [(mo, .inr (8, [.int qc, .int (iZ (np : Int)), .ref ow, .ref om, .ref ok_, .ref oK, .ref og, .ref on_, .ref oh, .ref ox, .int (iZ (cn : Int)), .int qf, .ref op_, .int ql])), (ox, .inl (cI, 400, .inl ft))] H → va_D A [(mo, .inr (8, [.int qc, .int (iZ (np : Int)), .ref ow, .ref om, .ref ok_, .ref oK, .ref og, .ref on_, .ref oh, .ref ox, .int (iZ (cn : Int)), .int qf, .ref op_, .int ql])), (ox, .inl (cI, 400, .inl ft))] → va_S A s.heap H locs → lv_has ls 6 [(0, .ref mo), (1, .int (iZ (frm tx cn : Int))), (2, .int (iZ (to : Int))), (3, .int (iZ (en : Int))), (4, .int (iZ zz)), (5, .int (iZ (i : Int)))] → W p l e R s m args below meth c H locs 0 0 Q (F0 m 108 ls []) := by
    intro N
    induction N with
    | zero => intro to en i zz H locs ls hN; exact absurd hN (Nat.not_lt_zero _)
    | succ N ih =>
      intro to en i zz H locs ls hN Bto hto tc Ben hen ii izr iz1 iz0 hP hD hS hl
      refine lv_iload hx hb d_Mo_wrong_108 (lv_at hl 5 rfl) ?_
      refine lv_iload_n hx hb d_Mo_wrong_110 rfl (lv_at hl 3 rfl) ?_
      refine zz_icmp_ge (tgt := 143) hx hb d_Mo_wrong_111 (by decide) (by omega) (by omega) (fun c111 => ?_) (fun c111 => ?_)
      · refine lv_iload hx hb d_Mo_wrong_143 (lv_at hl 4 rfl) ?_
        refine zz_if_eq (tgt := 152) hx hb d_Mo_wrong_145 (by decide) (by omega) (fun c145 => ?_) (fun c145 => ?_)
        · refine lv_iconst (v := iZ (-1)) hx hb d_Mo_wrong_152 (by decide +kernel) ?_
          have hP9 : va_P D cls0 [(mo, .inr (8, [.int qc, .int (iZ (np : Int)), .ref ow, .ref om, .ref ok_, .ref oK, .ref og, .ref on_, .ref oh, .ref ox, .int (iZ (cn : Int)), .int qf, .ref op_, .int ql])), (ox, .inl (cI, 400, .inl ft))] H := hP.sub [0, 1] rfl
          have hD9 : va_D A [(mo, .inr (8, [.int qc, .int (iZ (np : Int)), .ref ow, .ref om, .ref ok_, .ref oK, .ref og, .ref on_, .ref oh, .ref ox, .int (iZ (cn : Int)), .int qf, .ref op_, .int ql])), (ox, .inl (cI, 400, .inl ft))] := hD.sub [0, 1] (by decide) rfl
          rw [hQ, ← hAe]
          refine r_i (v := (iZ (-1))) K (-1) hS d_Mo_wrong_153 ?_ (fun t ht hv => ?_)
          · exact ⟨rfl, ⟨to, Bto, Or.inr (Or.inr (Or.inr ⟨by omega, by omega, tc, en, Ben, Or.inr ⟨by omega, by omega, Or.inr ⟨fun z => by have y := iz0 (by omega); exact y ⟨z.1, fun j h1 h2 => z.2 j h1 (by omega)⟩, rfl⟩⟩⟩))⟩, by omega⟩
          · exact ⟨by rw [ht]; exact hP9, va_K.moved hv hK, by rw [← hAe]; exact hD9⟩
        · refine lv_iload_n hx hb d_Mo_wrong_148 rfl (lv_at hl 2 rfl) ?_
          refine lv_goto (tgt := 153) hx hb d_Mo_wrong_149 (by decide) ?_
          have hP9 : va_P D cls0 [(mo, .inr (8, [.int qc, .int (iZ (np : Int)), .ref ow, .ref om, .ref ok_, .ref oK, .ref og, .ref on_, .ref oh, .ref ox, .int (iZ (cn : Int)), .int qf, .ref op_, .int ql])), (ox, .inl (cI, 400, .inl ft))] H := hP.sub [0, 1] rfl
          have hD9 : va_D A [(mo, .inr (8, [.int qc, .int (iZ (np : Int)), .ref ow, .ref om, .ref ok_, .ref oK, .ref og, .ref on_, .ref oh, .ref ox, .int (iZ (cn : Int)), .int qf, .ref op_, .int ql])), (ox, .inl (cI, 400, .inl ft))] := hD.sub [0, 1] (by decide) rfl
          rw [hQ, ← hAe]
          refine r_i (v := (iZ (to : Int))) K (to : Int) hS d_Mo_wrong_153 ?_ (fun t ht hv => ?_)
          · have y := iz1 (by omega)
            exact ⟨rfl, ⟨to, Bto, Or.inr (Or.inr (Or.inr ⟨by omega, by omega, tc, en, Ben, Or.inr ⟨by omega, by omega, Or.inl ⟨y.1, fun j h1 h2 => y.2 j h1 (by omega), rfl⟩⟩⟩))⟩, by omega⟩
          · exact ⟨by rw [ht]; exact hP9, va_K.moved hv hK, by rw [← hAe]; exact hD9⟩
      · refine lv_iload hx hb d_Mo_wrong_114 (lv_at hl 4 rfl) ?_
        refine zz_if_eq (tgt := 134) hx hb d_Mo_wrong_116 (by decide) (by omega) (fun c116 => ?_) (fun c116 => ?_)
        · refine lv_iconst (v := iZ (0)) hx hb d_Mo_wrong_134 (by decide +kernel) ?_
          refine lv_istore (lv' := [(4, .int (iZ 0)), (0, .ref mo), (1, .int (iZ (frm tx cn : Int))), (2, .int (iZ (to : Int))), (3, .int (iZ (en : Int))), (5, .int (iZ (i : Int)))]) hx hb d_Mo_wrong_135 hl (by decide) rfl (fun ls hl => ?_)
          refine lv_iinc (v := iZ ((i : Int) + 1)) (lv' := [(5, .int (iZ ((i : Int) + 1))), (4, .int (iZ 0)), (0, .ref mo), (1, .int (iZ (frm tx cn : Int))), (2, .int (iZ (to : Int))), (3, .int (iZ (en : Int)))]) hx hb d_Mo_wrong_137 hl (k := 5) rfl (iZ_add _ _) (by decide) rfl (fun ls hl => ?_)
          refine lv_goto (tgt := 108) hx hb d_Mo_wrong_140 (by decide) ?_
          rw [show ((i : Int) + 1 : Int) = ((i + 1 : Nat) : Int) by omega] at hl
          exact ih to en (i + 1) 0 _ _ _ (by omega) Bto hto tc Ben hen (by omega) (by omega) (fun z => by omega) (fun _ y => iz0 (by omega) ⟨y.1, fun j h1 h2 => y.2 j h1 (by omega)⟩) (hP.sub (ws' := [(mo, .inr (8, [.int qc, .int (iZ (np : Int)), .ref ow, .ref om, .ref ok_, .ref oK, .ref og, .ref on_, .ref oh, .ref ox, .int (iZ (cn : Int)), .int qf, .ref op_, .int ql])), (ox, .inl (cI, 400, .inl ft))]) [0, 1] rfl) (hD.sub (ws' := [(mo, .inr (8, [.int qc, .int (iZ (np : Int)), .ref ow, .ref om, .ref ok_, .ref oK, .ref og, .ref on_, .ref oh, .ref ox, .int (iZ (cn : Int)), .int qf, .ref op_, .int ql])), (ox, .inl (cI, 400, .inl ft))]) [0, 1] (by decide) rfl) hS (lv_sub hl [2, 3, 4, 5, 1, 0] rfl)
        · refine lv_aload_n hx hb d_Mo_wrong_119 rfl (lv_at hl 0 rfl) ?_
          refine lv_iload hx hb d_Mo_wrong_120 (lv_at hl 5 rfl) ?_
          refine cv (n := 1) (wr := []) (w1 := (fun (u : Int) => [(mo, .inr (8, [.int qc, .int (iZ (np : Int)), .ref ow, .ref om, .ref ok_, .ref oK, .ref og, .ref on_, .ref oh, .ref ox, .int (iZ (cn : Int)), .int qf, .ref op_, .int ql])), (ox, .inl (cI, 400, .inl ft))])) (As := [.int (iZ (i : Int))]) (rest := []) K hP hD hK hS hA hl.1 (c_Mo_at l D mo qc np ow om ok_ oK og on_ oh ox qf op_ ql cn ft cI tx i H.size hcn htx (by omega)) [0, 1] [] [0] rfl rfl rfl (by decide) (by decide) (by decide) 0 rfl rfl (big_in mw_1372 rfl) (big_in mw_10 rfl) (big_in mw_1369 rfl) (big_in mw_1371 rfl) (big_in sp_47 rfl) rfl rfl (by decide +kernel) ⟨by rw [hR]; exact Nat.le_of_ble_eq_true rfl, by rw [hR]; exact Nat.le_of_ble_eq_true rfl⟩ rfl (Nat.le_of_ble_eq_true rfl) d_Mo_wrong_122 ⟨by rw [hR]; exact Nat.le_of_ble_eq_true rfl, by rw [hR]; exact Nat.le_of_ble_eq_true rfl⟩ rfl (fun v u H locs hp1 hP hD hS _ => ?_)
          obtain ⟨x5, rfl⟩ : ∃ z, z = u := ⟨_, rfl⟩
          obtain ⟨rfl, ex5, bx5⟩ := hp1
          have hP : va_P D cls0 [(mo, .inr (8, [.int qc, .int (iZ (np : Int)), .ref ow, .ref om, .ref ok_, .ref oK, .ref og, .ref on_, .ref oh, .ref ox, .int (iZ (cn : Int)), .int qf, .ref op_, .int ql])), (ox, .inl (cI, 400, .inl ft))] H := hP
          have hD : va_D A [(mo, .inr (8, [.int qc, .int (iZ (np : Int)), .ref ow, .ref om, .ref ok_, .ref oK, .ref og, .ref on_, .ref oh, .ref ox, .int (iZ (cn : Int)), .int qf, .ref op_, .int ql])), (ox, .inl (cI, 400, .inl ft))] := hD
          show W p l e R s m args below meth c H locs _ _ Q (F0 m 125 ls [.int (iZ x5)])
          rw [atT_in (by omega)] at ex5
          refine lv_bipush (v := iZ (48)) hx hb d_Mo_wrong_125 (by decide +kernel) ?_
          refine zz_icmp_ne (tgt := 134) hx hb d_Mo_wrong_127 (by decide) (by omega) (by omega) (fun c127 => ?_) (fun c127 => ?_)
          · refine lv_iconst (v := iZ (0)) hx hb d_Mo_wrong_134 (by decide +kernel) ?_
            refine lv_istore (lv' := [(4, .int (iZ 0)), (0, .ref mo), (1, .int (iZ (frm tx cn : Int))), (2, .int (iZ (to : Int))), (3, .int (iZ (en : Int))), (5, .int (iZ (i : Int)))]) hx hb d_Mo_wrong_135 hl (by decide) rfl (fun ls hl => ?_)
            refine lv_iinc (v := iZ ((i : Int) + 1)) (lv' := [(5, .int (iZ ((i : Int) + 1))), (4, .int (iZ 0)), (0, .ref mo), (1, .int (iZ (frm tx cn : Int))), (2, .int (iZ (to : Int))), (3, .int (iZ (en : Int)))]) hx hb d_Mo_wrong_137 hl (k := 5) rfl (iZ_add _ _) (by decide) rfl (fun ls hl => ?_)
            refine lv_goto (tgt := 108) hx hb d_Mo_wrong_140 (by decide) ?_
            rw [show ((i : Int) + 1 : Int) = ((i + 1 : Nat) : Int) by omega] at hl
            exact ih to en (i + 1) 0 _ _ _ (by omega) Bto hto tc Ben hen (by omega) (by omega) (fun z => by omega) (fun _ y => by have x := y.2 i (by omega) (by omega); omega) (hP.sub (ws' := [(mo, .inr (8, [.int qc, .int (iZ (np : Int)), .ref ow, .ref om, .ref ok_, .ref oK, .ref og, .ref on_, .ref oh, .ref ox, .int (iZ (cn : Int)), .int qf, .ref op_, .int ql])), (ox, .inl (cI, 400, .inl ft))]) [0, 1] rfl) (hD.sub (ws' := [(mo, .inr (8, [.int qc, .int (iZ (np : Int)), .ref ow, .ref om, .ref ok_, .ref oK, .ref og, .ref on_, .ref oh, .ref ox, .int (iZ (cn : Int)), .int qf, .ref op_, .int ql])), (ox, .inl (cI, 400, .inl ft))]) [0, 1] (by decide) rfl) hS (lv_sub hl [2, 3, 4, 5, 1, 0] rfl)
          · refine lv_iconst (v := iZ (1)) hx hb d_Mo_wrong_130 (by decide +kernel) ?_
            refine lv_goto (tgt := 135) hx hb d_Mo_wrong_131 (by decide) ?_
            refine lv_istore (lv' := [(4, .int (iZ 1)), (0, .ref mo), (1, .int (iZ (frm tx cn : Int))), (2, .int (iZ (to : Int))), (3, .int (iZ (en : Int))), (5, .int (iZ (i : Int)))]) hx hb d_Mo_wrong_135 hl (by decide) rfl (fun ls hl => ?_)
            refine lv_iinc (v := iZ ((i : Int) + 1)) (lv' := [(5, .int (iZ ((i : Int) + 1))), (4, .int (iZ 1)), (0, .ref mo), (1, .int (iZ (frm tx cn : Int))), (2, .int (iZ (to : Int))), (3, .int (iZ (en : Int)))]) hx hb d_Mo_wrong_137 hl (k := 5) rfl (iZ_add _ _) (by decide) rfl (fun ls hl => ?_)
            refine lv_goto (tgt := 108) hx hb d_Mo_wrong_140 (by decide) ?_
            rw [show ((i : Int) + 1 : Int) = ((i + 1 : Nat) : Int) by omega] at hl
            exact ih to en (i + 1) 1 _ _ _ (by omega) Bto hto tc Ben hen (by omega) (by omega) (fun _ => ⟨(iz1 (by omega)).1, (iz1 (by omega)).2.s (by omega)⟩) (fun z => by omega) (hP.sub (ws' := [(mo, .inr (8, [.int qc, .int (iZ (np : Int)), .ref ow, .ref om, .ref ok_, .ref oK, .ref og, .ref on_, .ref oh, .ref ox, .int (iZ (cn : Int)), .int qf, .ref op_, .int ql])), (ox, .inl (cI, 400, .inl ft))]) [0, 1] rfl) (hD.sub (ws' := [(mo, .inr (8, [.int qc, .int (iZ (np : Int)), .ref ow, .ref om, .ref ok_, .ref oK, .ref og, .ref on_, .ref oh, .ref ox, .int (iZ (cn : Int)), .int qf, .ref op_, .int ql])), (ox, .inl (cI, 400, .inl ft))]) [0, 1] (by decide) rfl) hS (lv_sub hl [2, 3, 4, 5, 1, 0] rfl)
  refine lv_aload_n hx hb d_Mo_wrong_0 rfl (lv_at hl 0 rfl) ?_
  refine lv_iconst (v := iZ (0)) hx hb d_Mo_wrong_1 (by decide +kernel) ?_
  refine cv (n := 1) (wr := []) (w1 := (fun (u : Int) => [(mo, .inr (8, [.int qc, .int (iZ (np : Int)), .ref ow, .ref om, .ref ok_, .ref oK, .ref og, .ref on_, .ref oh, .ref ox, .int (iZ (cn : Int)), .int qf, .ref op_, .int ql])), (ox, .inl (cI, 400, .inl ft))])) (As := [.int (iZ 0)]) (rest := []) K hP hD hK hS hA hl.1 (c_Mo_at l D mo qc np ow om ok_ oK og on_ oh ox qf op_ ql cn ft cI tx 0 H.size hcn htx (by omega)) [0, 1] [] [0] rfl rfl rfl (by decide) (by decide) (by decide) 0 rfl rfl (big_in mw_1372 rfl) (big_in mw_10 rfl) (big_in mw_1369 rfl) (big_in mw_1371 rfl) (big_in sp_47 rfl) rfl rfl (by decide +kernel) ⟨by rw [hR]; exact Nat.le_of_ble_eq_true rfl, by rw [hR]; exact Nat.le_of_ble_eq_true rfl⟩ rfl (Nat.le_of_ble_eq_true rfl) d_Mo_wrong_2 ⟨by rw [hR]; exact Nat.le_of_ble_eq_true rfl, by rw [hR]; exact Nat.le_of_ble_eq_true rfl⟩ rfl (fun v u H locs hp2 hP hD hS _ => ?_)
  obtain ⟨x0, rfl⟩ : ∃ z, z = u := ⟨_, rfl⟩
  obtain ⟨rfl, ex0, bx0⟩ := hp2
  have hP : va_P D cls0 [(mo, .inr (8, [.int qc, .int (iZ (np : Int)), .ref ow, .ref om, .ref ok_, .ref oK, .ref og, .ref on_, .ref oh, .ref ox, .int (iZ (cn : Int)), .int qf, .ref op_, .int ql])), (ox, .inl (cI, 400, .inl ft))] H := hP
  have hD : va_D A [(mo, .inr (8, [.int qc, .int (iZ (np : Int)), .ref ow, .ref om, .ref ok_, .ref oK, .ref og, .ref on_, .ref oh, .ref ox, .int (iZ (cn : Int)), .int qf, .ref op_, .int ql])), (ox, .inl (cI, 400, .inl ft))] := hD
  show W p l e R s m args below meth c H locs _ _ Q (F0 m 5 ls [.int (iZ x0)])
  have f0 := atT_frm tx cn
  rw [← ex0] at f0
  have fle : frm tx cn ≤ cn := by unfold frm; split <;> omega
  refine lv_bipush (v := iZ (45)) hx hb d_Mo_wrong_5 (by decide +kernel) ?_
  refine zz_icmp_ne (tgt := 14) hx hb d_Mo_wrong_7 (by decide) (by omega) (by omega) (fun c7 => ?_) (fun c7 => ?_)
  · refine lv_iconst (v := iZ (0)) hx hb d_Mo_wrong_14 (by decide +kernel) ?_
    have ef : frm tx cn = 0 := by omega
    rw [show (0 : Int) = (frm tx cn : Int) by omega]
    refine lv_istore_n (lv' := [(1, .int (iZ (frm tx cn : Int))), (0, .ref mo)]) hx hb d_Mo_wrong_15 rfl hl (by decide) rfl (fun ls hl => ?_)
    refine lv_aload_n hx hb d_Mo_wrong_16 rfl (lv_at hl 1 rfl) ?_
    refine lv_iload_n hx hb d_Mo_wrong_17 rfl (lv_at hl 0 rfl) ?_
    rw [show ((frm tx cn : Int) : Int) = ((frm tx cn : Nat) : Int) by omega]
    refine cv (n := 1) (wr := []) (w1 := (fun (u : Nat) => [(mo, .inr (8, [.int qc, .int (iZ (np : Int)), .ref ow, .ref om, .ref ok_, .ref oK, .ref og, .ref on_, .ref oh, .ref ox, .int (iZ (cn : Int)), .int qf, .ref op_, .int ql])), (ox, .inl (cI, 400, .inl ft))])) (As := [.int (iZ ((frm tx cn : Nat) : Int))]) (rest := []) K hP hD hK hS hA hl.1 (c_Mo_behind l D mo qc np ow om ok_ oK og on_ oh ox qf op_ ql cn ft cI tx (frm tx cn) H.size hcn htx (by omega)) [0, 1] [] [0] rfl rfl rfl (by decide) (by decide) (by decide) 0 rfl rfl (big_in mw_1376 rfl) (big_in mw_10 rfl) (big_in mw_1373 rfl) (big_in mw_1375 rfl) (big_in sp_48 rfl) rfl rfl (by decide +kernel) ⟨by rw [hR]; exact Nat.le_of_ble_eq_true rfl, by rw [hR]; exact Nat.le_of_ble_eq_true rfl⟩ rfl (Nat.le_of_ble_eq_true rfl) d_Mo_wrong_18 ⟨by rw [hR]; exact Nat.le_of_ble_eq_true rfl, by rw [hR]; exact Nat.le_of_ble_eq_true rfl⟩ rfl (fun v u H locs hp3 hP hD hS _ => ?_)
    obtain ⟨to, rfl⟩ : ∃ z, z = u := ⟨_, rfl⟩
    obtain ⟨rfl, Bto⟩ := hp3
    have hP : va_P D cls0 [(mo, .inr (8, [.int qc, .int (iZ (np : Int)), .ref ow, .ref om, .ref ok_, .ref oK, .ref og, .ref on_, .ref oh, .ref ox, .int (iZ (cn : Int)), .int qf, .ref op_, .int ql])), (ox, .inl (cI, 400, .inl ft))] H := hP
    have hD : va_D A [(mo, .inr (8, [.int qc, .int (iZ (np : Int)), .ref ow, .ref om, .ref ok_, .ref oK, .ref og, .ref on_, .ref oh, .ref ox, .int (iZ (cn : Int)), .int qf, .ref op_, .int ql])), (ox, .inl (cI, 400, .inl ft))] := hD
    show W p l e R s m args below meth c H locs _ _ Q (F0 m 21 ls [.int (iZ (to : Int))])
    refine lv_istore_n (lv' := [(2, .int (iZ (to : Int))), (1, .int (iZ (frm tx cn : Int))), (0, .ref mo)]) hx hb d_Mo_wrong_21 rfl hl (by decide) rfl (fun ls hl => ?_)
    obtain ⟨q1, q2, q3, q4⟩ := id Bto
    have fr := frm_r tx cn
    refine lv_iload_n hx hb d_Mo_wrong_22 rfl (lv_at hl 0 rfl) ?_
    refine lv_iload_n hx hb d_Mo_wrong_23 rfl (lv_at hl 1 rfl) ?_
    refine zz_icmp_ne (tgt := 29) hx hb d_Mo_wrong_24 (by decide) (by omega) (by omega) (fun c24 => ?_) (fun c24 => ?_)
    · refine lv_iload_n hx hb d_Mo_wrong_29 rfl (lv_at hl 0 rfl) ?_
      refine lv_aload_n hx hb d_Mo_wrong_30 rfl (lv_at hl 2 rfl) ?_
      refine va_get (D := D) (ci := 8) (v := .int (iZ (cn : Int))) (C := R_Mo) (T := F_Mo) (N := 14) hx hb hts i_Mo hown hK hP 0 rfl rfl 10 (by decide) (hts _ (big_in mw_1125 rfl)) (fun _ h9 => h9) rfl d_Mo_wrong_31 ?_
      refine zz_icmp_ne (tgt := 39) hx hb d_Mo_wrong_34 (by decide) (by omega) (by omega) (fun c34 => ?_) (fun c34 => ?_)
      · refine lv_aload_n hx hb d_Mo_wrong_39 rfl (lv_at hl 2 rfl) ?_
        refine lv_iload_n hx hb d_Mo_wrong_40 rfl (lv_at hl 0 rfl) ?_
        refine cv (n := 1) (wr := []) (w1 := (fun (u : Int) => [(mo, .inr (8, [.int qc, .int (iZ (np : Int)), .ref ow, .ref om, .ref ok_, .ref oK, .ref og, .ref on_, .ref oh, .ref ox, .int (iZ (cn : Int)), .int qf, .ref op_, .int ql])), (ox, .inl (cI, 400, .inl ft))])) (As := [.int (iZ (to : Int))]) (rest := []) K hP hD hK hS hA hl.1 (c_Mo_at l D mo qc np ow om ok_ oK og on_ oh ox qf op_ ql cn ft cI tx to H.size hcn htx (by omega)) [0, 1] [] [0] rfl rfl rfl (by decide) (by decide) (by decide) 0 rfl rfl (big_in mw_1372 rfl) (big_in mw_10 rfl) (big_in mw_1369 rfl) (big_in mw_1371 rfl) (big_in sp_47 rfl) rfl rfl (by decide +kernel) ⟨by rw [hR]; exact Nat.le_of_ble_eq_true rfl, by rw [hR]; exact Nat.le_of_ble_eq_true rfl⟩ rfl (Nat.le_of_ble_eq_true rfl) d_Mo_wrong_41 ⟨by rw [hR]; exact Nat.le_of_ble_eq_true rfl, by rw [hR]; exact Nat.le_of_ble_eq_true rfl⟩ rfl (fun v u H locs hp4 hP hD hS _ => ?_)
        obtain ⟨x2, rfl⟩ : ∃ z, z = u := ⟨_, rfl⟩
        obtain ⟨rfl, ex2, bx2⟩ := hp4
        have hP : va_P D cls0 [(mo, .inr (8, [.int qc, .int (iZ (np : Int)), .ref ow, .ref om, .ref ok_, .ref oK, .ref og, .ref on_, .ref oh, .ref ox, .int (iZ (cn : Int)), .int qf, .ref op_, .int ql])), (ox, .inl (cI, 400, .inl ft))] H := hP
        have hD : va_D A [(mo, .inr (8, [.int qc, .int (iZ (np : Int)), .ref ow, .ref om, .ref ok_, .ref oK, .ref og, .ref on_, .ref oh, .ref ox, .int (iZ (cn : Int)), .int qf, .ref op_, .int ql])), (ox, .inl (cI, 400, .inl ft))] := hD
        show W p l e R s m args below meth c H locs _ _ Q (F0 m 44 ls [.int (iZ x2)])
        refine lv_bipush (v := iZ (46)) hx hb d_Mo_wrong_44 (by decide +kernel) ?_
        refine zz_icmp_eq (tgt := 61) hx hb d_Mo_wrong_46 (by decide) (by omega) (by omega) (fun c46 => ?_) (fun c46 => ?_)
        · have tl : to < cn := by omega
          have tc : tx to = 46 ∨ tx to = 47 := by first | (rw [atT_in tl] at ex2; left; omega) | (rw [atT_in tl] at ex3; right; omega)
          refine lv_aload_n hx hb d_Mo_wrong_61 rfl (lv_at hl 2 rfl) ?_
          refine lv_iload_n hx hb d_Mo_wrong_62 rfl (lv_at hl 0 rfl) ?_
          refine lv_iconst (v := iZ (1)) hx hb d_Mo_wrong_63 (by decide +kernel) ?_
          refine zz_iadd hx hb d_Mo_wrong_64 ?_
          rw [show ((to : Int) + 1 : Int) = ((to + 1 : Nat) : Int) by omega]
          refine cv (n := 1) (wr := []) (w1 := (fun (u : Nat) => [(mo, .inr (8, [.int qc, .int (iZ (np : Int)), .ref ow, .ref om, .ref ok_, .ref oK, .ref og, .ref on_, .ref oh, .ref ox, .int (iZ (cn : Int)), .int qf, .ref op_, .int ql])), (ox, .inl (cI, 400, .inl ft))])) (As := [.int (iZ ((to + 1 : Nat) : Int))]) (rest := []) K hP hD hK hS hA hl.1 (c_Mo_behind l D mo qc np ow om ok_ oK og on_ oh ox qf op_ ql cn ft cI tx (to + 1) H.size hcn htx (by omega)) [0, 1] [] [0] rfl rfl rfl (by decide) (by decide) (by decide) 0 rfl rfl (big_in mw_1376 rfl) (big_in mw_10 rfl) (big_in mw_1373 rfl) (big_in mw_1375 rfl) (big_in sp_48 rfl) rfl rfl (by decide +kernel) ⟨by rw [hR]; exact Nat.le_of_ble_eq_true rfl, by rw [hR]; exact Nat.le_of_ble_eq_true rfl⟩ rfl (Nat.le_of_ble_eq_true rfl) d_Mo_wrong_65 ⟨by rw [hR]; exact Nat.le_of_ble_eq_true rfl, by rw [hR]; exact Nat.le_of_ble_eq_true rfl⟩ rfl (fun v u H locs hp5 hP hD hS _ => ?_)
          obtain ⟨en, rfl⟩ : ∃ z, z = u := ⟨_, rfl⟩
          obtain ⟨rfl, Ben⟩ := hp5
          have hP : va_P D cls0 [(mo, .inr (8, [.int qc, .int (iZ (np : Int)), .ref ow, .ref om, .ref ok_, .ref oK, .ref og, .ref on_, .ref oh, .ref ox, .int (iZ (cn : Int)), .int qf, .ref op_, .int ql])), (ox, .inl (cI, 400, .inl ft))] H := hP
          have hD : va_D A [(mo, .inr (8, [.int qc, .int (iZ (np : Int)), .ref ow, .ref om, .ref ok_, .ref oK, .ref og, .ref on_, .ref oh, .ref ox, .int (iZ (cn : Int)), .int qf, .ref op_, .int ql])), (ox, .inl (cI, 400, .inl ft))] := hD
          show W p l e R s m args below meth c H locs _ _ Q (F0 m 68 ls [.int (iZ (en : Int))])
          refine lv_istore_n (lv' := [(3, .int (iZ (en : Int))), (2, .int (iZ (to : Int))), (1, .int (iZ (frm tx cn : Int))), (0, .ref mo)]) hx hb d_Mo_wrong_68 rfl hl (by decide) rfl (fun ls hl => ?_)
          obtain ⟨r1, r2, r3, r4⟩ := id Ben
          refine lv_iload_n hx hb d_Mo_wrong_69 rfl (lv_at hl 0 rfl) ?_
          refine lv_iload_n hx hb d_Mo_wrong_70 rfl (lv_at hl 1 rfl) ?_
          refine lv_iconst (v := iZ (1)) hx hb d_Mo_wrong_71 (by decide +kernel) ?_
          refine zz_iadd hx hb d_Mo_wrong_72 ?_
          refine zz_icmp_eq (tgt := 84) hx hb d_Mo_wrong_73 (by decide) (by omega) (by omega) (fun c73 => ?_) (fun c73 => ?_)
          · refine lv_iload_n hx hb d_Mo_wrong_84 rfl (lv_at hl 0 rfl) ?_
            have hP9 : va_P D cls0 [(mo, .inr (8, [.int qc, .int (iZ (np : Int)), .ref ow, .ref om, .ref ok_, .ref oK, .ref og, .ref on_, .ref oh, .ref ox, .int (iZ (cn : Int)), .int qf, .ref op_, .int ql])), (ox, .inl (cI, 400, .inl ft))] H := hP.sub [0, 1] rfl
            have hD9 : va_D A [(mo, .inr (8, [.int qc, .int (iZ (np : Int)), .ref ow, .ref om, .ref ok_, .ref oK, .ref og, .ref on_, .ref oh, .ref ox, .int (iZ (cn : Int)), .int qf, .ref op_, .int ql])), (ox, .inl (cI, 400, .inl ft))] := hD.sub [0, 1] (by decide) rfl
            rw [hQ, ← hAe]
            refine r_i (v := (iZ (en : Int))) K (en : Int) hS d_Mo_wrong_85 ?_ (fun t ht hv => ?_)
            · exact ⟨rfl, ⟨to, Bto, Or.inr (Or.inr (Or.inr ⟨by omega, by omega, tc, en, Ben, Or.inl ⟨by omega, rfl⟩⟩))⟩, by omega⟩
            · exact ⟨by rw [ht]; exact hP9, va_K.moved hv hK, by rw [← hAe]; exact hD9⟩
          · refine lv_iload_n hx hb d_Mo_wrong_76 rfl (lv_at hl 0 rfl) ?_
            refine lv_aload_n hx hb d_Mo_wrong_77 rfl (lv_at hl 3 rfl) ?_
            refine va_get (D := D) (ci := 8) (v := .int (iZ (cn : Int))) (C := R_Mo) (T := F_Mo) (N := 14) hx hb hts i_Mo hown hK hP 0 rfl rfl 10 (by decide) (hts _ (big_in mw_1125 rfl)) (fun _ h9 => h9) rfl d_Mo_wrong_78 ?_
            refine zz_icmp_ge (tgt := 86) hx hb d_Mo_wrong_81 (by decide) (by omega) (by omega) (fun c81 => ?_) (fun c81 => ?_)
            · refine lv_aload_n hx hb d_Mo_wrong_86 rfl (lv_at hl 3 rfl) ?_
              refine lv_iload_n hx hb d_Mo_wrong_87 rfl (lv_at hl 1 rfl) ?_
              refine cv (n := 1) (wr := []) (w1 := (fun (u : Int) => [(mo, .inr (8, [.int qc, .int (iZ (np : Int)), .ref ow, .ref om, .ref ok_, .ref oK, .ref og, .ref on_, .ref oh, .ref ox, .int (iZ (cn : Int)), .int qf, .ref op_, .int ql])), (ox, .inl (cI, 400, .inl ft))])) (As := [.int (iZ (to : Int))]) (rest := []) K hP hD hK hS hA hl.1 (c_Mo_at l D mo qc np ow om ok_ oK og on_ oh ox qf op_ ql cn ft cI tx to H.size hcn htx (by omega)) [0, 1] [] [0] rfl rfl rfl (by decide) (by decide) (by decide) 0 rfl rfl (big_in mw_1372 rfl) (big_in mw_10 rfl) (big_in mw_1369 rfl) (big_in mw_1371 rfl) (big_in sp_47 rfl) rfl rfl (by decide +kernel) ⟨by rw [hR]; exact Nat.le_of_ble_eq_true rfl, by rw [hR]; exact Nat.le_of_ble_eq_true rfl⟩ rfl (Nat.le_of_ble_eq_true rfl) d_Mo_wrong_88 ⟨by rw [hR]; exact Nat.le_of_ble_eq_true rfl, by rw [hR]; exact Nat.le_of_ble_eq_true rfl⟩ rfl (fun v u H locs hp6 hP hD hS _ => ?_)
              obtain ⟨x4, rfl⟩ : ∃ z, z = u := ⟨_, rfl⟩
              obtain ⟨rfl, ex4, bx4⟩ := hp6
              have hP : va_P D cls0 [(mo, .inr (8, [.int qc, .int (iZ (np : Int)), .ref ow, .ref om, .ref ok_, .ref oK, .ref og, .ref on_, .ref oh, .ref ox, .int (iZ (cn : Int)), .int qf, .ref op_, .int ql])), (ox, .inl (cI, 400, .inl ft))] H := hP
              have hD : va_D A [(mo, .inr (8, [.int qc, .int (iZ (np : Int)), .ref ow, .ref om, .ref ok_, .ref oK, .ref og, .ref on_, .ref oh, .ref ox, .int (iZ (cn : Int)), .int qf, .ref op_, .int ql])), (ox, .inl (cI, 400, .inl ft))] := hD
              show W p l e R s m args below meth c H locs _ _ Q (F0 m 91 ls [.int (iZ x4)])
              rw [atT_in tl] at ex4
              refine lv_bipush (v := iZ (47)) hx hb d_Mo_wrong_91 (by decide +kernel) ?_
              refine zz_icmp_ne (tgt := 100) hx hb d_Mo_wrong_93 (by decide) (by omega) (by omega) (fun c93 => ?_) (fun c93 => ?_)
              · refine lv_iconst (v := iZ (0)) hx hb d_Mo_wrong_100 (by decide +kernel) ?_
                refine lv_istore (lv' := [(4, .int (iZ 0)), (3, .int (iZ (en : Int))), (2, .int (iZ (to : Int))), (1, .int (iZ (frm tx cn : Int))), (0, .ref mo)]) hx hb d_Mo_wrong_101 hl (by decide) rfl (fun ls hl => ?_)
                refine lv_iload_n hx hb d_Mo_wrong_103 rfl (lv_at hl 2 rfl) ?_
                refine lv_iconst (v := iZ (1)) hx hb d_Mo_wrong_104 (by decide +kernel) ?_
                refine zz_iadd hx hb d_Mo_wrong_105 ?_
                refine lv_istore (lv' := [(5, .int (iZ ((to : Int) + 1))), (4, .int (iZ 0)), (3, .int (iZ (en : Int))), (2, .int (iZ (to : Int))), (1, .int (iZ (frm tx cn : Int))), (0, .ref mo)]) hx hb d_Mo_wrong_106 hl (by decide) rfl (fun ls hl => ?_)
                rw [show ((to : Int) + 1 : Int) = ((to + 1 : Nat) : Int) by omega] at hl
                exact L108 _ to en (to + 1) 0 _ _ _ (Nat.lt_succ_self _) Bto (by omega) tc Ben (by omega) ⟨Nat.le_refl _, by omega⟩ (by omega) (fun z => ⟨by omega, fun j h1 h2 => absurd h1 (by omega)⟩) (fun z y => by omega) (hP.sub (ws' := [(mo, .inr (8, [.int qc, .int (iZ (np : Int)), .ref ow, .ref om, .ref ok_, .ref oK, .ref og, .ref on_, .ref oh, .ref ox, .int (iZ (cn : Int)), .int qf, .ref op_, .int ql])), (ox, .inl (cI, 400, .inl ft))]) [0, 1] rfl) (hD.sub (ws' := [(mo, .inr (8, [.int qc, .int (iZ (np : Int)), .ref ow, .ref om, .ref ok_, .ref oK, .ref og, .ref on_, .ref oh, .ref ox, .int (iZ (cn : Int)), .int qf, .ref op_, .int ql])), (ox, .inl (cI, 400, .inl ft))]) [0, 1] (by decide) rfl) hS (lv_sub hl [5, 4, 3, 2, 1, 0] rfl)
              · refine lv_iconst (v := iZ (1)) hx hb d_Mo_wrong_96 (by decide +kernel) ?_
                refine lv_goto (tgt := 101) hx hb d_Mo_wrong_97 (by decide) ?_
                refine lv_istore (lv' := [(4, .int (iZ 1)), (3, .int (iZ (en : Int))), (2, .int (iZ (to : Int))), (1, .int (iZ (frm tx cn : Int))), (0, .ref mo)]) hx hb d_Mo_wrong_101 hl (by decide) rfl (fun ls hl => ?_)
                refine lv_iload_n hx hb d_Mo_wrong_103 rfl (lv_at hl 2 rfl) ?_
                refine lv_iconst (v := iZ (1)) hx hb d_Mo_wrong_104 (by decide +kernel) ?_
                refine zz_iadd hx hb d_Mo_wrong_105 ?_
                refine lv_istore (lv' := [(5, .int (iZ ((to : Int) + 1))), (4, .int (iZ 1)), (3, .int (iZ (en : Int))), (2, .int (iZ (to : Int))), (1, .int (iZ (frm tx cn : Int))), (0, .ref mo)]) hx hb d_Mo_wrong_106 hl (by decide) rfl (fun ls hl => ?_)
                rw [show ((to : Int) + 1 : Int) = ((to + 1 : Nat) : Int) by omega] at hl
                exact L108 _ to en (to + 1) 1 _ _ _ (Nat.lt_succ_self _) Bto (by omega) tc Ben (by omega) ⟨Nat.le_refl _, by omega⟩ (by omega) (fun z => ⟨by omega, fun j h1 h2 => absurd h1 (by omega)⟩) (fun z y => by omega) (hP.sub (ws' := [(mo, .inr (8, [.int qc, .int (iZ (np : Int)), .ref ow, .ref om, .ref ok_, .ref oK, .ref og, .ref on_, .ref oh, .ref ox, .int (iZ (cn : Int)), .int qf, .ref op_, .int ql])), (ox, .inl (cI, 400, .inl ft))]) [0, 1] rfl) (hD.sub (ws' := [(mo, .inr (8, [.int qc, .int (iZ (np : Int)), .ref ow, .ref om, .ref ok_, .ref oK, .ref og, .ref on_, .ref oh, .ref ox, .int (iZ (cn : Int)), .int qf, .ref op_, .int ql])), (ox, .inl (cI, 400, .inl ft))]) [0, 1] (by decide) rfl) hS (lv_sub hl [5, 4, 3, 2, 1, 0] rfl)
            · refine lv_iload_n hx hb d_Mo_wrong_84 rfl (lv_at hl 0 rfl) ?_
              have hP9 : va_P D cls0 [(mo, .inr (8, [.int qc, .int (iZ (np : Int)), .ref ow, .ref om, .ref ok_, .ref oK, .ref og, .ref on_, .ref oh, .ref ox, .int (iZ (cn : Int)), .int qf, .ref op_, .int ql])), (ox, .inl (cI, 400, .inl ft))] H := hP.sub [0, 1] rfl
              have hD9 : va_D A [(mo, .inr (8, [.int qc, .int (iZ (np : Int)), .ref ow, .ref om, .ref ok_, .ref oK, .ref og, .ref on_, .ref oh, .ref ox, .int (iZ (cn : Int)), .int qf, .ref op_, .int ql])), (ox, .inl (cI, 400, .inl ft))] := hD.sub [0, 1] (by decide) rfl
              rw [hQ, ← hAe]
              refine r_i (v := (iZ (en : Int))) K (en : Int) hS d_Mo_wrong_85 ?_ (fun t ht hv => ?_)
              · exact ⟨rfl, ⟨to, Bto, Or.inr (Or.inr (Or.inr ⟨by omega, by omega, tc, en, Ben, Or.inl ⟨by omega, rfl⟩⟩))⟩, by omega⟩
              · exact ⟨by rw [ht]; exact hP9, va_K.moved hv hK, by rw [← hAe]; exact hD9⟩
        · refine lv_aload_n hx hb d_Mo_wrong_49 rfl (lv_at hl 2 rfl) ?_
          refine lv_iload_n hx hb d_Mo_wrong_50 rfl (lv_at hl 0 rfl) ?_
          refine cv (n := 1) (wr := []) (w1 := (fun (u : Int) => [(mo, .inr (8, [.int qc, .int (iZ (np : Int)), .ref ow, .ref om, .ref ok_, .ref oK, .ref og, .ref on_, .ref oh, .ref ox, .int (iZ (cn : Int)), .int qf, .ref op_, .int ql])), (ox, .inl (cI, 400, .inl ft))])) (As := [.int (iZ (to : Int))]) (rest := []) K hP hD hK hS hA hl.1 (c_Mo_at l D mo qc np ow om ok_ oK og on_ oh ox qf op_ ql cn ft cI tx to H.size hcn htx (by omega)) [0, 1] [] [0] rfl rfl rfl (by decide) (by decide) (by decide) 0 rfl rfl (big_in mw_1372 rfl) (big_in mw_10 rfl) (big_in mw_1369 rfl) (big_in mw_1371 rfl) (big_in sp_47 rfl) rfl rfl (by decide +kernel) ⟨by rw [hR]; exact Nat.le_of_ble_eq_true rfl, by rw [hR]; exact Nat.le_of_ble_eq_true rfl⟩ rfl (Nat.le_of_ble_eq_true rfl) d_Mo_wrong_51 ⟨by rw [hR]; exact Nat.le_of_ble_eq_true rfl, by rw [hR]; exact Nat.le_of_ble_eq_true rfl⟩ rfl (fun v u H locs hp7 hP hD hS _ => ?_)
          obtain ⟨x3, rfl⟩ : ∃ z, z = u := ⟨_, rfl⟩
          obtain ⟨rfl, ex3, bx3⟩ := hp7
          have hP : va_P D cls0 [(mo, .inr (8, [.int qc, .int (iZ (np : Int)), .ref ow, .ref om, .ref ok_, .ref oK, .ref og, .ref on_, .ref oh, .ref ox, .int (iZ (cn : Int)), .int qf, .ref op_, .int ql])), (ox, .inl (cI, 400, .inl ft))] H := hP
          have hD : va_D A [(mo, .inr (8, [.int qc, .int (iZ (np : Int)), .ref ow, .ref om, .ref ok_, .ref oK, .ref og, .ref on_, .ref oh, .ref ox, .int (iZ (cn : Int)), .int qf, .ref op_, .int ql])), (ox, .inl (cI, 400, .inl ft))] := hD
          show W p l e R s m args below meth c H locs _ _ Q (F0 m 54 ls [.int (iZ x3)])
          refine lv_bipush (v := iZ (47)) hx hb d_Mo_wrong_54 (by decide +kernel) ?_
          refine zz_icmp_eq (tgt := 61) hx hb d_Mo_wrong_56 (by decide) (by omega) (by omega) (fun c56 => ?_) (fun c56 => ?_)
          · have tl : to < cn := by omega
            have tc : tx to = 46 ∨ tx to = 47 := by first | (rw [atT_in tl] at ex2; left; omega) | (rw [atT_in tl] at ex3; right; omega)
            refine lv_aload_n hx hb d_Mo_wrong_61 rfl (lv_at hl 2 rfl) ?_
            refine lv_iload_n hx hb d_Mo_wrong_62 rfl (lv_at hl 0 rfl) ?_
            refine lv_iconst (v := iZ (1)) hx hb d_Mo_wrong_63 (by decide +kernel) ?_
            refine zz_iadd hx hb d_Mo_wrong_64 ?_
            rw [show ((to : Int) + 1 : Int) = ((to + 1 : Nat) : Int) by omega]
            refine cv (n := 1) (wr := []) (w1 := (fun (u : Nat) => [(mo, .inr (8, [.int qc, .int (iZ (np : Int)), .ref ow, .ref om, .ref ok_, .ref oK, .ref og, .ref on_, .ref oh, .ref ox, .int (iZ (cn : Int)), .int qf, .ref op_, .int ql])), (ox, .inl (cI, 400, .inl ft))])) (As := [.int (iZ ((to + 1 : Nat) : Int))]) (rest := []) K hP hD hK hS hA hl.1 (c_Mo_behind l D mo qc np ow om ok_ oK og on_ oh ox qf op_ ql cn ft cI tx (to + 1) H.size hcn htx (by omega)) [0, 1] [] [0] rfl rfl rfl (by decide) (by decide) (by decide) 0 rfl rfl (big_in mw_1376 rfl) (big_in mw_10 rfl) (big_in mw_1373 rfl) (big_in mw_1375 rfl) (big_in sp_48 rfl) rfl rfl (by decide +kernel) ⟨by rw [hR]; exact Nat.le_of_ble_eq_true rfl, by rw [hR]; exact Nat.le_of_ble_eq_true rfl⟩ rfl (Nat.le_of_ble_eq_true rfl) d_Mo_wrong_65 ⟨by rw [hR]; exact Nat.le_of_ble_eq_true rfl, by rw [hR]; exact Nat.le_of_ble_eq_true rfl⟩ rfl (fun v u H locs hp8 hP hD hS _ => ?_)
            obtain ⟨en, rfl⟩ : ∃ z, z = u := ⟨_, rfl⟩
            obtain ⟨rfl, Ben⟩ := hp8
            have hP : va_P D cls0 [(mo, .inr (8, [.int qc, .int (iZ (np : Int)), .ref ow, .ref om, .ref ok_, .ref oK, .ref og, .ref on_, .ref oh, .ref ox, .int (iZ (cn : Int)), .int qf, .ref op_, .int ql])), (ox, .inl (cI, 400, .inl ft))] H := hP
            have hD : va_D A [(mo, .inr (8, [.int qc, .int (iZ (np : Int)), .ref ow, .ref om, .ref ok_, .ref oK, .ref og, .ref on_, .ref oh, .ref ox, .int (iZ (cn : Int)), .int qf, .ref op_, .int ql])), (ox, .inl (cI, 400, .inl ft))] := hD
            show W p l e R s m args below meth c H locs _ _ Q (F0 m 68 ls [.int (iZ (en : Int))])
            refine lv_istore_n (lv' := [(3, .int (iZ (en : Int))), (2, .int (iZ (to : Int))), (1, .int (iZ (frm tx cn : Int))), (0, .ref mo)]) hx hb d_Mo_wrong_68 rfl hl (by decide) rfl (fun ls hl => ?_)
            obtain ⟨r1, r2, r3, r4⟩ := id Ben
            refine lv_iload_n hx hb d_Mo_wrong_69 rfl (lv_at hl 0 rfl) ?_
            refine lv_iload_n hx hb d_Mo_wrong_70 rfl (lv_at hl 1 rfl) ?_
            refine lv_iconst (v := iZ (1)) hx hb d_Mo_wrong_71 (by decide +kernel) ?_
            refine zz_iadd hx hb d_Mo_wrong_72 ?_
            refine zz_icmp_eq (tgt := 84) hx hb d_Mo_wrong_73 (by decide) (by omega) (by omega) (fun c73 => ?_) (fun c73 => ?_)
            · refine lv_iload_n hx hb d_Mo_wrong_84 rfl (lv_at hl 0 rfl) ?_
              have hP9 : va_P D cls0 [(mo, .inr (8, [.int qc, .int (iZ (np : Int)), .ref ow, .ref om, .ref ok_, .ref oK, .ref og, .ref on_, .ref oh, .ref ox, .int (iZ (cn : Int)), .int qf, .ref op_, .int ql])), (ox, .inl (cI, 400, .inl ft))] H := hP.sub [0, 1] rfl
              have hD9 : va_D A [(mo, .inr (8, [.int qc, .int (iZ (np : Int)), .ref ow, .ref om, .ref ok_, .ref oK, .ref og, .ref on_, .ref oh, .ref ox, .int (iZ (cn : Int)), .int qf, .ref op_, .int ql])), (ox, .inl (cI, 400, .inl ft))] := hD.sub [0, 1] (by decide) rfl
              rw [hQ, ← hAe]
              refine r_i (v := (iZ (en : Int))) K (en : Int) hS d_Mo_wrong_85 ?_ (fun t ht hv => ?_)
              · exact ⟨rfl, ⟨to, Bto, Or.inr (Or.inr (Or.inr ⟨by omega, by omega, tc, en, Ben, Or.inl ⟨by omega, rfl⟩⟩))⟩, by omega⟩
              · exact ⟨by rw [ht]; exact hP9, va_K.moved hv hK, by rw [← hAe]; exact hD9⟩
            · refine lv_iload_n hx hb d_Mo_wrong_76 rfl (lv_at hl 0 rfl) ?_
              refine lv_aload_n hx hb d_Mo_wrong_77 rfl (lv_at hl 3 rfl) ?_
              refine va_get (D := D) (ci := 8) (v := .int (iZ (cn : Int))) (C := R_Mo) (T := F_Mo) (N := 14) hx hb hts i_Mo hown hK hP 0 rfl rfl 10 (by decide) (hts _ (big_in mw_1125 rfl)) (fun _ h9 => h9) rfl d_Mo_wrong_78 ?_
              refine zz_icmp_ge (tgt := 86) hx hb d_Mo_wrong_81 (by decide) (by omega) (by omega) (fun c81 => ?_) (fun c81 => ?_)
              · refine lv_aload_n hx hb d_Mo_wrong_86 rfl (lv_at hl 3 rfl) ?_
                refine lv_iload_n hx hb d_Mo_wrong_87 rfl (lv_at hl 1 rfl) ?_
                refine cv (n := 1) (wr := []) (w1 := (fun (u : Int) => [(mo, .inr (8, [.int qc, .int (iZ (np : Int)), .ref ow, .ref om, .ref ok_, .ref oK, .ref og, .ref on_, .ref oh, .ref ox, .int (iZ (cn : Int)), .int qf, .ref op_, .int ql])), (ox, .inl (cI, 400, .inl ft))])) (As := [.int (iZ (to : Int))]) (rest := []) K hP hD hK hS hA hl.1 (c_Mo_at l D mo qc np ow om ok_ oK og on_ oh ox qf op_ ql cn ft cI tx to H.size hcn htx (by omega)) [0, 1] [] [0] rfl rfl rfl (by decide) (by decide) (by decide) 0 rfl rfl (big_in mw_1372 rfl) (big_in mw_10 rfl) (big_in mw_1369 rfl) (big_in mw_1371 rfl) (big_in sp_47 rfl) rfl rfl (by decide +kernel) ⟨by rw [hR]; exact Nat.le_of_ble_eq_true rfl, by rw [hR]; exact Nat.le_of_ble_eq_true rfl⟩ rfl (Nat.le_of_ble_eq_true rfl) d_Mo_wrong_88 ⟨by rw [hR]; exact Nat.le_of_ble_eq_true rfl, by rw [hR]; exact Nat.le_of_ble_eq_true rfl⟩ rfl (fun v u H locs hp9 hP hD hS _ => ?_)
                obtain ⟨x4, rfl⟩ : ∃ z, z = u := ⟨_, rfl⟩
                obtain ⟨rfl, ex4, bx4⟩ := hp9
                have hP : va_P D cls0 [(mo, .inr (8, [.int qc, .int (iZ (np : Int)), .ref ow, .ref om, .ref ok_, .ref oK, .ref og, .ref on_, .ref oh, .ref ox, .int (iZ (cn : Int)), .int qf, .ref op_, .int ql])), (ox, .inl (cI, 400, .inl ft))] H := hP
                have hD : va_D A [(mo, .inr (8, [.int qc, .int (iZ (np : Int)), .ref ow, .ref om, .ref ok_, .ref oK, .ref og, .ref on_, .ref oh, .ref ox, .int (iZ (cn : Int)), .int qf, .ref op_, .int ql])), (ox, .inl (cI, 400, .inl ft))] := hD
                show W p l e R s m args below meth c H locs _ _ Q (F0 m 91 ls [.int (iZ x4)])
                rw [atT_in tl] at ex4
                refine lv_bipush (v := iZ (47)) hx hb d_Mo_wrong_91 (by decide +kernel) ?_
                refine zz_icmp_ne (tgt := 100) hx hb d_Mo_wrong_93 (by decide) (by omega) (by omega) (fun c93 => ?_) (fun c93 => ?_)
                · refine lv_iconst (v := iZ (0)) hx hb d_Mo_wrong_100 (by decide +kernel) ?_
                  refine lv_istore (lv' := [(4, .int (iZ 0)), (3, .int (iZ (en : Int))), (2, .int (iZ (to : Int))), (1, .int (iZ (frm tx cn : Int))), (0, .ref mo)]) hx hb d_Mo_wrong_101 hl (by decide) rfl (fun ls hl => ?_)
                  refine lv_iload_n hx hb d_Mo_wrong_103 rfl (lv_at hl 2 rfl) ?_
                  refine lv_iconst (v := iZ (1)) hx hb d_Mo_wrong_104 (by decide +kernel) ?_
                  refine zz_iadd hx hb d_Mo_wrong_105 ?_
                  refine lv_istore (lv' := [(5, .int (iZ ((to : Int) + 1))), (4, .int (iZ 0)), (3, .int (iZ (en : Int))), (2, .int (iZ (to : Int))), (1, .int (iZ (frm tx cn : Int))), (0, .ref mo)]) hx hb d_Mo_wrong_106 hl (by decide) rfl (fun ls hl => ?_)
                  rw [show ((to : Int) + 1 : Int) = ((to + 1 : Nat) : Int) by omega] at hl
                  exact L108 _ to en (to + 1) 0 _ _ _ (Nat.lt_succ_self _) Bto (by omega) tc Ben (by omega) ⟨Nat.le_refl _, by omega⟩ (by omega) (fun z => ⟨by omega, fun j h1 h2 => absurd h1 (by omega)⟩) (fun z y => by omega) (hP.sub (ws' := [(mo, .inr (8, [.int qc, .int (iZ (np : Int)), .ref ow, .ref om, .ref ok_, .ref oK, .ref og, .ref on_, .ref oh, .ref ox, .int (iZ (cn : Int)), .int qf, .ref op_, .int ql])), (ox, .inl (cI, 400, .inl ft))]) [0, 1] rfl) (hD.sub (ws' := [(mo, .inr (8, [.int qc, .int (iZ (np : Int)), .ref ow, .ref om, .ref ok_, .ref oK, .ref og, .ref on_, .ref oh, .ref ox, .int (iZ (cn : Int)), .int qf, .ref op_, .int ql])), (ox, .inl (cI, 400, .inl ft))]) [0, 1] (by decide) rfl) hS (lv_sub hl [5, 4, 3, 2, 1, 0] rfl)
                · refine lv_iconst (v := iZ (1)) hx hb d_Mo_wrong_96 (by decide +kernel) ?_
                  refine lv_goto (tgt := 101) hx hb d_Mo_wrong_97 (by decide) ?_
                  refine lv_istore (lv' := [(4, .int (iZ 1)), (3, .int (iZ (en : Int))), (2, .int (iZ (to : Int))), (1, .int (iZ (frm tx cn : Int))), (0, .ref mo)]) hx hb d_Mo_wrong_101 hl (by decide) rfl (fun ls hl => ?_)
                  refine lv_iload_n hx hb d_Mo_wrong_103 rfl (lv_at hl 2 rfl) ?_
                  refine lv_iconst (v := iZ (1)) hx hb d_Mo_wrong_104 (by decide +kernel) ?_
                  refine zz_iadd hx hb d_Mo_wrong_105 ?_
                  refine lv_istore (lv' := [(5, .int (iZ ((to : Int) + 1))), (4, .int (iZ 1)), (3, .int (iZ (en : Int))), (2, .int (iZ (to : Int))), (1, .int (iZ (frm tx cn : Int))), (0, .ref mo)]) hx hb d_Mo_wrong_106 hl (by decide) rfl (fun ls hl => ?_)
                  rw [show ((to : Int) + 1 : Int) = ((to + 1 : Nat) : Int) by omega] at hl
                  exact L108 _ to en (to + 1) 1 _ _ _ (Nat.lt_succ_self _) Bto (by omega) tc Ben (by omega) ⟨Nat.le_refl _, by omega⟩ (by omega) (fun z => ⟨by omega, fun j h1 h2 => absurd h1 (by omega)⟩) (fun z y => by omega) (hP.sub (ws' := [(mo, .inr (8, [.int qc, .int (iZ (np : Int)), .ref ow, .ref om, .ref ok_, .ref oK, .ref og, .ref on_, .ref oh, .ref ox, .int (iZ (cn : Int)), .int qf, .ref op_, .int ql])), (ox, .inl (cI, 400, .inl ft))]) [0, 1] rfl) (hD.sub (ws' := [(mo, .inr (8, [.int qc, .int (iZ (np : Int)), .ref ow, .ref om, .ref ok_, .ref oK, .ref og, .ref on_, .ref oh, .ref ox, .int (iZ (cn : Int)), .int qf, .ref op_, .int ql])), (ox, .inl (cI, 400, .inl ft))]) [0, 1] (by decide) rfl) hS (lv_sub hl [5, 4, 3, 2, 1, 0] rfl)
              · refine lv_iload_n hx hb d_Mo_wrong_84 rfl (lv_at hl 0 rfl) ?_
                have hP9 : va_P D cls0 [(mo, .inr (8, [.int qc, .int (iZ (np : Int)), .ref ow, .ref om, .ref ok_, .ref oK, .ref og, .ref on_, .ref oh, .ref ox, .int (iZ (cn : Int)), .int qf, .ref op_, .int ql])), (ox, .inl (cI, 400, .inl ft))] H := hP.sub [0, 1] rfl
                have hD9 : va_D A [(mo, .inr (8, [.int qc, .int (iZ (np : Int)), .ref ow, .ref om, .ref ok_, .ref oK, .ref og, .ref on_, .ref oh, .ref ox, .int (iZ (cn : Int)), .int qf, .ref op_, .int ql])), (ox, .inl (cI, 400, .inl ft))] := hD.sub [0, 1] (by decide) rfl
                rw [hQ, ← hAe]
                refine r_i (v := (iZ (en : Int))) K (en : Int) hS d_Mo_wrong_85 ?_ (fun t ht hv => ?_)
                · exact ⟨rfl, ⟨to, Bto, Or.inr (Or.inr (Or.inr ⟨by omega, by omega, tc, en, Ben, Or.inl ⟨by omega, rfl⟩⟩))⟩, by omega⟩
                · exact ⟨by rw [ht]; exact hP9, va_K.moved hv hK, by rw [← hAe]; exact hD9⟩
          · refine lv_iload_n hx hb d_Mo_wrong_59 rfl (lv_at hl 0 rfl) ?_
            have hP9 : va_P D cls0 [(mo, .inr (8, [.int qc, .int (iZ (np : Int)), .ref ow, .ref om, .ref ok_, .ref oK, .ref og, .ref on_, .ref oh, .ref ox, .int (iZ (cn : Int)), .int qf, .ref op_, .int ql])), (ox, .inl (cI, 400, .inl ft))] H := hP.sub [0, 1] rfl
            have hD9 : va_D A [(mo, .inr (8, [.int qc, .int (iZ (np : Int)), .ref ow, .ref om, .ref ok_, .ref oK, .ref og, .ref on_, .ref oh, .ref ox, .int (iZ (cn : Int)), .int qf, .ref op_, .int ql])), (ox, .inl (cI, 400, .inl ft))] := hD.sub [0, 1] (by decide) rfl
            rw [hQ, ← hAe]
            refine r_i (v := (iZ (to : Int))) K (to : Int) hS d_Mo_wrong_60 ?_ (fun t ht hv => ?_)
            · rw [atT_in (show to < cn by omega)] at ex2 ex3
              exact ⟨rfl, ⟨to, Bto, Or.inr (Or.inr (Or.inl ⟨by omega, by omega, by omega, by omega, rfl⟩))⟩, by omega⟩
            · exact ⟨by rw [ht]; exact hP9, va_K.moved hv hK, by rw [← hAe]; exact hD9⟩
      · refine lv_iconst (v := iZ (-1)) hx hb d_Mo_wrong_37 (by decide +kernel) ?_
        have hP9 : va_P D cls0 [(mo, .inr (8, [.int qc, .int (iZ (np : Int)), .ref ow, .ref om, .ref ok_, .ref oK, .ref og, .ref on_, .ref oh, .ref ox, .int (iZ (cn : Int)), .int qf, .ref op_, .int ql])), (ox, .inl (cI, 400, .inl ft))] H := hP.sub [0, 1] rfl
        have hD9 : va_D A [(mo, .inr (8, [.int qc, .int (iZ (np : Int)), .ref ow, .ref om, .ref ok_, .ref oK, .ref og, .ref on_, .ref oh, .ref ox, .int (iZ (cn : Int)), .int qf, .ref op_, .int ql])), (ox, .inl (cI, 400, .inl ft))] := hD.sub [0, 1] (by decide) rfl
        rw [hQ, ← hAe]
        refine r_i (v := (iZ (-1))) K (-1) hS d_Mo_wrong_38 ?_ (fun t ht hv => ?_)
        · exact ⟨rfl, ⟨to, Bto, Or.inr (Or.inl ⟨by omega, by omega, rfl⟩)⟩, by omega⟩
        · exact ⟨by rw [ht]; exact hP9, va_K.moved hv hK, by rw [← hAe]; exact hD9⟩
    · refine lv_iload_n hx hb d_Mo_wrong_27 rfl (lv_at hl 0 rfl) ?_
      have hP9 : va_P D cls0 [(mo, .inr (8, [.int qc, .int (iZ (np : Int)), .ref ow, .ref om, .ref ok_, .ref oK, .ref og, .ref on_, .ref oh, .ref ox, .int (iZ (cn : Int)), .int qf, .ref op_, .int ql])), (ox, .inl (cI, 400, .inl ft))] H := hP.sub [0, 1] rfl
      have hD9 : va_D A [(mo, .inr (8, [.int qc, .int (iZ (np : Int)), .ref ow, .ref om, .ref ok_, .ref oK, .ref og, .ref on_, .ref oh, .ref ox, .int (iZ (cn : Int)), .int qf, .ref op_, .int ql])), (ox, .inl (cI, 400, .inl ft))] := hD.sub [0, 1] (by decide) rfl
      rw [hQ, ← hAe]
      refine r_i (v := (iZ (to : Int))) K (to : Int) hS d_Mo_wrong_28 ?_ (fun t ht hv => ?_)
      · exact ⟨rfl, ⟨to, Bto, Or.inl ⟨by omega, rfl⟩⟩, by omega⟩
      · exact ⟨by rw [ht]; exact hP9, va_K.moved hv hK, by rw [← hAe]; exact hD9⟩
  · refine lv_iconst (v := iZ (1)) hx hb d_Mo_wrong_10 (by decide +kernel) ?_
    refine lv_goto (tgt := 15) hx hb d_Mo_wrong_11 (by decide) ?_
    have ef : frm tx cn = 1 := by omega
    rw [show (1 : Int) = (frm tx cn : Int) by omega]
    refine lv_istore_n (lv' := [(1, .int (iZ (frm tx cn : Int))), (0, .ref mo)]) hx hb d_Mo_wrong_15 rfl hl (by decide) rfl (fun ls hl => ?_)
    refine lv_aload_n hx hb d_Mo_wrong_16 rfl (lv_at hl 1 rfl) ?_
    refine lv_iload_n hx hb d_Mo_wrong_17 rfl (lv_at hl 0 rfl) ?_
    rw [show ((frm tx cn : Int) : Int) = ((frm tx cn : Nat) : Int) by omega]
    refine cv (n := 1) (wr := []) (w1 := (fun (u : Nat) => [(mo, .inr (8, [.int qc, .int (iZ (np : Int)), .ref ow, .ref om, .ref ok_, .ref oK, .ref og, .ref on_, .ref oh, .ref ox, .int (iZ (cn : Int)), .int qf, .ref op_, .int ql])), (ox, .inl (cI, 400, .inl ft))])) (As := [.int (iZ ((frm tx cn : Nat) : Int))]) (rest := []) K hP hD hK hS hA hl.1 (c_Mo_behind l D mo qc np ow om ok_ oK og on_ oh ox qf op_ ql cn ft cI tx (frm tx cn) H.size hcn htx (by omega)) [0, 1] [] [0] rfl rfl rfl (by decide) (by decide) (by decide) 0 rfl rfl (big_in mw_1376 rfl) (big_in mw_10 rfl) (big_in mw_1373 rfl) (big_in mw_1375 rfl) (big_in sp_48 rfl) rfl rfl (by decide +kernel) ⟨by rw [hR]; exact Nat.le_of_ble_eq_true rfl, by rw [hR]; exact Nat.le_of_ble_eq_true rfl⟩ rfl (Nat.le_of_ble_eq_true rfl) d_Mo_wrong_18 ⟨by rw [hR]; exact Nat.le_of_ble_eq_true rfl, by rw [hR]; exact Nat.le_of_ble_eq_true rfl⟩ rfl (fun v u H locs hp10 hP hD hS _ => ?_)
    obtain ⟨to, rfl⟩ : ∃ z, z = u := ⟨_, rfl⟩
    obtain ⟨rfl, Bto⟩ := hp10
    have hP : va_P D cls0 [(mo, .inr (8, [.int qc, .int (iZ (np : Int)), .ref ow, .ref om, .ref ok_, .ref oK, .ref og, .ref on_, .ref oh, .ref ox, .int (iZ (cn : Int)), .int qf, .ref op_, .int ql])), (ox, .inl (cI, 400, .inl ft))] H := hP
    have hD : va_D A [(mo, .inr (8, [.int qc, .int (iZ (np : Int)), .ref ow, .ref om, .ref ok_, .ref oK, .ref og, .ref on_, .ref oh, .ref ox, .int (iZ (cn : Int)), .int qf, .ref op_, .int ql])), (ox, .inl (cI, 400, .inl ft))] := hD
    show W p l e R s m args below meth c H locs _ _ Q (F0 m 21 ls [.int (iZ (to : Int))])
    refine lv_istore_n (lv' := [(2, .int (iZ (to : Int))), (1, .int (iZ (frm tx cn : Int))), (0, .ref mo)]) hx hb d_Mo_wrong_21 rfl hl (by decide) rfl (fun ls hl => ?_)
    obtain ⟨q1, q2, q3, q4⟩ := id Bto
    have fr := frm_r tx cn
    refine lv_iload_n hx hb d_Mo_wrong_22 rfl (lv_at hl 0 rfl) ?_
    refine lv_iload_n hx hb d_Mo_wrong_23 rfl (lv_at hl 1 rfl) ?_
    refine zz_icmp_ne (tgt := 29) hx hb d_Mo_wrong_24 (by decide) (by omega) (by omega) (fun c24 => ?_) (fun c24 => ?_)
    · refine lv_iload_n hx hb d_Mo_wrong_29 rfl (lv_at hl 0 rfl) ?_
      refine lv_aload_n hx hb d_Mo_wrong_30 rfl (lv_at hl 2 rfl) ?_
      refine va_get (D := D) (ci := 8) (v := .int (iZ (cn : Int))) (C := R_Mo) (T := F_Mo) (N := 14) hx hb hts i_Mo hown hK hP 0 rfl rfl 10 (by decide) (hts _ (big_in mw_1125 rfl)) (fun _ h9 => h9) rfl d_Mo_wrong_31 ?_
      refine zz_icmp_ne (tgt := 39) hx hb d_Mo_wrong_34 (by decide) (by omega) (by omega) (fun c34 => ?_) (fun c34 => ?_)
      · refine lv_aload_n hx hb d_Mo_wrong_39 rfl (lv_at hl 2 rfl) ?_
        refine lv_iload_n hx hb d_Mo_wrong_40 rfl (lv_at hl 0 rfl) ?_
        refine cv (n := 1) (wr := []) (w1 := (fun (u : Int) => [(mo, .inr (8, [.int qc, .int (iZ (np : Int)), .ref ow, .ref om, .ref ok_, .ref oK, .ref og, .ref on_, .ref oh, .ref ox, .int (iZ (cn : Int)), .int qf, .ref op_, .int ql])), (ox, .inl (cI, 400, .inl ft))])) (As := [.int (iZ (to : Int))]) (rest := []) K hP hD hK hS hA hl.1 (c_Mo_at l D mo qc np ow om ok_ oK og on_ oh ox qf op_ ql cn ft cI tx to H.size hcn htx (by omega)) [0, 1] [] [0] rfl rfl rfl (by decide) (by decide) (by decide) 0 rfl rfl (big_in mw_1372 rfl) (big_in mw_10 rfl) (big_in mw_1369 rfl) (big_in mw_1371 rfl) (big_in sp_47 rfl) rfl rfl (by decide +kernel) ⟨by rw [hR]; exact Nat.le_of_ble_eq_true rfl, by rw [hR]; exact Nat.le_of_ble_eq_true rfl⟩ rfl (Nat.le_of_ble_eq_true rfl) d_Mo_wrong_41 ⟨by rw [hR]; exact Nat.le_of_ble_eq_true rfl, by rw [hR]; exact Nat.le_of_ble_eq_true rfl⟩ rfl (fun v u H locs hp11 hP hD hS _ => ?_)
        obtain ⟨x2, rfl⟩ : ∃ z, z = u := ⟨_, rfl⟩
        obtain ⟨rfl, ex2, bx2⟩ := hp11
        have hP : va_P D cls0 [(mo, .inr (8, [.int qc, .int (iZ (np : Int)), .ref ow, .ref om, .ref ok_, .ref oK, .ref og, .ref on_, .ref oh, .ref ox, .int (iZ (cn : Int)), .int qf, .ref op_, .int ql])), (ox, .inl (cI, 400, .inl ft))] H := hP
        have hD : va_D A [(mo, .inr (8, [.int qc, .int (iZ (np : Int)), .ref ow, .ref om, .ref ok_, .ref oK, .ref og, .ref on_, .ref oh, .ref ox, .int (iZ (cn : Int)), .int qf, .ref op_, .int ql])), (ox, .inl (cI, 400, .inl ft))] := hD
        show W p l e R s m args below meth c H locs _ _ Q (F0 m 44 ls [.int (iZ x2)])
        refine lv_bipush (v := iZ (46)) hx hb d_Mo_wrong_44 (by decide +kernel) ?_
        refine zz_icmp_eq (tgt := 61) hx hb d_Mo_wrong_46 (by decide) (by omega) (by omega) (fun c46 => ?_) (fun c46 => ?_)
        · have tl : to < cn := by omega
          have tc : tx to = 46 ∨ tx to = 47 := by first | (rw [atT_in tl] at ex2; left; omega) | (rw [atT_in tl] at ex3; right; omega)
          refine lv_aload_n hx hb d_Mo_wrong_61 rfl (lv_at hl 2 rfl) ?_
          refine lv_iload_n hx hb d_Mo_wrong_62 rfl (lv_at hl 0 rfl) ?_
          refine lv_iconst (v := iZ (1)) hx hb d_Mo_wrong_63 (by decide +kernel) ?_
          refine zz_iadd hx hb d_Mo_wrong_64 ?_
          rw [show ((to : Int) + 1 : Int) = ((to + 1 : Nat) : Int) by omega]
          refine cv (n := 1) (wr := []) (w1 := (fun (u : Nat) => [(mo, .inr (8, [.int qc, .int (iZ (np : Int)), .ref ow, .ref om, .ref ok_, .ref oK, .ref og, .ref on_, .ref oh, .ref ox, .int (iZ (cn : Int)), .int qf, .ref op_, .int ql])), (ox, .inl (cI, 400, .inl ft))])) (As := [.int (iZ ((to + 1 : Nat) : Int))]) (rest := []) K hP hD hK hS hA hl.1 (c_Mo_behind l D mo qc np ow om ok_ oK og on_ oh ox qf op_ ql cn ft cI tx (to + 1) H.size hcn htx (by omega)) [0, 1] [] [0] rfl rfl rfl (by decide) (by decide) (by decide) 0 rfl rfl (big_in mw_1376 rfl) (big_in mw_10 rfl) (big_in mw_1373 rfl) (big_in mw_1375 rfl) (big_in sp_48 rfl) rfl rfl (by decide +kernel) ⟨by rw [hR]; exact Nat.le_of_ble_eq_true rfl, by rw [hR]; exact Nat.le_of_ble_eq_true rfl⟩ rfl (Nat.le_of_ble_eq_true rfl) d_Mo_wrong_65 ⟨by rw [hR]; exact Nat.le_of_ble_eq_true rfl, by rw [hR]; exact Nat.le_of_ble_eq_true rfl⟩ rfl (fun v u H locs hp12 hP hD hS _ => ?_)
          obtain ⟨en, rfl⟩ : ∃ z, z = u := ⟨_, rfl⟩
          obtain ⟨rfl, Ben⟩ := hp12
          have hP : va_P D cls0 [(mo, .inr (8, [.int qc, .int (iZ (np : Int)), .ref ow, .ref om, .ref ok_, .ref oK, .ref og, .ref on_, .ref oh, .ref ox, .int (iZ (cn : Int)), .int qf, .ref op_, .int ql])), (ox, .inl (cI, 400, .inl ft))] H := hP
          have hD : va_D A [(mo, .inr (8, [.int qc, .int (iZ (np : Int)), .ref ow, .ref om, .ref ok_, .ref oK, .ref og, .ref on_, .ref oh, .ref ox, .int (iZ (cn : Int)), .int qf, .ref op_, .int ql])), (ox, .inl (cI, 400, .inl ft))] := hD
          show W p l e R s m args below meth c H locs _ _ Q (F0 m 68 ls [.int (iZ (en : Int))])
          refine lv_istore_n (lv' := [(3, .int (iZ (en : Int))), (2, .int (iZ (to : Int))), (1, .int (iZ (frm tx cn : Int))), (0, .ref mo)]) hx hb d_Mo_wrong_68 rfl hl (by decide) rfl (fun ls hl => ?_)
          obtain ⟨r1, r2, r3, r4⟩ := id Ben
          refine lv_iload_n hx hb d_Mo_wrong_69 rfl (lv_at hl 0 rfl) ?_
          refine lv_iload_n hx hb d_Mo_wrong_70 rfl (lv_at hl 1 rfl) ?_
          refine lv_iconst (v := iZ (1)) hx hb d_Mo_wrong_71 (by decide +kernel) ?_
          refine zz_iadd hx hb d_Mo_wrong_72 ?_
          refine zz_icmp_eq (tgt := 84) hx hb d_Mo_wrong_73 (by decide) (by omega) (by omega) (fun c73 => ?_) (fun c73 => ?_)
          · refine lv_iload_n hx hb d_Mo_wrong_84 rfl (lv_at hl 0 rfl) ?_
            have hP9 : va_P D cls0 [(mo, .inr (8, [.int qc, .int (iZ (np : Int)), .ref ow, .ref om, .ref ok_, .ref oK, .ref og, .ref on_, .ref oh, .ref ox, .int (iZ (cn : Int)), .int qf, .ref op_, .int ql])), (ox, .inl (cI, 400, .inl ft))] H := hP.sub [0, 1] rfl
            have hD9 : va_D A [(mo, .inr (8, [.int qc, .int (iZ (np : Int)), .ref ow, .ref om, .ref ok_, .ref oK, .ref og, .ref on_, .ref oh, .ref ox, .int (iZ (cn : Int)), .int qf, .ref op_, .int ql])), (ox, .inl (cI, 400, .inl ft))] := hD.sub [0, 1] (by decide) rfl
            rw [hQ, ← hAe]
            refine r_i (v := (iZ (en : Int))) K (en : Int) hS d_Mo_wrong_85 ?_ (fun t ht hv => ?_)
            · exact ⟨rfl, ⟨to, Bto, Or.inr (Or.inr (Or.inr ⟨by omega, by omega, tc, en, Ben, Or.inl ⟨by omega, rfl⟩⟩))⟩, by omega⟩
            · exact ⟨by rw [ht]; exact hP9, va_K.moved hv hK, by rw [← hAe]; exact hD9⟩
          · refine lv_iload_n hx hb d_Mo_wrong_76 rfl (lv_at hl 0 rfl) ?_
            refine lv_aload_n hx hb d_Mo_wrong_77 rfl (lv_at hl 3 rfl) ?_
            refine va_get (D := D) (ci := 8) (v := .int (iZ (cn : Int))) (C := R_Mo) (T := F_Mo) (N := 14) hx hb hts i_Mo hown hK hP 0 rfl rfl 10 (by decide) (hts _ (big_in mw_1125 rfl)) (fun _ h9 => h9) rfl d_Mo_wrong_78 ?_
            refine zz_icmp_ge (tgt := 86) hx hb d_Mo_wrong_81 (by decide) (by omega) (by omega) (fun c81 => ?_) (fun c81 => ?_)
            · refine lv_aload_n hx hb d_Mo_wrong_86 rfl (lv_at hl 3 rfl) ?_
              refine lv_iload_n hx hb d_Mo_wrong_87 rfl (lv_at hl 1 rfl) ?_
              refine cv (n := 1) (wr := []) (w1 := (fun (u : Int) => [(mo, .inr (8, [.int qc, .int (iZ (np : Int)), .ref ow, .ref om, .ref ok_, .ref oK, .ref og, .ref on_, .ref oh, .ref ox, .int (iZ (cn : Int)), .int qf, .ref op_, .int ql])), (ox, .inl (cI, 400, .inl ft))])) (As := [.int (iZ (to : Int))]) (rest := []) K hP hD hK hS hA hl.1 (c_Mo_at l D mo qc np ow om ok_ oK og on_ oh ox qf op_ ql cn ft cI tx to H.size hcn htx (by omega)) [0, 1] [] [0] rfl rfl rfl (by decide) (by decide) (by decide) 0 rfl rfl (big_in mw_1372 rfl) (big_in mw_10 rfl) (big_in mw_1369 rfl) (big_in mw_1371 rfl) (big_in sp_47 rfl) rfl rfl (by decide +kernel) ⟨by rw [hR]; exact Nat.le_of_ble_eq_true rfl, by rw [hR]; exact Nat.le_of_ble_eq_true rfl⟩ rfl (Nat.le_of_ble_eq_true rfl) d_Mo_wrong_88 ⟨by rw [hR]; exact Nat.le_of_ble_eq_true rfl, by rw [hR]; exact Nat.le_of_ble_eq_true rfl⟩ rfl (fun v u H locs hp13 hP hD hS _ => ?_)
              obtain ⟨x4, rfl⟩ : ∃ z, z = u := ⟨_, rfl⟩
              obtain ⟨rfl, ex4, bx4⟩ := hp13
              have hP : va_P D cls0 [(mo, .inr (8, [.int qc, .int (iZ (np : Int)), .ref ow, .ref om, .ref ok_, .ref oK, .ref og, .ref on_, .ref oh, .ref ox, .int (iZ (cn : Int)), .int qf, .ref op_, .int ql])), (ox, .inl (cI, 400, .inl ft))] H := hP
              have hD : va_D A [(mo, .inr (8, [.int qc, .int (iZ (np : Int)), .ref ow, .ref om, .ref ok_, .ref oK, .ref og, .ref on_, .ref oh, .ref ox, .int (iZ (cn : Int)), .int qf, .ref op_, .int ql])), (ox, .inl (cI, 400, .inl ft))] := hD
              show W p l e R s m args below meth c H locs _ _ Q (F0 m 91 ls [.int (iZ x4)])
              rw [atT_in tl] at ex4
              refine lv_bipush (v := iZ (47)) hx hb d_Mo_wrong_91 (by decide +kernel) ?_
              refine zz_icmp_ne (tgt := 100) hx hb d_Mo_wrong_93 (by decide) (by omega) (by omega) (fun c93 => ?_) (fun c93 => ?_)
              · refine lv_iconst (v := iZ (0)) hx hb d_Mo_wrong_100 (by decide +kernel) ?_
                refine lv_istore (lv' := [(4, .int (iZ 0)), (3, .int (iZ (en : Int))), (2, .int (iZ (to : Int))), (1, .int (iZ (frm tx cn : Int))), (0, .ref mo)]) hx hb d_Mo_wrong_101 hl (by decide) rfl (fun ls hl => ?_)
                refine lv_iload_n hx hb d_Mo_wrong_103 rfl (lv_at hl 2 rfl) ?_
                refine lv_iconst (v := iZ (1)) hx hb d_Mo_wrong_104 (by decide +kernel) ?_
                refine zz_iadd hx hb d_Mo_wrong_105 ?_
                refine lv_istore (lv' := [(5, .int (iZ ((to : Int) + 1))), (4, .int (iZ 0)), (3, .int (iZ (en : Int))), (2, .int (iZ (to : Int))), (1, .int (iZ (frm tx cn : Int))), (0, .ref mo)]) hx hb d_Mo_wrong_106 hl (by decide) rfl (fun ls hl => ?_)
                rw [show ((to : Int) + 1 : Int) = ((to + 1 : Nat) : Int) by omega] at hl
                exact L108 _ to en (to + 1) 0 _ _ _ (Nat.lt_succ_self _) Bto (by omega) tc Ben (by omega) ⟨Nat.le_refl _, by omega⟩ (by omega) (fun z => ⟨by omega, fun j h1 h2 => absurd h1 (by omega)⟩) (fun z y => by omega) (hP.sub (ws' := [(mo, .inr (8, [.int qc, .int (iZ (np : Int)), .ref ow, .ref om, .ref ok_, .ref oK, .ref og, .ref on_, .ref oh, .ref ox, .int (iZ (cn : Int)), .int qf, .ref op_, .int ql])), (ox, .inl (cI, 400, .inl ft))]) [0, 1] rfl) (hD.sub (ws' := [(mo, .inr (8, [.int qc, .int (iZ (np : Int)), .ref ow, .ref om, .ref ok_, .ref oK, .ref og, .ref on_, .ref oh, .ref ox, .int (iZ (cn : Int)), .int qf, .ref op_, .int ql])), (ox, .inl (cI, 400, .inl ft))]) [0, 1] (by decide) rfl) hS (lv_sub hl [5, 4, 3, 2, 1, 0] rfl)
              · refine lv_iconst (v := iZ (1)) hx hb d_Mo_wrong_96 (by decide +kernel) ?_
                refine lv_goto (tgt := 101) hx hb d_Mo_wrong_97 (by decide) ?_
                refine lv_istore (lv' := [(4, .int (iZ 1)), (3, .int (iZ (en : Int))), (2, .int (iZ (to : Int))), (1, .int (iZ (frm tx cn : Int))), (0, .ref mo)]) hx hb d_Mo_wrong_101 hl (by decide) rfl (fun ls hl => ?_)
                refine lv_iload_n hx hb d_Mo_wrong_103 rfl (lv_at hl 2 rfl) ?_
                refine lv_iconst (v := iZ (1)) hx hb d_Mo_wrong_104 (by decide +kernel) ?_
                refine zz_iadd hx hb d_Mo_wrong_105 ?_
                refine lv_istore (lv' := [(5, .int (iZ ((to : Int) + 1))), (4, .int (iZ 1)), (3, .int (iZ (en : Int))), (2, .int (iZ (to : Int))), (1, .int (iZ (frm tx cn : Int))), (0, .ref mo)]) hx hb d_Mo_wrong_106 hl (by decide) rfl (fun ls hl => ?_)
                rw [show ((to : Int) + 1 : Int) = ((to + 1 : Nat) : Int) by omega] at hl
                exact L108 _ to en (to + 1) 1 _ _ _ (Nat.lt_succ_self _) Bto (by omega) tc Ben (by omega) ⟨Nat.le_refl _, by omega⟩ (by omega) (fun z => ⟨by omega, fun j h1 h2 => absurd h1 (by omega)⟩) (fun z y => by omega) (hP.sub (ws' := [(mo, .inr (8, [.int qc, .int (iZ (np : Int)), .ref ow, .ref om, .ref ok_, .ref oK, .ref og, .ref on_, .ref oh, .ref ox, .int (iZ (cn : Int)), .int qf, .ref op_, .int ql])), (ox, .inl (cI, 400, .inl ft))]) [0, 1] rfl) (hD.sub (ws' := [(mo, .inr (8, [.int qc, .int (iZ (np : Int)), .ref ow, .ref om, .ref ok_, .ref oK, .ref og, .ref on_, .ref oh, .ref ox, .int (iZ (cn : Int)), .int qf, .ref op_, .int ql])), (ox, .inl (cI, 400, .inl ft))]) [0, 1] (by decide) rfl) hS (lv_sub hl [5, 4, 3, 2, 1, 0] rfl)
            · refine lv_iload_n hx hb d_Mo_wrong_84 rfl (lv_at hl 0 rfl) ?_
              have hP9 : va_P D cls0 [(mo, .inr (8, [.int qc, .int (iZ (np : Int)), .ref ow, .ref om, .ref ok_, .ref oK, .ref og, .ref on_, .ref oh, .ref ox, .int (iZ (cn : Int)), .int qf, .ref op_, .int ql])), (ox, .inl (cI, 400, .inl ft))] H := hP.sub [0, 1] rfl
              have hD9 : va_D A [(mo, .inr (8, [.int qc, .int (iZ (np : Int)), .ref ow, .ref om, .ref ok_, .ref oK, .ref og, .ref on_, .ref oh, .ref ox, .int (iZ (cn : Int)), .int qf, .ref op_, .int ql])), (ox, .inl (cI, 400, .inl ft))] := hD.sub [0, 1] (by decide) rfl
              rw [hQ, ← hAe]
              refine r_i (v := (iZ (en : Int))) K (en : Int) hS d_Mo_wrong_85 ?_ (fun t ht hv => ?_)
              · exact ⟨rfl, ⟨to, Bto, Or.inr (Or.inr (Or.inr ⟨by omega, by omega, tc, en, Ben, Or.inl ⟨by omega, rfl⟩⟩))⟩, by omega⟩
              · exact ⟨by rw [ht]; exact hP9, va_K.moved hv hK, by rw [← hAe]; exact hD9⟩
        · refine lv_aload_n hx hb d_Mo_wrong_49 rfl (lv_at hl 2 rfl) ?_
          refine lv_iload_n hx hb d_Mo_wrong_50 rfl (lv_at hl 0 rfl) ?_
          refine cv (n := 1) (wr := []) (w1 := (fun (u : Int) => [(mo, .inr (8, [.int qc, .int (iZ (np : Int)), .ref ow, .ref om, .ref ok_, .ref oK, .ref og, .ref on_, .ref oh, .ref ox, .int (iZ (cn : Int)), .int qf, .ref op_, .int ql])), (ox, .inl (cI, 400, .inl ft))])) (As := [.int (iZ (to : Int))]) (rest := []) K hP hD hK hS hA hl.1 (c_Mo_at l D mo qc np ow om ok_ oK og on_ oh ox qf op_ ql cn ft cI tx to H.size hcn htx (by omega)) [0, 1] [] [0] rfl rfl rfl (by decide) (by decide) (by decide) 0 rfl rfl (big_in mw_1372 rfl) (big_in mw_10 rfl) (big_in mw_1369 rfl) (big_in mw_1371 rfl) (big_in sp_47 rfl) rfl rfl (by decide +kernel) ⟨by rw [hR]; exact Nat.le_of_ble_eq_true rfl, by rw [hR]; exact Nat.le_of_ble_eq_true rfl⟩ rfl (Nat.le_of_ble_eq_true rfl) d_Mo_wrong_51 ⟨by rw [hR]; exact Nat.le_of_ble_eq_true rfl, by rw [hR]; exact Nat.le_of_ble_eq_true rfl⟩ rfl (fun v u H locs hp14 hP hD hS _ => ?_)
          obtain ⟨x3, rfl⟩ : ∃ z, z = u := ⟨_, rfl⟩
          obtain ⟨rfl, ex3, bx3⟩ := hp14
          have hP : va_P D cls0 [(mo, .inr (8, [.int qc, .int (iZ (np : Int)), .ref ow, .ref om, .ref ok_, .ref oK, .ref og, .ref on_, .ref oh, .ref ox, .int (iZ (cn : Int)), .int qf, .ref op_, .int ql])), (ox, .inl (cI, 400, .inl ft))] H := hP
          have hD : va_D A [(mo, .inr (8, [.int qc, .int (iZ (np : Int)), .ref ow, .ref om, .ref ok_, .ref oK, .ref og, .ref on_, .ref oh, .ref ox, .int (iZ (cn : Int)), .int qf, .ref op_, .int ql])), (ox, .inl (cI, 400, .inl ft))] := hD
          show W p l e R s m args below meth c H locs _ _ Q (F0 m 54 ls [.int (iZ x3)])
          refine lv_bipush (v := iZ (47)) hx hb d_Mo_wrong_54 (by decide +kernel) ?_
          refine zz_icmp_eq (tgt := 61) hx hb d_Mo_wrong_56 (by decide) (by omega) (by omega) (fun c56 => ?_) (fun c56 => ?_)
          · have tl : to < cn := by omega
            have tc : tx to = 46 ∨ tx to = 47 := by first | (rw [atT_in tl] at ex2; left; omega) | (rw [atT_in tl] at ex3; right; omega)
            refine lv_aload_n hx hb d_Mo_wrong_61 rfl (lv_at hl 2 rfl) ?_
            refine lv_iload_n hx hb d_Mo_wrong_62 rfl (lv_at hl 0 rfl) ?_
            refine lv_iconst (v := iZ (1)) hx hb d_Mo_wrong_63 (by decide +kernel) ?_
            refine zz_iadd hx hb d_Mo_wrong_64 ?_
            rw [show ((to : Int) + 1 : Int) = ((to + 1 : Nat) : Int) by omega]
            refine cv (n := 1) (wr := []) (w1 := (fun (u : Nat) => [(mo, .inr (8, [.int qc, .int (iZ (np : Int)), .ref ow, .ref om, .ref ok_, .ref oK, .ref og, .ref on_, .ref oh, .ref ox, .int (iZ (cn : Int)), .int qf, .ref op_, .int ql])), (ox, .inl (cI, 400, .inl ft))])) (As := [.int (iZ ((to + 1 : Nat) : Int))]) (rest := []) K hP hD hK hS hA hl.1 (c_Mo_behind l D mo qc np ow om ok_ oK og on_ oh ox qf op_ ql cn ft cI tx (to + 1) H.size hcn htx (by omega)) [0, 1] [] [0] rfl rfl rfl (by decide) (by decide) (by decide) 0 rfl rfl (big_in mw_1376 rfl) (big_in mw_10 rfl) (big_in mw_1373 rfl) (big_in mw_1375 rfl) (big_in sp_48 rfl) rfl rfl (by decide +kernel) ⟨by rw [hR]; exact Nat.le_of_ble_eq_true rfl, by rw [hR]; exact Nat.le_of_ble_eq_true rfl⟩ rfl (Nat.le_of_ble_eq_true rfl) d_Mo_wrong_65 ⟨by rw [hR]; exact Nat.le_of_ble_eq_true rfl, by rw [hR]; exact Nat.le_of_ble_eq_true rfl⟩ rfl (fun v u H locs hp15 hP hD hS _ => ?_)
            obtain ⟨en, rfl⟩ : ∃ z, z = u := ⟨_, rfl⟩
            obtain ⟨rfl, Ben⟩ := hp15
            have hP : va_P D cls0 [(mo, .inr (8, [.int qc, .int (iZ (np : Int)), .ref ow, .ref om, .ref ok_, .ref oK, .ref og, .ref on_, .ref oh, .ref ox, .int (iZ (cn : Int)), .int qf, .ref op_, .int ql])), (ox, .inl (cI, 400, .inl ft))] H := hP
            have hD : va_D A [(mo, .inr (8, [.int qc, .int (iZ (np : Int)), .ref ow, .ref om, .ref ok_, .ref oK, .ref og, .ref on_, .ref oh, .ref ox, .int (iZ (cn : Int)), .int qf, .ref op_, .int ql])), (ox, .inl (cI, 400, .inl ft))] := hD
            show W p l e R s m args below meth c H locs _ _ Q (F0 m 68 ls [.int (iZ (en : Int))])
            refine lv_istore_n (lv' := [(3, .int (iZ (en : Int))), (2, .int (iZ (to : Int))), (1, .int (iZ (frm tx cn : Int))), (0, .ref mo)]) hx hb d_Mo_wrong_68 rfl hl (by decide) rfl (fun ls hl => ?_)
            obtain ⟨r1, r2, r3, r4⟩ := id Ben
            refine lv_iload_n hx hb d_Mo_wrong_69 rfl (lv_at hl 0 rfl) ?_
            refine lv_iload_n hx hb d_Mo_wrong_70 rfl (lv_at hl 1 rfl) ?_
            refine lv_iconst (v := iZ (1)) hx hb d_Mo_wrong_71 (by decide +kernel) ?_
            refine zz_iadd hx hb d_Mo_wrong_72 ?_
            refine zz_icmp_eq (tgt := 84) hx hb d_Mo_wrong_73 (by decide) (by omega) (by omega) (fun c73 => ?_) (fun c73 => ?_)
            · refine lv_iload_n hx hb d_Mo_wrong_84 rfl (lv_at hl 0 rfl) ?_
              have hP9 : va_P D cls0 [(mo, .inr (8, [.int qc, .int (iZ (np : Int)), .ref ow, .ref om, .ref ok_, .ref oK, .ref og, .ref on_, .ref oh, .ref ox, .int (iZ (cn : Int)), .int qf, .ref op_, .int ql])), (ox, .inl (cI, 400, .inl ft))] H := hP.sub [0, 1] rfl
              have hD9 : va_D A [(mo, .inr (8, [.int qc, .int (iZ (np : Int)), .ref ow, .ref om, .ref ok_, .ref oK, .ref og, .ref on_, .ref oh, .ref ox, .int (iZ (cn : Int)), .int qf, .ref op_, .int ql])), (ox, .inl (cI, 400, .inl ft))] := hD.sub [0, 1] (by decide) rfl
              rw [hQ, ← hAe]
              refine r_i (v := (iZ (en : Int))) K (en : Int) hS d_Mo_wrong_85 ?_ (fun t ht hv => ?_)
              · exact ⟨rfl, ⟨to, Bto, Or.inr (Or.inr (Or.inr ⟨by omega, by omega, tc, en, Ben, Or.inl ⟨by omega, rfl⟩⟩))⟩, by omega⟩
              · exact ⟨by rw [ht]; exact hP9, va_K.moved hv hK, by rw [← hAe]; exact hD9⟩
            · refine lv_iload_n hx hb d_Mo_wrong_76 rfl (lv_at hl 0 rfl) ?_
              refine lv_aload_n hx hb d_Mo_wrong_77 rfl (lv_at hl 3 rfl) ?_
              refine va_get (D := D) (ci := 8) (v := .int (iZ (cn : Int))) (C := R_Mo) (T := F_Mo) (N := 14) hx hb hts i_Mo hown hK hP 0 rfl rfl 10 (by decide) (hts _ (big_in mw_1125 rfl)) (fun _ h9 => h9) rfl d_Mo_wrong_78 ?_
              refine zz_icmp_ge (tgt := 86) hx hb d_Mo_wrong_81 (by decide) (by omega) (by omega) (fun c81 => ?_) (fun c81 => ?_)
              · refine lv_aload_n hx hb d_Mo_wrong_86 rfl (lv_at hl 3 rfl) ?_
                refine lv_iload_n hx hb d_Mo_wrong_87 rfl (lv_at hl 1 rfl) ?_
                refine cv (n := 1) (wr := []) (w1 := (fun (u : Int) => [(mo, .inr (8, [.int qc, .int (iZ (np : Int)), .ref ow, .ref om, .ref ok_, .ref oK, .ref og, .ref on_, .ref oh, .ref ox, .int (iZ (cn : Int)), .int qf, .ref op_, .int ql])), (ox, .inl (cI, 400, .inl ft))])) (As := [.int (iZ (to : Int))]) (rest := []) K hP hD hK hS hA hl.1 (c_Mo_at l D mo qc np ow om ok_ oK og on_ oh ox qf op_ ql cn ft cI tx to H.size hcn htx (by omega)) [0, 1] [] [0] rfl rfl rfl (by decide) (by decide) (by decide) 0 rfl rfl (big_in mw_1372 rfl) (big_in mw_10 rfl) (big_in mw_1369 rfl) (big_in mw_1371 rfl) (big_in sp_47 rfl) rfl rfl (by decide +kernel) ⟨by rw [hR]; exact Nat.le_of_ble_eq_true rfl, by rw [hR]; exact Nat.le_of_ble_eq_true rfl⟩ rfl (Nat.le_of_ble_eq_true rfl) d_Mo_wrong_88 ⟨by rw [hR]; exact Nat.le_of_ble_eq_true rfl, by rw [hR]; exact Nat.le_of_ble_eq_true rfl⟩ rfl (fun v u H locs hp16 hP hD hS _ => ?_)
                obtain ⟨x4, rfl⟩ : ∃ z, z = u := ⟨_, rfl⟩
                obtain ⟨rfl, ex4, bx4⟩ := hp16
                have hP : va_P D cls0 [(mo, .inr (8, [.int qc, .int (iZ (np : Int)), .ref ow, .ref om, .ref ok_, .ref oK, .ref og, .ref on_, .ref oh, .ref ox, .int (iZ (cn : Int)), .int qf, .ref op_, .int ql])), (ox, .inl (cI, 400, .inl ft))] H := hP
                have hD : va_D A [(mo, .inr (8, [.int qc, .int (iZ (np : Int)), .ref ow, .ref om, .ref ok_, .ref oK, .ref og, .ref on_, .ref oh, .ref ox, .int (iZ (cn : Int)), .int qf, .ref op_, .int ql])), (ox, .inl (cI, 400, .inl ft))] := hD
                show W p l e R s m args below meth c H locs _ _ Q (F0 m 91 ls [.int (iZ x4)])
                rw [atT_in tl] at ex4
                refine lv_bipush (v := iZ (47)) hx hb d_Mo_wrong_91 (by decide +kernel) ?_
                refine zz_icmp_ne (tgt := 100) hx hb d_Mo_wrong_93 (by decide) (by omega) (by omega) (fun c93 => ?_) (fun c93 => ?_)
                · refine lv_iconst (v := iZ (0)) hx hb d_Mo_wrong_100 (by decide +kernel) ?_
                  refine lv_istore (lv' := [(4, .int (iZ 0)), (3, .int (iZ (en : Int))), (2, .int (iZ (to : Int))), (1, .int (iZ (frm tx cn : Int))), (0, .ref mo)]) hx hb d_Mo_wrong_101 hl (by decide) rfl (fun ls hl => ?_)
                  refine lv_iload_n hx hb d_Mo_wrong_103 rfl (lv_at hl 2 rfl) ?_
                  refine lv_iconst (v := iZ (1)) hx hb d_Mo_wrong_104 (by decide +kernel) ?_
                  refine zz_iadd hx hb d_Mo_wrong_105 ?_
                  refine lv_istore (lv' := [(5, .int (iZ ((to : Int) + 1))), (4, .int (iZ 0)), (3, .int (iZ (en : Int))), (2, .int (iZ (to : Int))), (1, .int (iZ (frm tx cn : Int))), (0, .ref mo)]) hx hb d_Mo_wrong_106 hl (by decide) rfl (fun ls hl => ?_)
                  rw [show ((to : Int) + 1 : Int) = ((to + 1 : Nat) : Int) by omega] at hl
                  exact L108 _ to en (to + 1) 0 _ _ _ (Nat.lt_succ_self _) Bto (by omega) tc Ben (by omega) ⟨Nat.le_refl _, by omega⟩ (by omega) (fun z => ⟨by omega, fun j h1 h2 => absurd h1 (by omega)⟩) (fun z y => by omega) (hP.sub (ws' := [(mo, .inr (8, [.int qc, .int (iZ (np : Int)), .ref ow, .ref om, .ref ok_, .ref oK, .ref og, .ref on_, .ref oh, .ref ox, .int (iZ (cn : Int)), .int qf, .ref op_, .int ql])), (ox, .inl (cI, 400, .inl ft))]) [0, 1] rfl) (hD.sub (ws' := [(mo, .inr (8, [.int qc, .int (iZ (np : Int)), .ref ow, .ref om, .ref ok_, .ref oK, .ref og, .ref on_, .ref oh, .ref ox, .int (iZ (cn : Int)), .int qf, .ref op_, .int ql])), (ox, .inl (cI, 400, .inl ft))]) [0, 1] (by decide) rfl) hS (lv_sub hl [5, 4, 3, 2, 1, 0] rfl)
                · refine lv_iconst (v := iZ (1)) hx hb d_Mo_wrong_96 (by decide +kernel) ?_
                  refine lv_goto (tgt := 101) hx hb d_Mo_wrong_97 (by decide) ?_
                  refine lv_istore (lv' := [(4, .int (iZ 1)), (3, .int (iZ (en : Int))), (2, .int (iZ (to : Int))), (1, .int (iZ (frm tx cn : Int))), (0, .ref mo)]) hx hb d_Mo_wrong_101 hl (by decide) rfl (fun ls hl => ?_)
                  refine lv_iload_n hx hb d_Mo_wrong_103 rfl (lv_at hl 2 rfl) ?_
                  refine lv_iconst (v := iZ (1)) hx hb d_Mo_wrong_104 (by decide +kernel) ?_
                  refine zz_iadd hx hb d_Mo_wrong_105 ?_
                  refine lv_istore (lv' := [(5, .int (iZ ((to : Int) + 1))), (4, .int (iZ 1)), (3, .int (iZ (en : Int))), (2, .int (iZ (to : Int))), (1, .int (iZ (frm tx cn : Int))), (0, .ref mo)]) hx hb d_Mo_wrong_106 hl (by decide) rfl (fun ls hl => ?_)
                  rw [show ((to : Int) + 1 : Int) = ((to + 1 : Nat) : Int) by omega] at hl
                  exact L108 _ to en (to + 1) 1 _ _ _ (Nat.lt_succ_self _) Bto (by omega) tc Ben (by omega) ⟨Nat.le_refl _, by omega⟩ (by omega) (fun z => ⟨by omega, fun j h1 h2 => absurd h1 (by omega)⟩) (fun z y => by omega) (hP.sub (ws' := [(mo, .inr (8, [.int qc, .int (iZ (np : Int)), .ref ow, .ref om, .ref ok_, .ref oK, .ref og, .ref on_, .ref oh, .ref ox, .int (iZ (cn : Int)), .int qf, .ref op_, .int ql])), (ox, .inl (cI, 400, .inl ft))]) [0, 1] rfl) (hD.sub (ws' := [(mo, .inr (8, [.int qc, .int (iZ (np : Int)), .ref ow, .ref om, .ref ok_, .ref oK, .ref og, .ref on_, .ref oh, .ref ox, .int (iZ (cn : Int)), .int qf, .ref op_, .int ql])), (ox, .inl (cI, 400, .inl ft))]) [0, 1] (by decide) rfl) hS (lv_sub hl [5, 4, 3, 2, 1, 0] rfl)
              · refine lv_iload_n hx hb d_Mo_wrong_84 rfl (lv_at hl 0 rfl) ?_
                have hP9 : va_P D cls0 [(mo, .inr (8, [.int qc, .int (iZ (np : Int)), .ref ow, .ref om, .ref ok_, .ref oK, .ref og, .ref on_, .ref oh, .ref ox, .int (iZ (cn : Int)), .int qf, .ref op_, .int ql])), (ox, .inl (cI, 400, .inl ft))] H := hP.sub [0, 1] rfl
                have hD9 : va_D A [(mo, .inr (8, [.int qc, .int (iZ (np : Int)), .ref ow, .ref om, .ref ok_, .ref oK, .ref og, .ref on_, .ref oh, .ref ox, .int (iZ (cn : Int)), .int qf, .ref op_, .int ql])), (ox, .inl (cI, 400, .inl ft))] := hD.sub [0, 1] (by decide) rfl
                rw [hQ, ← hAe]
                refine r_i (v := (iZ (en : Int))) K (en : Int) hS d_Mo_wrong_85 ?_ (fun t ht hv => ?_)
                · exact ⟨rfl, ⟨to, Bto, Or.inr (Or.inr (Or.inr ⟨by omega, by omega, tc, en, Ben, Or.inl ⟨by omega, rfl⟩⟩))⟩, by omega⟩
                · exact ⟨by rw [ht]; exact hP9, va_K.moved hv hK, by rw [← hAe]; exact hD9⟩
          · refine lv_iload_n hx hb d_Mo_wrong_59 rfl (lv_at hl 0 rfl) ?_
            have hP9 : va_P D cls0 [(mo, .inr (8, [.int qc, .int (iZ (np : Int)), .ref ow, .ref om, .ref ok_, .ref oK, .ref og, .ref on_, .ref oh, .ref ox, .int (iZ (cn : Int)), .int qf, .ref op_, .int ql])), (ox, .inl (cI, 400, .inl ft))] H := hP.sub [0, 1] rfl
            have hD9 : va_D A [(mo, .inr (8, [.int qc, .int (iZ (np : Int)), .ref ow, .ref om, .ref ok_, .ref oK, .ref og, .ref on_, .ref oh, .ref ox, .int (iZ (cn : Int)), .int qf, .ref op_, .int ql])), (ox, .inl (cI, 400, .inl ft))] := hD.sub [0, 1] (by decide) rfl
            rw [hQ, ← hAe]
            refine r_i (v := (iZ (to : Int))) K (to : Int) hS d_Mo_wrong_60 ?_ (fun t ht hv => ?_)
            · rw [atT_in (show to < cn by omega)] at ex2 ex3
              exact ⟨rfl, ⟨to, Bto, Or.inr (Or.inr (Or.inl ⟨by omega, by omega, by omega, by omega, rfl⟩))⟩, by omega⟩
            · exact ⟨by rw [ht]; exact hP9, va_K.moved hv hK, by rw [← hAe]; exact hD9⟩
      · refine lv_iconst (v := iZ (-1)) hx hb d_Mo_wrong_37 (by decide +kernel) ?_
        have hP9 : va_P D cls0 [(mo, .inr (8, [.int qc, .int (iZ (np : Int)), .ref ow, .ref om, .ref ok_, .ref oK, .ref og, .ref on_, .ref oh, .ref ox, .int (iZ (cn : Int)), .int qf, .ref op_, .int ql])), (ox, .inl (cI, 400, .inl ft))] H := hP.sub [0, 1] rfl
        have hD9 : va_D A [(mo, .inr (8, [.int qc, .int (iZ (np : Int)), .ref ow, .ref om, .ref ok_, .ref oK, .ref og, .ref on_, .ref oh, .ref ox, .int (iZ (cn : Int)), .int qf, .ref op_, .int ql])), (ox, .inl (cI, 400, .inl ft))] := hD.sub [0, 1] (by decide) rfl
        rw [hQ, ← hAe]
        refine r_i (v := (iZ (-1))) K (-1) hS d_Mo_wrong_38 ?_ (fun t ht hv => ?_)
        · exact ⟨rfl, ⟨to, Bto, Or.inr (Or.inl ⟨by omega, by omega, rfl⟩)⟩, by omega⟩
        · exact ⟨by rw [ht]; exact hP9, va_K.moved hv hK, by rw [← hAe]; exact hD9⟩
    · refine lv_iload_n hx hb d_Mo_wrong_27 rfl (lv_at hl 0 rfl) ?_
      have hP9 : va_P D cls0 [(mo, .inr (8, [.int qc, .int (iZ (np : Int)), .ref ow, .ref om, .ref ok_, .ref oK, .ref og, .ref on_, .ref oh, .ref ox, .int (iZ (cn : Int)), .int qf, .ref op_, .int ql])), (ox, .inl (cI, 400, .inl ft))] H := hP.sub [0, 1] rfl
      have hD9 : va_D A [(mo, .inr (8, [.int qc, .int (iZ (np : Int)), .ref ow, .ref om, .ref ok_, .ref oK, .ref og, .ref on_, .ref oh, .ref ox, .int (iZ (cn : Int)), .int qf, .ref op_, .int ql])), (ox, .inl (cI, 400, .inl ft))] := hD.sub [0, 1] (by decide) rfl
      rw [hQ, ← hAe]
      refine r_i (v := (iZ (to : Int))) K (to : Int) hS d_Mo_wrong_28 ?_ (fun t ht hv => ?_)
      · exact ⟨rfl, ⟨to, Bto, Or.inl ⟨by omega, rfl⟩⟩, by omega⟩
      · exact ⟨by rw [ht]; exact hP9, va_K.moved hv hK, by rw [← hAe]; exact hD9⟩
