theorem rd_scale {g x y : Nat} (hg : 0 < g) : rdN (g * x) (g * y) = rdN x y ∧ rdD (g * x) (g * y) = rdD x y := by
  unfold rdN rdD
  rw [Nat.gcd_mul_left, Nat.mul_div_mul_left _ _ hg, Nat.mul_div_mul_left _ _ hg]
  exact ⟨rfl, rfl⟩
theorem dt_model {s t : Int} {N D P Q : Nat} (hQ : 0 < Q) : (s * ((N * Q : Nat) : Int) + t * ((P * D : Nat) : Int)).sign = (s * ((N * rdD P Q : Nat) : Int) + t * ((rdN P Q * D : Nat) : Int)).sign ∧
    rdN (s * ((N * Q : Nat) : Int) + t * ((P * D : Nat) : Int)).natAbs (D * Q) = rdN (s * ((N * rdD P Q : Nat) : Int) + t * ((rdN P Q * D : Nat) : Int)).natAbs (D * rdD P Q) ∧
    rdD (s * ((N * Q : Nat) : Int) + t * ((P * D : Nat) : Int)).natAbs (D * Q) = rdD (s * ((N * rdD P Q : Nat) : Int) + t * ((rdN P Q * D : Nat) : Int)).natAbs (D * rdD P Q) := by
  have hg : 0 < Nat.gcd P Q := Nat.gcd_pos_of_pos_right _ hQ
  have eP : P = Nat.gcd P Q * rdN P Q := dv_split (Nat.gcd_dvd_left P Q)
  have eQ : Q = Nat.gcd P Q * rdD P Q := dv_split (Nat.gcd_dvd_right P Q)
  have eS : s * ((N * Q : Nat) : Int) + t * ((P * D : Nat) : Int) = (Nat.gcd P Q : Int) * (s * ((N * rdD P Q : Nat) : Int) + t * ((rdN P Q * D : Nat) : Int)) := by
    have e1 : N * Q = Nat.gcd P Q * (N * rdD P Q) := by rw [Nat.mul_left_comm, ← eQ]
    have e2 : P * D = Nat.gcd P Q * (rdN P Q * D) := by rw [← Nat.mul_assoc, ← eP]
    rw [e1, e2, Int.mul_add, Int.natCast_mul (Nat.gcd P Q), Int.natCast_mul (Nat.gcd P Q), Int.mul_left_comm s, Int.mul_left_comm t]
  have eD : D * Q = Nat.gcd P Q * (D * rdD P Q) := by rw [Nat.mul_left_comm, ← eQ]
  rw [eS, eD, Int.natAbs_mul, Int.natAbs_natCast]
  exact ⟨(sg_mul_pos hg).symm, rd_scale hg⟩
set_option maxHeartbeats 4000000 in
set_option maxRecDepth 100000 in
/-- dot(to, a, b, n) -/
theorem c_Mo_dot (l : Launch) (D : va_G) (mo : Nat) (qc : Int32) (np : Nat) (ow : Nat) (om : Nat) (ok_ : Nat) (oK : Nat) (og : Nat) (on_ : Nat) (oh : Nat) (ox : Nat) (qn : Int32) (qf : Int32) (op_ : Nat) (ql : Int32) (fw : Nat → Int32) (fm : Nat → Int32) (cI : ClassId) (fh : Nat → Int32) (fk : Nat → Int32) (fK : Nat → Int32) (fs : Nat → Int32) (fn : Nat → Int32) (val : Nat → Nat) (tv : Nat → Nat) (bv : Nat → Nat) (sg : Nat → Int) (to : Nat) (a : Nat) (b_ : Nat) (ct : Nat) (sz : Nat) (hW : WB fw fm val) (hMR : MoR fk fK fs fn tv bv sg) (hnd : ndS tv bv 32 ≤ np) (hnp : np ≤ 1024) (J : RgC tv bv sg) (hbv : ∀ r, r < 32 → 0 < bv r) (t1 : to < 32) (t2 : a + ct ≤ 32) (t3_ : b_ + ct ≤ 32) (t4_ : a < 32) (t5_ : b_ < 32) (hfit : ndS tv bv 32 + (lm ((dtS tv bv sg a b_ ct).2.1) + lm ((dtS tv bv sg a b_ ct).2.2)) ≤ np + (lm (tv to) + lm (bv to))) : Met l y_Mo_dot (wsB y_Mo_dot b_Mo_dot 8 (some .int)) ({ frames := 4, cells := 0, slots := 0, locals := 102 }) (va_Pc [.ref mo, .int (iZ (to : Int)), .int (iZ (a : Int)), .int (iZ (b_ : Int)), .int (iZ (ct : Int))] (wPre D [(cI, .int)] [(mo, .inr (8, [.int qc, .int (iZ (np : Int)), .ref ow, .ref om, .ref ok_, .ref oK, .ref og, .ref on_, .ref oh, .ref ox, .int qn, .int qf, .ref op_, .int ql])), (ow, .inl (cI, 108000, .inl fw)), (om, .inl (cI, 9, .inl fm)), (oh, .inl (cI, 10000, .inl fh)), (ok_, .inl (cI, 166400, .inl fk)), (oK, .inl (cI, 64, .inl fK)), (og, .inl (cI, 32, .inl fs)), (on_, .inl (cI, 32, .inl fn))] sz)) (va_QV (fun (v_9 : Option Value) (u_9 : (Nat → Int32) × (Nat → Int32) × (Nat → Int32) × (Nat → Int32) × (Nat → Int32) × (Nat → Int32) × (Nat → Int32) × (Nat → Nat)) => v_9 = some (.int (iZ ((lm ((dtS tv bv sg a b_ ct).2.1) : Int) + (lm ((dtS tv bv sg a b_ ct).2.2) : Int)))) ∧ (WB u_9.1 u_9.2.1 u_9.2.2.2.2.2.2.2) ∧ (MoR u_9.2.2.2.1 u_9.2.2.2.2.1 u_9.2.2.2.2.2.1 u_9.2.2.2.2.2.2.1 (up tv to ((dtS tv bv sg a b_ ct).2.1)) (up bv to ((dtS tv bv sg a b_ ct).2.2)) (up sg to (if (dtS tv bv sg a b_ ct).2.1 = 0 then 0 else (dtS tv bv sg a b_ ct).1)))) (fun u_9 => wPost D [(cI, .int)] [(mo, .inr (8, [.int qc, .int (iZ (np : Int)), .ref ow, .ref om, .ref ok_, .ref oK, .ref og, .ref on_, .ref oh, .ref ox, .int qn, .int qf, .ref op_, .int ql])), (ow, .inl (cI, 108000, .inl fw)), (om, .inl (cI, 9, .inl fm)), (oh, .inl (cI, 10000, .inl fh)), (ok_, .inl (cI, 166400, .inl fk)), (oK, .inl (cI, 64, .inl fK)), (og, .inl (cI, 32, .inl fs)), (on_, .inl (cI, 32, .inl fn))] [(mo, .inr (8, [.int (iZ 0), .int (iZ (np : Int)), .ref ow, .ref om, .ref ok_, .ref oK, .ref og, .ref on_, .ref oh, .ref ox, .int qn, .int qf, .ref op_, .int ql])), (ow, .inl (cI, 108000, .inl u_9.1)), (om, .inl (cI, 9, .inl u_9.2.1)), (oh, .inl (cI, 10000, .inl u_9.2.2.1)), (ok_, .inl (cI, 166400, .inl u_9.2.2.2.1)), (oK, .inl (cI, 64, .inl u_9.2.2.2.2.1)), (og, .inl (cI, 32, .inl u_9.2.2.2.2.2.1)), (on_, .inl (cI, 32, .inl u_9.2.2.2.2.2.2.1))] sz) (va_A [(mo, .inr (8, [.int qc, .int (iZ (np : Int)), .ref ow, .ref om, .ref ok_, .ref oK, .ref og, .ref on_, .ref oh, .ref ox, .int qn, .int qf, .ref op_, .int ql])), (ow, .inl (cI, 108000, .inl fw)), (om, .inl (cI, 9, .inl fm)), (oh, .inl (cI, 10000, .inl fh)), (ok_, .inl (cI, 166400, .inl fk)), (oK, .inl (cI, 64, .inl fK)), (og, .inl (cI, 32, .inl fs)), (on_, .inl (cI, 32, .inl fn))] sz)) 0 0 (va_A [(mo, .inr (8, [.int qc, .int (iZ (np : Int)), .ref ow, .ref om, .ref ok_, .ref oK, .ref og, .ref on_, .ref oh, .ref ox, .int qn, .int qf, .ref op_, .int ql])), (ow, .inl (cI, 108000, .inl fw)), (om, .inl (cI, 9, .inl fm)), (oh, .inl (cI, 10000, .inl fh)), (ok_, .inl (cI, 166400, .inl fk)), (oK, .inl (cI, 64, .inl fK)), (og, .inl (cI, 32, .inl fs)), (on_, .inl (cI, 32, .inl fn))] sz) := by
  refine met_enter (by decide +kernel) (Nat.le_of_ble_eq_true rfl) ?_
  intro p e s m args below meth c ls A R Q H locs K hin hAe hA hR hQ hP hK hD hS hl
  obtain ⟨hx, hb, hml, hrt, hlk, hts, hown, hno⟩ := id K
  have hl : lv_has ls 8 [(0, .ref mo), (1, .int (iZ (to : Int))), (2, .int (iZ (a : Int))), (3, .int (iZ (b_ : Int))), (4, .int (iZ (ct : Int)))] := hl
  have hlr : ∀ q, q < 32 → lm (tv q) + lm (bv q) ≤ 1024 := fun q hq => by have z := ndS_le (tv := tv) (bv := bv) hq; omega
  have hnt : ∀ q, q < 32 → nd (tv q) ≤ 2600 := fun q hq => by have z := nd_lm (v := tv q) (L := 1024) (by have y := hlr q hq; omega); omega
  have hnb : ∀ q, q < 32 → nd (bv q) ≤ 2600 := fun q hq => by have z := nd_lm (v := bv q) (L := 1024) (by have y := hlr q hq; omega); omega
  have L97 : ∀ (N : Nat) (k : Nat) (sn : Int) (fx : Nat → Int32) (fy : Nat → Int32) (vl : Nat → Nat) (H : Heap) (locs : List Loc) (ls : Array Slot), ct - k < N → (k ≤ ct) → (WB fx fy vl) → (vl 0 = (dtS tv bv sg a b_ k).2.1) → (vl 1 = (dtS tv bv sg a b_ k).2.2) → (sn = (dtS tv bv sg a b_ k).1) → va_P D cls0 [(mo, .inr (8, [.int (iZ 0), .int (iZ (np : Int)), .ref ow, .ref om, .ref ok_, .ref oK, .ref og, .ref on_, .ref oh, .ref ox, .int qn, .int qf, .ref op_, .int ql])), (ow, .inl (cI, 108000, .inl fx)), (om, .inl (cI, 9, .inl fy)), (oh, .inl (cI, 10000, .inl fh)), (ok_, .inl (cI, 166400, .inl fk)), (oK, .inl (cI, 64, .inl fK)), (og, .inl (cI, 32, .inl fs)), (on_, .inl (cI, 32, .inl fn))] H → va_D A [(mo, .inr (8, [.int (iZ 0), .int (iZ (np : Int)), .ref ow, .ref om, .ref ok_, .ref oK, .ref og, .ref on_, .ref oh, .ref ox, .int qn, .int qf, .ref op_, .int ql])), (ow, .inl (cI, 108000, .inl fx)), (om, .inl (cI, 9, .inl fy)), (oh, .inl (cI, 10000, .inl fh)), (ok_, .inl (cI, 166400, .inl fk)), (oK, .inl (cI, 64, .inl fK)), (og, .inl (cI, 32, .inl fs)), (on_, .inl (cI, 32, .inl fn))] → va_S A s.heap H locs → lv_has ls 8 [(0, .ref mo), (1, .int (iZ (to : Int))), (2, .int (iZ (a : Int))), (3, .int (iZ (b_ : Int))), (4, .int (iZ (ct : Int))), (6, .int (iZ sn)), (7, .int (iZ (k : Int)))] → W p l e R s m args below meth c H locs 0 0 Q (F0 m 97 ls []) := by
    intro N
    induction N with
    | zero => intro k sn fx fy vl H locs ls hN; exact absurd hN (Nat.not_lt_zero _)
    | succ N ih =>
      intro k sn fx fy vl H locs ls hN ik iW i0 i1 isn hP hD hS hl
      refine lv_iload hx hb d_Mo_dot_97 (lv_at hl 6 rfl) ?_
      refine lv_iload hx hb d_Mo_dot_99 (lv_at hl 4 rfl) ?_
      refine zz_icmp_ge (tgt := 203) hx hb d_Mo_dot_101 (by decide) (by omega) (by omega) (fun c101 => ?_) (fun c101 => ?_)
      · have ek : k = ct := by omega
        subst ek
        obtain ⟨c1, c2, c3, c4, c5⟩ := dt_inv J hbv (a := a) (b := b_) k (by omega) (by omega)
        have ns1 := nsum_le tv bv (a := a) (k := k) (by omega)
        have ns2 := nsum_le tv bv (a := b_) (k := k) (by omega)
        have lN : lm (dtS tv bv sg a b_ k).2.1 ≤ nsum tv bv a k + nsum tv bv b_ k := lm_le.mpr (by omega)
        have lD : lm (dtS tv bv sg a b_ k).2.2 ≤ nsum tv bv a k + nsum tv bv b_ k + 1 := lm_le.mpr (by rw [pB_s]; omega)
        rw [← isn] at c4
        refine lv_aload_n hx hb d_Mo_dot_203 rfl (lv_at hl 0 rfl) ?_
        refine lv_iload_n hx hb d_Mo_dot_204 rfl (lv_at hl 1 rfl) ?_
        refine lv_iload hx hb d_Mo_dot_205 (lv_at hl 5 rfl) ?_
        refine lv_iconst (v := iZ (3)) hx hb d_Mo_dot_207 (by decide +kernel) ?_
        refine cv (n := 3) (wr := []) (w1 := (fun (u : (Nat → Int32) × (Nat → Int32) × (Nat → Int32) × (Nat → Int32) × (Nat → Int32) × (Nat → Int32) × (Nat → Int32) × (Nat → Nat)) => [(mo, .inr (8, [.int (iZ 0), .int (iZ (np : Int)), .ref ow, .ref om, .ref ok_, .ref oK, .ref og, .ref on_, .ref oh, .ref ox, .int qn, .int qf, .ref op_, .int ql])), (ow, .inl (cI, 108000, .inl u.1)), (om, .inl (cI, 9, .inl u.2.1)), (oh, .inl (cI, 10000, .inl u.2.2.1)), (ok_, .inl (cI, 166400, .inl u.2.2.2.1)), (oK, .inl (cI, 64, .inl u.2.2.2.2.1)), (og, .inl (cI, 32, .inl u.2.2.2.2.2.1)), (on_, .inl (cI, 32, .inl u.2.2.2.2.2.2.1))])) (As := [.int (iZ (to : Int)), .int (iZ sn), .int (iZ 3)]) (rest := []) K hP hD hK hS hA hl.1 (c_Mo_store l D mo (iZ 0) np ow om ok_ oK og on_ oh ox qn qf op_ ql fx fy cI fh fk fK fs fn vl tv bv sg to sn 3 H.size iW hMR (by omega) hnd hnp (by omega) (by decide) (by rw [i0]; omega) (by rw [i1]; omega) (by rw [i0, i1]; exact hfit)) [0, 1, 2, 3, 4, 5, 6, 7] [] [0] rfl rfl rfl (by decide) (by decide) (by decide) 0 rfl rfl (big_in mw_1215 rfl) (big_in mw_10 rfl) (big_in mw_1212 rfl) (big_in mw_1214 rfl) (big_in sp_27 rfl) rfl rfl (by decide +kernel) ⟨by rw [hR]; exact Nat.le_of_ble_eq_true rfl, by rw [hR]; exact Nat.le_of_ble_eq_true rfl⟩ rfl (Nat.le_of_ble_eq_true rfl) d_Mo_dot_208 ⟨by rw [hR]; exact Nat.le_of_ble_eq_true rfl, by rw [hR]; exact Nat.le_of_ble_eq_true rfl⟩ rfl (fun v u H locs hp1 hP hD hS _ => ?_)
        obtain ⟨fa, fb, fc, fd, fe, ff, fg, v9⟩ := u
        try dsimp only at hp1
        obtain ⟨rfl, w9, q9⟩ := hp1
        have hP : va_P D cls0 [(mo, .inr (8, [.int (iZ 0), .int (iZ (np : Int)), .ref ow, .ref om, .ref ok_, .ref oK, .ref og, .ref on_, .ref oh, .ref ox, .int qn, .int qf, .ref op_, .int ql])), (ow, .inl (cI, 108000, .inl fa)), (om, .inl (cI, 9, .inl fb)), (oh, .inl (cI, 10000, .inl fc)), (ok_, .inl (cI, 166400, .inl fd)), (oK, .inl (cI, 64, .inl fe)), (og, .inl (cI, 32, .inl ff)), (on_, .inl (cI, 32, .inl fg))] H := hP
        have hD : va_D A [(mo, .inr (8, [.int (iZ 0), .int (iZ (np : Int)), .ref ow, .ref om, .ref ok_, .ref oK, .ref og, .ref on_, .ref oh, .ref ox, .int qn, .int qf, .ref op_, .int ql])), (ow, .inl (cI, 108000, .inl fa)), (om, .inl (cI, 9, .inl fb)), (oh, .inl (cI, 10000, .inl fc)), (ok_, .inl (cI, 166400, .inl fd)), (oK, .inl (cI, 64, .inl fe)), (og, .inl (cI, 32, .inl ff)), (on_, .inl (cI, 32, .inl fg))] := hD
        show W p l e R s m args below meth c H locs _ _ Q (F0 m 211 ls [.int (iZ ((lm (vl 0) : Int) + (lm (vl 1) : Int)))])
        rw [i0, i1]
        rw [i0, i1] at q9
        have hP9 : va_P D cls0 [(mo, .inr (8, [.int (iZ 0), .int (iZ (np : Int)), .ref ow, .ref om, .ref ok_, .ref oK, .ref og, .ref on_, .ref oh, .ref ox, .int qn, .int qf, .ref op_, .int ql])), (ow, .inl (cI, 108000, .inl fa)), (om, .inl (cI, 9, .inl fb)), (oh, .inl (cI, 10000, .inl fc)), (ok_, .inl (cI, 166400, .inl fd)), (oK, .inl (cI, 64, .inl fe)), (og, .inl (cI, 32, .inl ff)), (on_, .inl (cI, 32, .inl fg))] H := hP.sub [0, 1, 2, 3, 4, 5, 6, 7] rfl
        have hD9 : va_D A [(mo, .inr (8, [.int (iZ 0), .int (iZ (np : Int)), .ref ow, .ref om, .ref ok_, .ref oK, .ref og, .ref on_, .ref oh, .ref ox, .int qn, .int qf, .ref op_, .int ql])), (ow, .inl (cI, 108000, .inl fa)), (om, .inl (cI, 9, .inl fb)), (oh, .inl (cI, 10000, .inl fc)), (ok_, .inl (cI, 166400, .inl fd)), (oK, .inl (cI, 64, .inl fe)), (og, .inl (cI, 32, .inl ff)), (on_, .inl (cI, 32, .inl fg))] := hD.sub [0, 1, 2, 3, 4, 5, 6, 7] (by decide) rfl
        rw [hQ, ← hAe]
        refine r_i (v := (iZ ((lm ((dtS tv bv sg a b_ k).2.1) : Int) + (lm ((dtS tv bv sg a b_ k).2.2) : Int)))) K (fa, fb, fc, fd, fe, ff, fg, v9) hS d_Mo_dot_211 ?_ (fun t ht hv => ?_)
        · try dsimp only
          refine ⟨rfl, w9, ?_⟩
          rw [← isn]
          exact q9
        · exact ⟨by rw [ht]; exact hP9, va_K.moved hv hK, by rw [← hAe]; exact hD9⟩
      · have ka : a + k < 32 := by omega
        have kb_ : b_ + k < 32 := by omega
        obtain ⟨ja1, ja2, ja3⟩ := J (a + k) ka
        obtain ⟨jb1, jb2, jb3⟩ := J (b_ + k) kb_
        have pa := hbv (a + k) ka
        have pb := hbv (b_ + k) kb_
        have n1 := hnt (a + k) ka
        have n2 := hnb (a + k) ka
        have n3 := hnt (b_ + k) kb_
        have n4 := hnb (b_ + k) kb_
        obtain ⟨c1, c2, c3, c4, c5⟩ := dt_inv J hbv (a := a) (b := b_) k (by omega) (by omega)
        rw [← isn] at c3 c4
        obtain ⟨sg1, sg2⟩ := sg_prod ja3 jb3 ja2 jb2
        have ns1 := nsum_le tv bv (a := a) (k := k) (by omega)
        have ns2 := nsum_le tv bv (a := b_) (k := k) (by omega)
        have lN : lm (dtS tv bv sg a b_ k).2.1 ≤ nsum tv bv a k + nsum tv bv b_ k := lm_le.mpr (by omega)
        have lD : lm (dtS tv bv sg a b_ k).2.2 ≤ nsum tv bv a k + nsum tv bv b_ k + 1 := lm_le.mpr (by rw [pB_s]; omega)
        have dN := nd_lm (v := (dtS tv bv sg a b_ k).2.1) (L := 2049) (by omega)
        have dD := nd_lm (v := (dtS tv bv sg a b_ k).2.2) (L := 2049) (by omega)
        refine lv_aload_n hx hb d_Mo_dot_104 rfl (lv_at hl 0 rfl) ?_
        refine lv_iconst (v := iZ (4)) hx hb d_Mo_dot_105 (by decide +kernel) ?_
        refine lv_iconst (v := iZ (2)) hx hb d_Mo_dot_106 (by decide +kernel) ?_
        refine lv_iload_n hx hb d_Mo_dot_107 rfl (lv_at hl 2 rfl) ?_
        refine lv_iload hx hb d_Mo_dot_108 (lv_at hl 6 rfl) ?_
        refine zz_iadd hx hb d_Mo_dot_110 ?_
        refine zz_imul hx hb d_Mo_dot_111 ?_
        rw [show (2 * ((a : Int) + (k : Int)) : Int) = ((2 * (a + k) : Nat) : Int) by omega]
        refine cv (n := 2) (wr := [(oh, .inl (cI, 10000, .inl fh)), (og, .inl (cI, 32, .inl fs)), (on_, .inl (cI, 32, .inl fn))]) (w1 := (fun (u : (Nat → Int32) × (Nat → Int32)) => [(mo, .inr (8, [.int (iZ 0), .int (iZ (np : Int)), .ref ow, .ref om, .ref ok_, .ref oK, .ref og, .ref on_, .ref oh, .ref ox, .int qn, .int qf, .ref op_, .int ql])), (ow, .inl (cI, 108000, .inl u.1)), (om, .inl (cI, 9, .inl u.2)), (ok_, .inl (cI, 166400, .inl fk)), (oK, .inl (cI, 64, .inl fK))])) (As := [.int (iZ 4), .int (iZ ((2 * (a + k) : Nat) : Int))]) (rest := []) K hP hD hK hS hA hl.1 (c_Mo_load l D mo (iZ 0) np ow om ok_ oK og on_ oh ox qn qf op_ ql fx fy cI fk fK vl (kvf tv bv) 4 (2 * (a + k)) H.size iW hMR.1 (by decide) (by omega)) [0, 1, 2, 4, 5] [3, 6, 7] [0] rfl rfl rfl (by decide) (by decide) (by decide) 0 rfl rfl (big_in mw_1238 rfl) (big_in mw_10 rfl) (big_in mw_1235 rfl) (big_in mw_1237 rfl) (big_in sp_31 rfl) rfl rfl (by decide +kernel) ⟨by rw [hR]; exact Nat.le_of_ble_eq_true rfl, by rw [hR]; exact Nat.le_of_ble_eq_true rfl⟩ rfl (Nat.le_of_ble_eq_true rfl) d_Mo_dot_112 ⟨by rw [hR]; exact Nat.le_of_ble_eq_true rfl, by rw [hR]; exact Nat.le_of_ble_eq_true rfl⟩ rfl (fun v u H locs hp2 hP hD hS _ => ?_)
        obtain ⟨fx1, fy1⟩ := u
        try dsimp only at hp2
        obtain ⟨rfl, w1⟩ := hp2
        have hP : va_P D cls0 [(oh, .inl (cI, 10000, .inl fh)), (og, .inl (cI, 32, .inl fs)), (on_, .inl (cI, 32, .inl fn)), (mo, .inr (8, [.int (iZ 0), .int (iZ (np : Int)), .ref ow, .ref om, .ref ok_, .ref oK, .ref og, .ref on_, .ref oh, .ref ox, .int qn, .int qf, .ref op_, .int ql])), (ow, .inl (cI, 108000, .inl fx1)), (om, .inl (cI, 9, .inl fy1)), (ok_, .inl (cI, 166400, .inl fk)), (oK, .inl (cI, 64, .inl fK))] H := hP
        have hD : va_D A [(oh, .inl (cI, 10000, .inl fh)), (og, .inl (cI, 32, .inl fs)), (on_, .inl (cI, 32, .inl fn)), (mo, .inr (8, [.int (iZ 0), .int (iZ (np : Int)), .ref ow, .ref om, .ref ok_, .ref oK, .ref og, .ref on_, .ref oh, .ref ox, .int qn, .int qf, .ref op_, .int ql])), (ow, .inl (cI, 108000, .inl fx1)), (om, .inl (cI, 9, .inl fy1)), (ok_, .inl (cI, 166400, .inl fk)), (oK, .inl (cI, 64, .inl fK))] := hD
        show W p l e R s m args below meth c H locs _ _ Q (F0 m 115 ls [])
        rw [kvf_0] at w1
        obtain ⟨v1, hv1⟩ : ∃ z, z = up vl 4 (tv (a + k)) := ⟨_, rfl⟩
        rw [← hv1] at w1
        refine lv_aload_n hx hb d_Mo_dot_115 rfl (lv_at hl 0 rfl) ?_
        refine lv_iconst (v := iZ (5)) hx hb d_Mo_dot_116 (by decide +kernel) ?_
        refine lv_iconst (v := iZ (2)) hx hb d_Mo_dot_117 (by decide +kernel) ?_
        refine lv_iload_n hx hb d_Mo_dot_118 rfl (lv_at hl 3 rfl) ?_
        refine lv_iload hx hb d_Mo_dot_119 (lv_at hl 6 rfl) ?_
        refine zz_iadd hx hb d_Mo_dot_121 ?_
        refine zz_imul hx hb d_Mo_dot_122 ?_
        rw [show (2 * ((b_ : Int) + (k : Int)) : Int) = ((2 * (b_ + k) : Nat) : Int) by omega]
        refine cv (n := 2) (wr := [(oh, .inl (cI, 10000, .inl fh)), (og, .inl (cI, 32, .inl fs)), (on_, .inl (cI, 32, .inl fn))]) (w1 := (fun (u : (Nat → Int32) × (Nat → Int32)) => [(mo, .inr (8, [.int (iZ 0), .int (iZ (np : Int)), .ref ow, .ref om, .ref ok_, .ref oK, .ref og, .ref on_, .ref oh, .ref ox, .int qn, .int qf, .ref op_, .int ql])), (ow, .inl (cI, 108000, .inl u.1)), (om, .inl (cI, 9, .inl u.2)), (ok_, .inl (cI, 166400, .inl fk)), (oK, .inl (cI, 64, .inl fK))])) (As := [.int (iZ 5), .int (iZ ((2 * (b_ + k) : Nat) : Int))]) (rest := []) K hP hD hK hS hA hl.1 (c_Mo_load l D mo (iZ 0) np ow om ok_ oK og on_ oh ox qn qf op_ ql fx1 fy1 cI fk fK v1 (kvf tv bv) 5 (2 * (b_ + k)) H.size w1 hMR.1 (by decide) (by omega)) [3, 4, 5, 6, 7] [0, 1, 2] [0] rfl rfl rfl (by decide) (by decide) (by decide) 0 rfl rfl (big_in mw_1238 rfl) (big_in mw_10 rfl) (big_in mw_1235 rfl) (big_in mw_1237 rfl) (big_in sp_31 rfl) rfl rfl (by decide +kernel) ⟨by rw [hR]; exact Nat.le_of_ble_eq_true rfl, by rw [hR]; exact Nat.le_of_ble_eq_true rfl⟩ rfl (Nat.le_of_ble_eq_true rfl) d_Mo_dot_123 ⟨by rw [hR]; exact Nat.le_of_ble_eq_true rfl, by rw [hR]; exact Nat.le_of_ble_eq_true rfl⟩ rfl (fun v u H locs hp3 hP hD hS _ => ?_)
        obtain ⟨fx2, fy2⟩ := u
        try dsimp only at hp3
        obtain ⟨rfl, w2⟩ := hp3
        have hP : va_P D cls0 [(oh, .inl (cI, 10000, .inl fh)), (og, .inl (cI, 32, .inl fs)), (on_, .inl (cI, 32, .inl fn)), (mo, .inr (8, [.int (iZ 0), .int (iZ (np : Int)), .ref ow, .ref om, .ref ok_, .ref oK, .ref og, .ref on_, .ref oh, .ref ox, .int qn, .int qf, .ref op_, .int ql])), (ow, .inl (cI, 108000, .inl fx2)), (om, .inl (cI, 9, .inl fy2)), (ok_, .inl (cI, 166400, .inl fk)), (oK, .inl (cI, 64, .inl fK))] H := hP
        have hD : va_D A [(oh, .inl (cI, 10000, .inl fh)), (og, .inl (cI, 32, .inl fs)), (on_, .inl (cI, 32, .inl fn)), (mo, .inr (8, [.int (iZ 0), .int (iZ (np : Int)), .ref ow, .ref om, .ref ok_, .ref oK, .ref og, .ref on_, .ref oh, .ref ox, .int qn, .int qf, .ref op_, .int ql])), (ow, .inl (cI, 108000, .inl fx2)), (om, .inl (cI, 9, .inl fy2)), (ok_, .inl (cI, 166400, .inl fk)), (oK, .inl (cI, 64, .inl fK))] := hD
        show W p l e R s m args below meth c H locs _ _ Q (F0 m 126 ls [])
        rw [kvf_0] at w2
        obtain ⟨v2, hv2⟩ : ∃ z, z = up v1 5 (tv (b_ + k)) := ⟨_, rfl⟩
        rw [← hv2] at w2
        have y24 : v2 4 = tv (a + k) := by simp [hv2, hv1, up]
        have y25 : v2 5 = tv (b_ + k) := by simp [hv2, hv1, up]
        refine lv_aload_n hx hb d_Mo_dot_126 rfl (lv_at hl 0 rfl) ?_
        refine lv_iconst (v := iZ (2)) hx hb d_Mo_dot_127 (by decide +kernel) ?_
        refine lv_iconst (v := iZ (4)) hx hb d_Mo_dot_128 (by decide +kernel) ?_
        refine lv_iconst (v := iZ (5)) hx hb d_Mo_dot_129 (by decide +kernel) ?_
        refine cv (n := 3) (wr := [(oh, .inl (cI, 10000, .inl fh)), (og, .inl (cI, 32, .inl fs)), (on_, .inl (cI, 32, .inl fn)), (ok_, .inl (cI, 166400, .inl fk)), (oK, .inl (cI, 64, .inl fK))]) (w1 := (fun (u : (Nat → Int32) × (Nat → Int32)) => [(mo, .inr (8, [.int (iZ 0), .int (iZ (np : Int)), .ref ow, .ref om, .ref ok_, .ref oK, .ref og, .ref on_, .ref oh, .ref ox, .int qn, .int qf, .ref op_, .int ql])), (ow, .inl (cI, 108000, .inl u.1)), (om, .inl (cI, 9, .inl u.2))])) (As := [.int (iZ 2), .int (iZ 4), .int (iZ 5)]) (rest := []) K hP hD hK hS hA hl.1 (c_Mo_product l D mo (iZ 0) np ow om ok_ oK og on_ oh ox qn qf op_ ql fx2 fy2 cI v2 2 4 5 H.size w2 (by decide) (by decide) (by decide) (by decide) (by decide) (by rw [y24, y25]; omega)) [3, 4, 5] [0, 1, 2, 6, 7] [0] rfl rfl rfl (by decide) (by decide) (by decide) 0 rfl rfl (big_in mw_1258 rfl) (big_in mw_10 rfl) (big_in mw_1255 rfl) (big_in mw_1257 rfl) (big_in sp_34 rfl) rfl rfl (by decide +kernel) ⟨by rw [hR]; exact Nat.le_of_ble_eq_true rfl, by rw [hR]; exact Nat.le_of_ble_eq_true rfl⟩ rfl (Nat.le_of_ble_eq_true rfl) d_Mo_dot_130 ⟨by rw [hR]; exact Nat.le_of_ble_eq_true rfl, by rw [hR]; exact Nat.le_of_ble_eq_true rfl⟩ rfl (fun v u H locs hp4 hP hD hS _ => ?_)
        obtain ⟨fx3, fy3⟩ := u
        try dsimp only at hp4
        obtain ⟨rfl, w3⟩ := hp4
        have hP : va_P D cls0 [(oh, .inl (cI, 10000, .inl fh)), (og, .inl (cI, 32, .inl fs)), (on_, .inl (cI, 32, .inl fn)), (ok_, .inl (cI, 166400, .inl fk)), (oK, .inl (cI, 64, .inl fK)), (mo, .inr (8, [.int (iZ 0), .int (iZ (np : Int)), .ref ow, .ref om, .ref ok_, .ref oK, .ref og, .ref on_, .ref oh, .ref ox, .int qn, .int qf, .ref op_, .int ql])), (ow, .inl (cI, 108000, .inl fx3)), (om, .inl (cI, 9, .inl fy3))] H := hP
        have hD : va_D A [(oh, .inl (cI, 10000, .inl fh)), (og, .inl (cI, 32, .inl fs)), (on_, .inl (cI, 32, .inl fn)), (ok_, .inl (cI, 166400, .inl fk)), (oK, .inl (cI, 64, .inl fK)), (mo, .inr (8, [.int (iZ 0), .int (iZ (np : Int)), .ref ow, .ref om, .ref ok_, .ref oK, .ref og, .ref on_, .ref oh, .ref ox, .int qn, .int qf, .ref op_, .int ql])), (ow, .inl (cI, 108000, .inl fx3)), (om, .inl (cI, 9, .inl fy3))] := hD
        show W p l e R s m args below meth c H locs _ _ Q (F0 m 133 ls [])
        obtain ⟨v3, hv3⟩ : ∃ z, z = up v2 2 (v2 4 * v2 5) := ⟨_, rfl⟩
        rw [← hv3] at w3
        have y32 : v3 2 = tv (a + k) * tv (b_ + k) := by rw [hv3, up_s, y24, y25]
        refine lv_aload_n hx hb d_Mo_dot_133 rfl (lv_at hl 0 rfl) ?_
        refine lv_iconst (v := iZ (4)) hx hb d_Mo_dot_134 (by decide +kernel) ?_
        refine lv_iconst (v := iZ (2)) hx hb d_Mo_dot_135 (by decide +kernel) ?_
        refine lv_iload_n hx hb d_Mo_dot_136 rfl (lv_at hl 2 rfl) ?_
        refine lv_iload hx hb d_Mo_dot_137 (lv_at hl 6 rfl) ?_
        refine zz_iadd hx hb d_Mo_dot_139 ?_
        refine zz_imul hx hb d_Mo_dot_140 ?_
        refine lv_iconst (v := iZ (1)) hx hb d_Mo_dot_141 (by decide +kernel) ?_
        refine zz_iadd hx hb d_Mo_dot_142 ?_
        rw [show (2 * ((a : Int) + (k : Int)) + 1 : Int) = ((2 * (a + k) + 1 : Nat) : Int) by omega]
        refine cv (n := 2) (wr := [(oh, .inl (cI, 10000, .inl fh)), (og, .inl (cI, 32, .inl fs)), (on_, .inl (cI, 32, .inl fn))]) (w1 := (fun (u : (Nat → Int32) × (Nat → Int32)) => [(mo, .inr (8, [.int (iZ 0), .int (iZ (np : Int)), .ref ow, .ref om, .ref ok_, .ref oK, .ref og, .ref on_, .ref oh, .ref ox, .int qn, .int qf, .ref op_, .int ql])), (ow, .inl (cI, 108000, .inl u.1)), (om, .inl (cI, 9, .inl u.2)), (ok_, .inl (cI, 166400, .inl fk)), (oK, .inl (cI, 64, .inl fK))])) (As := [.int (iZ 4), .int (iZ ((2 * (a + k) + 1 : Nat) : Int))]) (rest := []) K hP hD hK hS hA hl.1 (c_Mo_load l D mo (iZ 0) np ow om ok_ oK og on_ oh ox qn qf op_ ql fx3 fy3 cI fk fK v3 (kvf tv bv) 4 (2 * (a + k) + 1) H.size w3 hMR.1 (by decide) (by omega)) [5, 6, 7, 3, 4] [0, 1, 2] [0] rfl rfl rfl (by decide) (by decide) (by decide) 0 rfl rfl (big_in mw_1238 rfl) (big_in mw_10 rfl) (big_in mw_1235 rfl) (big_in mw_1237 rfl) (big_in sp_31 rfl) rfl rfl (by decide +kernel) ⟨by rw [hR]; exact Nat.le_of_ble_eq_true rfl, by rw [hR]; exact Nat.le_of_ble_eq_true rfl⟩ rfl (Nat.le_of_ble_eq_true rfl) d_Mo_dot_143 ⟨by rw [hR]; exact Nat.le_of_ble_eq_true rfl, by rw [hR]; exact Nat.le_of_ble_eq_true rfl⟩ rfl (fun v u H locs hp5 hP hD hS _ => ?_)
        obtain ⟨fx4, fy4⟩ := u
        try dsimp only at hp5
        obtain ⟨rfl, w4⟩ := hp5
        have hP : va_P D cls0 [(oh, .inl (cI, 10000, .inl fh)), (og, .inl (cI, 32, .inl fs)), (on_, .inl (cI, 32, .inl fn)), (mo, .inr (8, [.int (iZ 0), .int (iZ (np : Int)), .ref ow, .ref om, .ref ok_, .ref oK, .ref og, .ref on_, .ref oh, .ref ox, .int qn, .int qf, .ref op_, .int ql])), (ow, .inl (cI, 108000, .inl fx4)), (om, .inl (cI, 9, .inl fy4)), (ok_, .inl (cI, 166400, .inl fk)), (oK, .inl (cI, 64, .inl fK))] H := hP
        have hD : va_D A [(oh, .inl (cI, 10000, .inl fh)), (og, .inl (cI, 32, .inl fs)), (on_, .inl (cI, 32, .inl fn)), (mo, .inr (8, [.int (iZ 0), .int (iZ (np : Int)), .ref ow, .ref om, .ref ok_, .ref oK, .ref og, .ref on_, .ref oh, .ref ox, .int qn, .int qf, .ref op_, .int ql])), (ow, .inl (cI, 108000, .inl fx4)), (om, .inl (cI, 9, .inl fy4)), (ok_, .inl (cI, 166400, .inl fk)), (oK, .inl (cI, 64, .inl fK))] := hD
        show W p l e R s m args below meth c H locs _ _ Q (F0 m 146 ls [])
        rw [kvf_1] at w4
        obtain ⟨v4, hv4⟩ : ∃ z, z = up v3 4 (bv (a + k)) := ⟨_, rfl⟩
        rw [← hv4] at w4
        refine lv_aload_n hx hb d_Mo_dot_146 rfl (lv_at hl 0 rfl) ?_
        refine lv_iconst (v := iZ (5)) hx hb d_Mo_dot_147 (by decide +kernel) ?_
        refine lv_iconst (v := iZ (2)) hx hb d_Mo_dot_148 (by decide +kernel) ?_
        refine lv_iload_n hx hb d_Mo_dot_149 rfl (lv_at hl 3 rfl) ?_
        refine lv_iload hx hb d_Mo_dot_150 (lv_at hl 6 rfl) ?_
        refine zz_iadd hx hb d_Mo_dot_152 ?_
        refine zz_imul hx hb d_Mo_dot_153 ?_
        refine lv_iconst (v := iZ (1)) hx hb d_Mo_dot_154 (by decide +kernel) ?_
        refine zz_iadd hx hb d_Mo_dot_155 ?_
        rw [show (2 * ((b_ : Int) + (k : Int)) + 1 : Int) = ((2 * (b_ + k) + 1 : Nat) : Int) by omega]
        refine cv (n := 2) (wr := [(oh, .inl (cI, 10000, .inl fh)), (og, .inl (cI, 32, .inl fs)), (on_, .inl (cI, 32, .inl fn))]) (w1 := (fun (u : (Nat → Int32) × (Nat → Int32)) => [(mo, .inr (8, [.int (iZ 0), .int (iZ (np : Int)), .ref ow, .ref om, .ref ok_, .ref oK, .ref og, .ref on_, .ref oh, .ref ox, .int qn, .int qf, .ref op_, .int ql])), (ow, .inl (cI, 108000, .inl u.1)), (om, .inl (cI, 9, .inl u.2)), (ok_, .inl (cI, 166400, .inl fk)), (oK, .inl (cI, 64, .inl fK))])) (As := [.int (iZ 5), .int (iZ ((2 * (b_ + k) + 1 : Nat) : Int))]) (rest := []) K hP hD hK hS hA hl.1 (c_Mo_load l D mo (iZ 0) np ow om ok_ oK og on_ oh ox qn qf op_ ql fx4 fy4 cI fk fK v4 (kvf tv bv) 5 (2 * (b_ + k) + 1) H.size w4 hMR.1 (by decide) (by omega)) [3, 4, 5, 6, 7] [0, 1, 2] [0] rfl rfl rfl (by decide) (by decide) (by decide) 0 rfl rfl (big_in mw_1238 rfl) (big_in mw_10 rfl) (big_in mw_1235 rfl) (big_in mw_1237 rfl) (big_in sp_31 rfl) rfl rfl (by decide +kernel) ⟨by rw [hR]; exact Nat.le_of_ble_eq_true rfl, by rw [hR]; exact Nat.le_of_ble_eq_true rfl⟩ rfl (Nat.le_of_ble_eq_true rfl) d_Mo_dot_156 ⟨by rw [hR]; exact Nat.le_of_ble_eq_true rfl, by rw [hR]; exact Nat.le_of_ble_eq_true rfl⟩ rfl (fun v u H locs hp6 hP hD hS _ => ?_)
        obtain ⟨fx5, fy5⟩ := u
        try dsimp only at hp6
        obtain ⟨rfl, w5⟩ := hp6
        have hP : va_P D cls0 [(oh, .inl (cI, 10000, .inl fh)), (og, .inl (cI, 32, .inl fs)), (on_, .inl (cI, 32, .inl fn)), (mo, .inr (8, [.int (iZ 0), .int (iZ (np : Int)), .ref ow, .ref om, .ref ok_, .ref oK, .ref og, .ref on_, .ref oh, .ref ox, .int qn, .int qf, .ref op_, .int ql])), (ow, .inl (cI, 108000, .inl fx5)), (om, .inl (cI, 9, .inl fy5)), (ok_, .inl (cI, 166400, .inl fk)), (oK, .inl (cI, 64, .inl fK))] H := hP
        have hD : va_D A [(oh, .inl (cI, 10000, .inl fh)), (og, .inl (cI, 32, .inl fs)), (on_, .inl (cI, 32, .inl fn)), (mo, .inr (8, [.int (iZ 0), .int (iZ (np : Int)), .ref ow, .ref om, .ref ok_, .ref oK, .ref og, .ref on_, .ref oh, .ref ox, .int qn, .int qf, .ref op_, .int ql])), (ow, .inl (cI, 108000, .inl fx5)), (om, .inl (cI, 9, .inl fy5)), (ok_, .inl (cI, 166400, .inl fk)), (oK, .inl (cI, 64, .inl fK))] := hD
        show W p l e R s m args below meth c H locs _ _ Q (F0 m 159 ls [])
        rw [kvf_1] at w5
        obtain ⟨v5, hv5⟩ : ∃ z, z = up v4 5 (bv (b_ + k)) := ⟨_, rfl⟩
        rw [← hv5] at w5
        have y54 : v5 4 = bv (a + k) := by simp [hv5, hv4, up]
        have y55 : v5 5 = bv (b_ + k) := by simp [hv5, hv4, up]
        refine lv_aload_n hx hb d_Mo_dot_159 rfl (lv_at hl 0 rfl) ?_
        refine lv_iconst (v := iZ (3)) hx hb d_Mo_dot_160 (by decide +kernel) ?_
        refine lv_iconst (v := iZ (4)) hx hb d_Mo_dot_161 (by decide +kernel) ?_
        refine lv_iconst (v := iZ (5)) hx hb d_Mo_dot_162 (by decide +kernel) ?_
        refine cv (n := 3) (wr := [(oh, .inl (cI, 10000, .inl fh)), (og, .inl (cI, 32, .inl fs)), (on_, .inl (cI, 32, .inl fn)), (ok_, .inl (cI, 166400, .inl fk)), (oK, .inl (cI, 64, .inl fK))]) (w1 := (fun (u : (Nat → Int32) × (Nat → Int32)) => [(mo, .inr (8, [.int (iZ 0), .int (iZ (np : Int)), .ref ow, .ref om, .ref ok_, .ref oK, .ref og, .ref on_, .ref oh, .ref ox, .int qn, .int qf, .ref op_, .int ql])), (ow, .inl (cI, 108000, .inl u.1)), (om, .inl (cI, 9, .inl u.2))])) (As := [.int (iZ 3), .int (iZ 4), .int (iZ 5)]) (rest := []) K hP hD hK hS hA hl.1 (c_Mo_product l D mo (iZ 0) np ow om ok_ oK og on_ oh ox qn qf op_ ql fx5 fy5 cI v5 3 4 5 H.size w5 (by decide) (by decide) (by decide) (by decide) (by decide) (by rw [y54, y55]; omega)) [3, 4, 5] [0, 1, 2, 6, 7] [0] rfl rfl rfl (by decide) (by decide) (by decide) 0 rfl rfl (big_in mw_1258 rfl) (big_in mw_10 rfl) (big_in mw_1255 rfl) (big_in mw_1257 rfl) (big_in sp_34 rfl) rfl rfl (by decide +kernel) ⟨by rw [hR]; exact Nat.le_of_ble_eq_true rfl, by rw [hR]; exact Nat.le_of_ble_eq_true rfl⟩ rfl (Nat.le_of_ble_eq_true rfl) d_Mo_dot_163 ⟨by rw [hR]; exact Nat.le_of_ble_eq_true rfl, by rw [hR]; exact Nat.le_of_ble_eq_true rfl⟩ rfl (fun v u H locs hp7 hP hD hS _ => ?_)
        obtain ⟨fx6, fy6⟩ := u
        try dsimp only at hp7
        obtain ⟨rfl, w6⟩ := hp7
        have hP : va_P D cls0 [(oh, .inl (cI, 10000, .inl fh)), (og, .inl (cI, 32, .inl fs)), (on_, .inl (cI, 32, .inl fn)), (ok_, .inl (cI, 166400, .inl fk)), (oK, .inl (cI, 64, .inl fK)), (mo, .inr (8, [.int (iZ 0), .int (iZ (np : Int)), .ref ow, .ref om, .ref ok_, .ref oK, .ref og, .ref on_, .ref oh, .ref ox, .int qn, .int qf, .ref op_, .int ql])), (ow, .inl (cI, 108000, .inl fx6)), (om, .inl (cI, 9, .inl fy6))] H := hP
        have hD : va_D A [(oh, .inl (cI, 10000, .inl fh)), (og, .inl (cI, 32, .inl fs)), (on_, .inl (cI, 32, .inl fn)), (ok_, .inl (cI, 166400, .inl fk)), (oK, .inl (cI, 64, .inl fK)), (mo, .inr (8, [.int (iZ 0), .int (iZ (np : Int)), .ref ow, .ref om, .ref ok_, .ref oK, .ref og, .ref on_, .ref oh, .ref ox, .int qn, .int qf, .ref op_, .int ql])), (ow, .inl (cI, 108000, .inl fx6)), (om, .inl (cI, 9, .inl fy6))] := hD
        show W p l e R s m args below meth c H locs _ _ Q (F0 m 166 ls [])
        obtain ⟨v6, hv6⟩ : ∃ z, z = up v5 3 (v5 4 * v5 5) := ⟨_, rfl⟩
        rw [← hv6] at w6
        have y63 : v6 3 = bv (a + k) * bv (b_ + k) := by rw [hv6, up_s, y54, y55]
        have y62 : v6 2 = tv (a + k) * tv (b_ + k) := by rw [hv6, up_n (by decide), hv5, up_n (by decide), hv4, up_n (by decide)]; exact y32
        have y60 : v6 0 = (dtS tv bv sg a b_ k).2.1 := by rw [← i0]; simp [hv6, hv5, hv4, hv3, hv2, hv1, up]
        have y61 : v6 1 = (dtS tv bv sg a b_ k).2.2 := by rw [← i1]; simp [hv6, hv5, hv4, hv3, hv2, hv1, up]
        have nP := nd_mul (tv (a + k)) (tv (b_ + k))
        have nQ := nd_mul (bv (a + k)) (bv (b_ + k))
        have pQ : 0 < bv (a + k) * bv (b_ + k) := Nat.mul_pos pa pb
        refine lv_aload_n hx hb d_Mo_dot_166 rfl (lv_at hl 0 rfl) ?_
        refine lv_iload hx hb d_Mo_dot_167 (lv_at hl 5 rfl) ?_
        refine lv_aload_n hx hb d_Mo_dot_169 rfl (lv_at hl 0 rfl) ?_
        refine va_get (D := D) (ci := 8) (v := .ref og) (C := R_Mo) (T := F_Mo) (N := 14) hx hb hts i_Mo hown hK hP 5 rfl rfl 6 (by decide) (hts _ (big_in mw_1121 rfl)) (fun _ h9 => h9) rfl d_Mo_dot_170 ?_
        refine lv_iload_n hx hb d_Mo_dot_173 rfl (lv_at hl 2 rfl) ?_
        refine lv_iload hx hb d_Mo_dot_174 (lv_at hl 6 rfl) ?_
        refine zz_iadd hx hb d_Mo_dot_176 ?_
        refine zz_iald hx hb hK hP 1 0 rfl rfl (a + k) (by omega) (by omega) (by omega) d_Mo_dot_177 ?_
        rw [hMR.2.1 (a + k) (by omega)]
        refine lv_aload_n hx hb d_Mo_dot_178 rfl (lv_at hl 0 rfl) ?_
        refine va_get (D := D) (ci := 8) (v := .ref og) (C := R_Mo) (T := F_Mo) (N := 14) hx hb hts i_Mo hown hK hP 5 rfl rfl 6 (by decide) (hts _ (big_in mw_1121 rfl)) (fun _ h9 => h9) rfl d_Mo_dot_179 ?_
        refine lv_iload_n hx hb d_Mo_dot_182 rfl (lv_at hl 3 rfl) ?_
        refine lv_iload hx hb d_Mo_dot_183 (lv_at hl 6 rfl) ?_
        refine zz_iadd hx hb d_Mo_dot_185 ?_
        refine zz_iald hx hb hK hP 1 0 rfl rfl (b_ + k) (by omega) (by omega) (by omega) d_Mo_dot_186 ?_
        rw [hMR.2.1 (b_ + k) (by omega)]
        refine zz_imul hx hb d_Mo_dot_187 ?_
        refine cv (n := 2) (wr := [(oh, .inl (cI, 10000, .inl fh)), (og, .inl (cI, 32, .inl fs)), (on_, .inl (cI, 32, .inl fn)), (ok_, .inl (cI, 166400, .inl fk)), (oK, .inl (cI, 64, .inl fK))]) (w1 := (fun (u : Int × (Nat → Int32) × (Nat → Int32) × (Nat → Nat)) => [(mo, .inr (8, [.int (iZ 0), .int (iZ (np : Int)), .ref ow, .ref om, .ref ok_, .ref oK, .ref og, .ref on_, .ref oh, .ref ox, .int qn, .int qf, .ref op_, .int ql])), (ow, .inl (cI, 108000, .inl u.2.1)), (om, .inl (cI, 9, .inl u.2.2.1))])) (As := [.int (iZ sn), .int (iZ ((sg (a + k)) * (sg (b_ + k))))]) (rest := []) K hP hD hK hS hA hl.1 (c_Mo_sum l D mo (iZ 0) np ow om ok_ oK og on_ oh ox qn qf op_ ql fx6 fy6 cI v6 sn ((sg (a + k)) * (sg (b_ + k))) H.size w6 c4 sg1 (by rw [y60]; exact c3) (by rw [y62]; exact sg2) (by rw [y61]; exact c2) (by rw [y63]; exact pQ) (by rw [y60, y63]; omega) (by rw [y62, y61]; omega) (by rw [y61, y63]; omega)) [5, 6, 7] [0, 1, 2, 3, 4] [0] rfl rfl rfl (by decide) (by decide) (by decide) 0 rfl rfl (big_in mw_1254 rfl) (big_in mw_10 rfl) (big_in mw_1251 rfl) (big_in mw_1253 rfl) (big_in sp_33 rfl) rfl rfl (by decide +kernel) ⟨by rw [hR]; exact Nat.le_of_ble_eq_true rfl, by rw [hR]; exact Nat.le_of_ble_eq_true rfl⟩ rfl (Nat.le_of_ble_eq_true rfl) d_Mo_dot_188 ⟨by rw [hR]; exact Nat.le_of_ble_eq_true rfl, by rw [hR]; exact Nat.le_of_ble_eq_true rfl⟩ rfl (fun v u H locs hp8 hP hD hS _ => ?_)
        obtain ⟨rs, fx7, fy7, v7⟩ := u
        try dsimp only at hp8
        obtain ⟨rfl, ers, w7, x0, x1⟩ := hp8
        have hP : va_P D cls0 [(oh, .inl (cI, 10000, .inl fh)), (og, .inl (cI, 32, .inl fs)), (on_, .inl (cI, 32, .inl fn)), (ok_, .inl (cI, 166400, .inl fk)), (oK, .inl (cI, 64, .inl fK)), (mo, .inr (8, [.int (iZ 0), .int (iZ (np : Int)), .ref ow, .ref om, .ref ok_, .ref oK, .ref og, .ref on_, .ref oh, .ref ox, .int qn, .int qf, .ref op_, .int ql])), (ow, .inl (cI, 108000, .inl fx7)), (om, .inl (cI, 9, .inl fy7))] H := hP
        have hD : va_D A [(oh, .inl (cI, 10000, .inl fh)), (og, .inl (cI, 32, .inl fs)), (on_, .inl (cI, 32, .inl fn)), (ok_, .inl (cI, 166400, .inl fk)), (oK, .inl (cI, 64, .inl fK)), (mo, .inr (8, [.int (iZ 0), .int (iZ (np : Int)), .ref ow, .ref om, .ref ok_, .ref oK, .ref og, .ref on_, .ref oh, .ref ox, .int qn, .int qf, .ref op_, .int ql])), (ow, .inl (cI, 108000, .inl fx7)), (om, .inl (cI, 9, .inl fy7))] := hD
        show W p l e R s m args below meth c H locs _ _ Q (F0 m 191 ls [.int (iZ rs)])
        rw [y60, y61, y62, y63] at ers x0
        rw [y61, y63] at x1
        obtain ⟨m1, m2, m3⟩ := dt_model (s := sn) (t := sg (a + k) * sg (b_ + k)) (N := (dtS tv bv sg a b_ k).2.1) (D := (dtS tv bv sg a b_ k).2.2) (P := tv (a + k) * tv (b_ + k)) pQ
        have nS := nd_mono (sg_abs_le (A := (dtS tv bv sg a b_ k).2.1 * (bv (a + k) * bv (b_ + k))) (C := tv (a + k) * tv (b_ + k) * (dtS tv bv sg a b_ k).2.2) c4 sg1)
        have nS2 := nd_add ((dtS tv bv sg a b_ k).2.1 * (bv (a + k) * bv (b_ + k))) (tv (a + k) * tv (b_ + k) * (dtS tv bv sg a b_ k).2.2)
        have nS3 := nd_mul (dtS tv bv sg a b_ k).2.1 (bv (a + k) * bv (b_ + k))
        have nS4 := nd_mul (tv (a + k) * tv (b_ + k)) (dtS tv bv sg a b_ k).2.2
        have nS5 := nd_mul (dtS tv bv sg a b_ k).2.2 (bv (a + k) * bv (b_ + k))
        refine lv_istore (lv' := [(6, .int (iZ rs)), (0, .ref mo), (1, .int (iZ (to : Int))), (2, .int (iZ (a : Int))), (3, .int (iZ (b_ : Int))), (4, .int (iZ (ct : Int))), (7, .int (iZ (k : Int)))]) hx hb d_Mo_dot_191 hl (by decide) rfl (fun ls hl => ?_)
        refine lv_aload_n hx hb d_Mo_dot_193 rfl (lv_at hl 1 rfl) ?_
        refine cv (n := 0) (wr := [(oh, .inl (cI, 10000, .inl fh)), (og, .inl (cI, 32, .inl fs)), (on_, .inl (cI, 32, .inl fn)), (ok_, .inl (cI, 166400, .inl fk)), (oK, .inl (cI, 64, .inl fK))]) (w1 := (fun (u : (Nat → Int32) × (Nat → Int32) × (Nat → Nat)) => [(mo, .inr (8, [.int (iZ 0), .int (iZ (np : Int)), .ref ow, .ref om, .ref ok_, .ref oK, .ref og, .ref on_, .ref oh, .ref ox, .int qn, .int qf, .ref op_, .int ql])), (ow, .inl (cI, 108000, .inl u.1)), (om, .inl (cI, 9, .inl u.2.1))])) (As := []) (rest := []) K hP hD hK hS hA hl.1 (c_Mo_reduce l D mo (iZ 0) np ow om ok_ oK og on_ oh ox qn qf op_ ql fx7 fy7 cI v7 H.size w7 (by rw [x1]; exact Nat.mul_pos c2 pQ) (by rw [x0]; omega) (by rw [x1]; omega)) [5, 6, 7] [0, 1, 2, 3, 4] [0] rfl rfl rfl (by decide) (by decide) (by decide) 0 rfl rfl (big_in mw_1189 rfl) (big_in mw_10 rfl) (big_in mw_1186 rfl) (big_in mw_1188 rfl) (big_in sp_21 rfl) rfl rfl (by decide +kernel) ⟨by rw [hR]; exact Nat.le_of_ble_eq_true rfl, by rw [hR]; exact Nat.le_of_ble_eq_true rfl⟩ rfl (Nat.le_of_ble_eq_true rfl) d_Mo_dot_194 ⟨by rw [hR]; exact Nat.le_of_ble_eq_true rfl, by rw [hR]; exact Nat.le_of_ble_eq_true rfl⟩ rfl (fun v u H locs hp9 hP hD hS _ => ?_)
        obtain ⟨fx8, fy8, v8⟩ := u
        try dsimp only at hp9
        obtain ⟨rfl, w8, r0, r1⟩ := hp9
        have hP : va_P D cls0 [(oh, .inl (cI, 10000, .inl fh)), (og, .inl (cI, 32, .inl fs)), (on_, .inl (cI, 32, .inl fn)), (ok_, .inl (cI, 166400, .inl fk)), (oK, .inl (cI, 64, .inl fK)), (mo, .inr (8, [.int (iZ 0), .int (iZ (np : Int)), .ref ow, .ref om, .ref ok_, .ref oK, .ref og, .ref on_, .ref oh, .ref ox, .int qn, .int qf, .ref op_, .int ql])), (ow, .inl (cI, 108000, .inl fx8)), (om, .inl (cI, 9, .inl fy8))] H := hP
        have hD : va_D A [(oh, .inl (cI, 10000, .inl fh)), (og, .inl (cI, 32, .inl fs)), (on_, .inl (cI, 32, .inl fn)), (ok_, .inl (cI, 166400, .inl fk)), (oK, .inl (cI, 64, .inl fK)), (mo, .inr (8, [.int (iZ 0), .int (iZ (np : Int)), .ref ow, .ref om, .ref ok_, .ref oK, .ref og, .ref on_, .ref oh, .ref ox, .int qn, .int qf, .ref op_, .int ql])), (ow, .inl (cI, 108000, .inl fx8)), (om, .inl (cI, 9, .inl fy8))] := hD
        show W p l e R s m args below meth c H locs _ _ Q (F0 m 197 ls [])
        rw [x0, x1] at r0 r1
        refine lv_iinc (v := iZ ((k : Int) + 1)) (lv' := [(7, .int (iZ ((k : Int) + 1))), (6, .int (iZ rs)), (0, .ref mo), (1, .int (iZ (to : Int))), (2, .int (iZ (a : Int))), (3, .int (iZ (b_ : Int))), (4, .int (iZ (ct : Int)))]) hx hb d_Mo_dot_197 hl (k := 6) rfl (iZ_add _ _) (by decide) rfl (fun ls hl => ?_)
        refine lv_goto (tgt := 97) hx hb d_Mo_dot_200 (by decide) ?_
        rw [show ((k : Int) + 1 : Int) = ((k + 1 : Nat) : Int) by omega] at hl
        exact ih (k + 1) rs fx8 fy8 v8 _ _ _ (by omega) (by omega) w8 (by rw [r0, m2, isn]; rfl) (by rw [r1, m3, isn]; rfl) (by rw [ers, m1, isn]; rfl) (hP.sub (ws' := [(mo, .inr (8, [.int (iZ 0), .int (iZ (np : Int)), .ref ow, .ref om, .ref ok_, .ref oK, .ref og, .ref on_, .ref oh, .ref ox, .int qn, .int qf, .ref op_, .int ql])), (ow, .inl (cI, 108000, .inl fx8)), (om, .inl (cI, 9, .inl fy8)), (oh, .inl (cI, 10000, .inl fh)), (ok_, .inl (cI, 166400, .inl fk)), (oK, .inl (cI, 64, .inl fK)), (og, .inl (cI, 32, .inl fs)), (on_, .inl (cI, 32, .inl fn))]) [5, 6, 7, 0, 3, 4, 1, 2] rfl) (hD.sub (ws' := [(mo, .inr (8, [.int (iZ 0), .int (iZ (np : Int)), .ref ow, .ref om, .ref ok_, .ref oK, .ref og, .ref on_, .ref oh, .ref ox, .int qn, .int qf, .ref op_, .int ql])), (ow, .inl (cI, 108000, .inl fx8)), (om, .inl (cI, 9, .inl fy8)), (oh, .inl (cI, 10000, .inl fh)), (ok_, .inl (cI, 166400, .inl fk)), (oK, .inl (cI, 64, .inl fK)), (og, .inl (cI, 32, .inl fs)), (on_, .inl (cI, 32, .inl fn))]) [5, 6, 7, 0, 3, 4, 1, 2] (by decide) rfl) hS (lv_sub hl [2, 3, 4, 5, 6, 1, 0] rfl)
  refine lv_iload_n hx hb d_Mo_dot_0 rfl (lv_at hl 1 rfl) ?_
  refine cs (n := 1) (wr := [(mo, .inr (8, [.int qc, .int (iZ (np : Int)), .ref ow, .ref om, .ref ok_, .ref oK, .ref og, .ref on_, .ref oh, .ref ox, .int qn, .int qf, .ref op_, .int ql])), (ow, .inl (cI, 108000, .inl fw)), (om, .inl (cI, 9, .inl fm)), (oh, .inl (cI, 10000, .inl fh)), (ok_, .inl (cI, 166400, .inl fk)), (oK, .inl (cI, 64, .inl fK)), (og, .inl (cI, 32, .inl fs)), (on_, .inl (cI, 32, .inl fn))]) (w1 := (fun (u : Int) => [])) (As := [.int (iZ (to : Int))]) (rest := []) K hP hD hK hS hA hl.1 (c_Mo_isRegister l D (to : Int) H.size (by omega)) [] [0, 1, 2, 3, 4, 5, 6, 7] [] rfl rfl rfl (by decide) (by decide) (by decide) (big_in mw_1172 rfl) (big_in mw_10 rfl) (big_in mw_1170 rfl) (big_in mw_1171 rfl) rfl rfl (by decide +kernel) ⟨by rw [hR]; exact Nat.le_of_ble_eq_true rfl, by rw [hR]; exact Nat.le_of_ble_eq_true rfl⟩ rfl (Nat.le_of_ble_eq_true rfl) d_Mo_dot_1 ⟨by rw [hR]; exact Nat.le_of_ble_eq_true rfl, by rw [hR]; exact Nat.le_of_ble_eq_true rfl⟩ rfl (fun v u H locs hp10 hP hD hS _ => ?_)
  obtain ⟨r1, rfl⟩ : ∃ z, z = u := ⟨_, rfl⟩
  obtain ⟨rfl, p1⟩ := hp10
  have hP : va_P D cls0 [(mo, .inr (8, [.int qc, .int (iZ (np : Int)), .ref ow, .ref om, .ref ok_, .ref oK, .ref og, .ref on_, .ref oh, .ref ox, .int qn, .int qf, .ref op_, .int ql])), (ow, .inl (cI, 108000, .inl fw)), (om, .inl (cI, 9, .inl fm)), (oh, .inl (cI, 10000, .inl fh)), (ok_, .inl (cI, 166400, .inl fk)), (oK, .inl (cI, 64, .inl fK)), (og, .inl (cI, 32, .inl fs)), (on_, .inl (cI, 32, .inl fn))] H := hP
  have hD : va_D A [(mo, .inr (8, [.int qc, .int (iZ (np : Int)), .ref ow, .ref om, .ref ok_, .ref oK, .ref og, .ref on_, .ref oh, .ref ox, .int qn, .int qf, .ref op_, .int ql])), (ow, .inl (cI, 108000, .inl fw)), (om, .inl (cI, 9, .inl fm)), (oh, .inl (cI, 10000, .inl fh)), (ok_, .inl (cI, 166400, .inl fk)), (oK, .inl (cI, 64, .inl fK)), (og, .inl (cI, 32, .inl fs)), (on_, .inl (cI, 32, .inl fn))] := hD
  show W p l e R s m args below meth c H locs _ _ Q (F0 m 4 ls [.int (iZ r1)])
  have b1 : 0 ≤ r1 ∧ r1 ≤ 1 := by omega
  refine zz_if_eq (tgt := 48) hx hb d_Mo_dot_4 (by decide) (by omega) (fun c4 => ?_) (fun c4 => ?_)
  · refine lv_iconst (v := iZ (0)) hx hb d_Mo_dot_48 (by decide +kernel) ?_
    refine lv_istore (lv' := [(5, .int (iZ 0)), (0, .ref mo), (1, .int (iZ (to : Int))), (2, .int (iZ (a : Int))), (3, .int (iZ (b_ : Int))), (4, .int (iZ (ct : Int)))]) hx hb d_Mo_dot_49 hl (by decide) rfl (fun ls hl => ?_)
    refine lv_aload_n hx hb d_Mo_dot_51 rfl (lv_at hl 1 rfl) ?_
    refine lv_iload hx hb d_Mo_dot_52 (lv_at hl 0 rfl) ?_
    refine zz_if_ne (tgt := 61) hx hb d_Mo_dot_54 (by decide) (by omega) (fun c54 => False.elim (by omega)) (fun c54 => ?_)
    refine lv_iconst (v := iZ (1)) hx hb d_Mo_dot_57 (by decide +kernel) ?_
    refine lv_goto (tgt := 71) hx hb d_Mo_dot_58 (by decide) ?_
    exfalso
    omega
  · refine lv_iload_n hx hb d_Mo_dot_7 rfl (lv_at hl 2 rfl) ?_
    refine cs (n := 1) (wr := [(mo, .inr (8, [.int qc, .int (iZ (np : Int)), .ref ow, .ref om, .ref ok_, .ref oK, .ref og, .ref on_, .ref oh, .ref ox, .int qn, .int qf, .ref op_, .int ql])), (ow, .inl (cI, 108000, .inl fw)), (om, .inl (cI, 9, .inl fm)), (oh, .inl (cI, 10000, .inl fh)), (ok_, .inl (cI, 166400, .inl fk)), (oK, .inl (cI, 64, .inl fK)), (og, .inl (cI, 32, .inl fs)), (on_, .inl (cI, 32, .inl fn))]) (w1 := (fun (u : Int) => [])) (As := [.int (iZ (a : Int))]) (rest := []) K hP hD hK hS hA hl.1 (c_Mo_isRegister l D (a : Int) H.size (by omega)) [] [0, 1, 2, 3, 4, 5, 6, 7] [] rfl rfl rfl (by decide) (by decide) (by decide) (big_in mw_1172 rfl) (big_in mw_10 rfl) (big_in mw_1170 rfl) (big_in mw_1171 rfl) rfl rfl (by decide +kernel) ⟨by rw [hR]; exact Nat.le_of_ble_eq_true rfl, by rw [hR]; exact Nat.le_of_ble_eq_true rfl⟩ rfl (Nat.le_of_ble_eq_true rfl) d_Mo_dot_8 ⟨by rw [hR]; exact Nat.le_of_ble_eq_true rfl, by rw [hR]; exact Nat.le_of_ble_eq_true rfl⟩ rfl (fun v u H locs hp11 hP hD hS _ => ?_)
    obtain ⟨r8, rfl⟩ : ∃ z, z = u := ⟨_, rfl⟩
    obtain ⟨rfl, p8⟩ := hp11
    have hP : va_P D cls0 [(mo, .inr (8, [.int qc, .int (iZ (np : Int)), .ref ow, .ref om, .ref ok_, .ref oK, .ref og, .ref on_, .ref oh, .ref ox, .int qn, .int qf, .ref op_, .int ql])), (ow, .inl (cI, 108000, .inl fw)), (om, .inl (cI, 9, .inl fm)), (oh, .inl (cI, 10000, .inl fh)), (ok_, .inl (cI, 166400, .inl fk)), (oK, .inl (cI, 64, .inl fK)), (og, .inl (cI, 32, .inl fs)), (on_, .inl (cI, 32, .inl fn))] H := hP
    have hD : va_D A [(mo, .inr (8, [.int qc, .int (iZ (np : Int)), .ref ow, .ref om, .ref ok_, .ref oK, .ref og, .ref on_, .ref oh, .ref ox, .int qn, .int qf, .ref op_, .int ql])), (ow, .inl (cI, 108000, .inl fw)), (om, .inl (cI, 9, .inl fm)), (oh, .inl (cI, 10000, .inl fh)), (ok_, .inl (cI, 166400, .inl fk)), (oK, .inl (cI, 64, .inl fK)), (og, .inl (cI, 32, .inl fs)), (on_, .inl (cI, 32, .inl fn))] := hD
    show W p l e R s m args below meth c H locs _ _ Q (F0 m 11 ls [.int (iZ r8)])
    have b8 : 0 ≤ r8 ∧ r8 ≤ 1 := by omega
    refine zz_if_eq (tgt := 48) hx hb d_Mo_dot_11 (by decide) (by omega) (fun c11 => ?_) (fun c11 => ?_)
    · refine lv_iconst (v := iZ (0)) hx hb d_Mo_dot_48 (by decide +kernel) ?_
      refine lv_istore (lv' := [(5, .int (iZ 0)), (0, .ref mo), (1, .int (iZ (to : Int))), (2, .int (iZ (a : Int))), (3, .int (iZ (b_ : Int))), (4, .int (iZ (ct : Int)))]) hx hb d_Mo_dot_49 hl (by decide) rfl (fun ls hl => ?_)
      refine lv_aload_n hx hb d_Mo_dot_51 rfl (lv_at hl 1 rfl) ?_
      refine lv_iload hx hb d_Mo_dot_52 (lv_at hl 0 rfl) ?_
      refine zz_if_ne (tgt := 61) hx hb d_Mo_dot_54 (by decide) (by omega) (fun c54 => False.elim (by omega)) (fun c54 => ?_)
      refine lv_iconst (v := iZ (1)) hx hb d_Mo_dot_57 (by decide +kernel) ?_
      refine lv_goto (tgt := 71) hx hb d_Mo_dot_58 (by decide) ?_
      exfalso
      omega
    · refine lv_iload_n hx hb d_Mo_dot_14 rfl (lv_at hl 3 rfl) ?_
      refine cs (n := 1) (wr := [(mo, .inr (8, [.int qc, .int (iZ (np : Int)), .ref ow, .ref om, .ref ok_, .ref oK, .ref og, .ref on_, .ref oh, .ref ox, .int qn, .int qf, .ref op_, .int ql])), (ow, .inl (cI, 108000, .inl fw)), (om, .inl (cI, 9, .inl fm)), (oh, .inl (cI, 10000, .inl fh)), (ok_, .inl (cI, 166400, .inl fk)), (oK, .inl (cI, 64, .inl fK)), (og, .inl (cI, 32, .inl fs)), (on_, .inl (cI, 32, .inl fn))]) (w1 := (fun (u : Int) => [])) (As := [.int (iZ (b_ : Int))]) (rest := []) K hP hD hK hS hA hl.1 (c_Mo_isRegister l D (b_ : Int) H.size (by omega)) [] [0, 1, 2, 3, 4, 5, 6, 7] [] rfl rfl rfl (by decide) (by decide) (by decide) (big_in mw_1172 rfl) (big_in mw_10 rfl) (big_in mw_1170 rfl) (big_in mw_1171 rfl) rfl rfl (by decide +kernel) ⟨by rw [hR]; exact Nat.le_of_ble_eq_true rfl, by rw [hR]; exact Nat.le_of_ble_eq_true rfl⟩ rfl (Nat.le_of_ble_eq_true rfl) d_Mo_dot_15 ⟨by rw [hR]; exact Nat.le_of_ble_eq_true rfl, by rw [hR]; exact Nat.le_of_ble_eq_true rfl⟩ rfl (fun v u H locs hp12 hP hD hS _ => ?_)
      obtain ⟨r15, rfl⟩ : ∃ z, z = u := ⟨_, rfl⟩
      obtain ⟨rfl, p15⟩ := hp12
      have hP : va_P D cls0 [(mo, .inr (8, [.int qc, .int (iZ (np : Int)), .ref ow, .ref om, .ref ok_, .ref oK, .ref og, .ref on_, .ref oh, .ref ox, .int qn, .int qf, .ref op_, .int ql])), (ow, .inl (cI, 108000, .inl fw)), (om, .inl (cI, 9, .inl fm)), (oh, .inl (cI, 10000, .inl fh)), (ok_, .inl (cI, 166400, .inl fk)), (oK, .inl (cI, 64, .inl fK)), (og, .inl (cI, 32, .inl fs)), (on_, .inl (cI, 32, .inl fn))] H := hP
      have hD : va_D A [(mo, .inr (8, [.int qc, .int (iZ (np : Int)), .ref ow, .ref om, .ref ok_, .ref oK, .ref og, .ref on_, .ref oh, .ref ox, .int qn, .int qf, .ref op_, .int ql])), (ow, .inl (cI, 108000, .inl fw)), (om, .inl (cI, 9, .inl fm)), (oh, .inl (cI, 10000, .inl fh)), (ok_, .inl (cI, 166400, .inl fk)), (oK, .inl (cI, 64, .inl fK)), (og, .inl (cI, 32, .inl fs)), (on_, .inl (cI, 32, .inl fn))] := hD
      show W p l e R s m args below meth c H locs _ _ Q (F0 m 18 ls [.int (iZ r15)])
      have b15 : 0 ≤ r15 ∧ r15 ≤ 1 := by omega
      refine zz_if_eq (tgt := 48) hx hb d_Mo_dot_18 (by decide) (by omega) (fun c18 => ?_) (fun c18 => ?_)
      · refine lv_iconst (v := iZ (0)) hx hb d_Mo_dot_48 (by decide +kernel) ?_
        refine lv_istore (lv' := [(5, .int (iZ 0)), (0, .ref mo), (1, .int (iZ (to : Int))), (2, .int (iZ (a : Int))), (3, .int (iZ (b_ : Int))), (4, .int (iZ (ct : Int)))]) hx hb d_Mo_dot_49 hl (by decide) rfl (fun ls hl => ?_)
        refine lv_aload_n hx hb d_Mo_dot_51 rfl (lv_at hl 1 rfl) ?_
        refine lv_iload hx hb d_Mo_dot_52 (lv_at hl 0 rfl) ?_
        refine zz_if_ne (tgt := 61) hx hb d_Mo_dot_54 (by decide) (by omega) (fun c54 => False.elim (by omega)) (fun c54 => ?_)
        refine lv_iconst (v := iZ (1)) hx hb d_Mo_dot_57 (by decide +kernel) ?_
        refine lv_goto (tgt := 71) hx hb d_Mo_dot_58 (by decide) ?_
        exfalso
        omega
      · refine lv_iload hx hb d_Mo_dot_21 (lv_at hl 4 rfl) ?_
        refine zz_if_le (tgt := 44) hx hb d_Mo_dot_23 (by decide) (by omega) (fun c23 => ?_) (fun c23 => ?_)
        · refine lv_iconst (v := iZ (1)) hx hb d_Mo_dot_44 (by decide +kernel) ?_
          refine lv_goto (tgt := 49) hx hb d_Mo_dot_45 (by decide) ?_
          refine lv_istore (lv' := [(5, .int (iZ 1)), (0, .ref mo), (1, .int (iZ (to : Int))), (2, .int (iZ (a : Int))), (3, .int (iZ (b_ : Int))), (4, .int (iZ (ct : Int)))]) hx hb d_Mo_dot_49 hl (by decide) rfl (fun ls hl => ?_)
          refine lv_aload_n hx hb d_Mo_dot_51 rfl (lv_at hl 1 rfl) ?_
          refine lv_iload hx hb d_Mo_dot_52 (lv_at hl 0 rfl) ?_
          refine zz_if_ne (tgt := 61) hx hb d_Mo_dot_54 (by decide) (by omega) (fun c54 => ?_) (fun c54 => False.elim (by omega))
          refine lv_iload hx hb d_Mo_dot_61 (lv_at hl 5 rfl) ?_
          refine zz_if_ge (tgt := 70) hx hb d_Mo_dot_63 (by decide) (by omega) (fun c63 => ?_) (fun c63 => ?_)
          · refine lv_iconst (v := iZ (0)) hx hb d_Mo_dot_70 (by decide +kernel) ?_
            refine cv (n := 1) (wr := [(ow, .inl (cI, 108000, .inl fw)), (om, .inl (cI, 9, .inl fm)), (oh, .inl (cI, 10000, .inl fh)), (ok_, .inl (cI, 166400, .inl fk)), (oK, .inl (cI, 64, .inl fK)), (og, .inl (cI, 32, .inl fs)), (on_, .inl (cI, 32, .inl fn))]) (w1 := (fun (u : Int) => [(mo, .inr (8, [.int (iZ 0), .int (iZ (np : Int)), .ref ow, .ref om, .ref ok_, .ref oK, .ref og, .ref on_, .ref oh, .ref ox, .int qn, .int qf, .ref op_, .int ql]))])) (As := [.int (iZ 0)]) (rest := []) K hP hD hK hS hA hl.1 (c_Mo_refuses l D mo qc np ow om ok_ oK og on_ oh ox qn qf op_ ql 0 H.size (by omega)) [0] [1, 2, 3, 4, 5, 6, 7] [] rfl rfl rfl (by decide) (by decide) (by decide) 0 rfl rfl (big_in mw_1176 rfl) (big_in mw_10 rfl) (big_in mw_1173 rfl) (big_in mw_1175 rfl) (big_in sp_18 rfl) rfl rfl (by decide +kernel) ⟨by rw [hR]; exact Nat.le_of_ble_eq_true rfl, by rw [hR]; exact Nat.le_of_ble_eq_true rfl⟩ rfl (Nat.le_of_ble_eq_true rfl) d_Mo_dot_71 ⟨by rw [hR]; exact Nat.le_of_ble_eq_true rfl, by rw [hR]; exact Nat.le_of_ble_eq_true rfl⟩ rfl (fun v u H locs hp13 hP hD hS _ => ?_)
            obtain ⟨rf, rfl⟩ : ∃ z, z = u := ⟨_, rfl⟩
            obtain ⟨rfl, prf⟩ := hp13
            have hP : va_P D cls0 [(ow, .inl (cI, 108000, .inl fw)), (om, .inl (cI, 9, .inl fm)), (oh, .inl (cI, 10000, .inl fh)), (ok_, .inl (cI, 166400, .inl fk)), (oK, .inl (cI, 64, .inl fK)), (og, .inl (cI, 32, .inl fs)), (on_, .inl (cI, 32, .inl fn)), (mo, .inr (8, [.int (iZ 0), .int (iZ (np : Int)), .ref ow, .ref om, .ref ok_, .ref oK, .ref og, .ref on_, .ref oh, .ref ox, .int qn, .int qf, .ref op_, .int ql]))] H := hP
            have hD : va_D A [(ow, .inl (cI, 108000, .inl fw)), (om, .inl (cI, 9, .inl fm)), (oh, .inl (cI, 10000, .inl fh)), (ok_, .inl (cI, 166400, .inl fk)), (oK, .inl (cI, 64, .inl fK)), (og, .inl (cI, 32, .inl fs)), (on_, .inl (cI, 32, .inl fn)), (mo, .inr (8, [.int (iZ 0), .int (iZ (np : Int)), .ref ow, .ref om, .ref ok_, .ref oK, .ref og, .ref on_, .ref oh, .ref ox, .int qn, .int qf, .ref op_, .int ql]))] := hD
            show W p l e R s m args below meth c H locs _ _ Q (F0 m 74 ls [.int (iZ rf)])
            refine zz_if_eq (tgt := 79) hx hb d_Mo_dot_74 (by decide) (by omega) (fun c74 => ?_) (fun c74 => False.elim (by omega))
            refine lv_aload_n hx hb d_Mo_dot_79 rfl (lv_at hl 1 rfl) ?_
            refine lv_iconst (v := iZ (0)) hx hb d_Mo_dot_80 (by decide +kernel) ?_
            refine lv_lconst (v := lZ (0)) hx hb d_Mo_dot_81 (by decide +kernel) ?_
            refine cv (n := 2) (wr := [(oh, .inl (cI, 10000, .inl fh)), (ok_, .inl (cI, 166400, .inl fk)), (oK, .inl (cI, 64, .inl fK)), (og, .inl (cI, 32, .inl fs)), (on_, .inl (cI, 32, .inl fn))]) (w1 := (fun (u : (Nat → Int32) × (Nat → Int32)) => [(mo, .inr (8, [.int (iZ 0), .int (iZ (np : Int)), .ref ow, .ref om, .ref ok_, .ref oK, .ref og, .ref on_, .ref oh, .ref ox, .int qn, .int qf, .ref op_, .int ql])), (ow, .inl (cI, 108000, .inl u.1)), (om, .inl (cI, 9, .inl u.2))])) (As := [.int (iZ 0), .long (lZ 0)]) (rest := []) K hP hD hK hS hA hl.1 (c_Mo_setLong l D mo (iZ 0) np ow om ok_ oK og on_ oh ox qn qf op_ ql fw fm cI val 0 0 H.size hW (by omega) (by omega)) [7, 0, 1] [2, 3, 4, 5, 6] [0] rfl rfl rfl (by decide) (by decide) (by decide) 0 rfl rfl (big_in mw_1180 rfl) (big_in mw_10 rfl) (big_in mw_1177 rfl) (big_in mw_1179 rfl) (big_in sp_19 rfl) rfl rfl (by decide +kernel) ⟨by rw [hR]; exact Nat.le_of_ble_eq_true rfl, by rw [hR]; exact Nat.le_of_ble_eq_true rfl⟩ rfl (Nat.le_of_ble_eq_true rfl) d_Mo_dot_82 ⟨by rw [hR]; exact Nat.le_of_ble_eq_true rfl, by rw [hR]; exact Nat.le_of_ble_eq_true rfl⟩ rfl (fun v u H locs hp14 hP hD hS _ => ?_)
            obtain ⟨fx11, fy11⟩ := u
            try dsimp only at hp14
            obtain ⟨rfl, w11⟩ := hp14
            have hP : va_P D cls0 [(oh, .inl (cI, 10000, .inl fh)), (ok_, .inl (cI, 166400, .inl fk)), (oK, .inl (cI, 64, .inl fK)), (og, .inl (cI, 32, .inl fs)), (on_, .inl (cI, 32, .inl fn)), (mo, .inr (8, [.int (iZ 0), .int (iZ (np : Int)), .ref ow, .ref om, .ref ok_, .ref oK, .ref og, .ref on_, .ref oh, .ref ox, .int qn, .int qf, .ref op_, .int ql])), (ow, .inl (cI, 108000, .inl fx11)), (om, .inl (cI, 9, .inl fy11))] H := hP
            have hD : va_D A [(oh, .inl (cI, 10000, .inl fh)), (ok_, .inl (cI, 166400, .inl fk)), (oK, .inl (cI, 64, .inl fK)), (og, .inl (cI, 32, .inl fs)), (on_, .inl (cI, 32, .inl fn)), (mo, .inr (8, [.int (iZ 0), .int (iZ (np : Int)), .ref ow, .ref om, .ref ok_, .ref oK, .ref og, .ref on_, .ref oh, .ref ox, .int qn, .int qf, .ref op_, .int ql])), (ow, .inl (cI, 108000, .inl fx11)), (om, .inl (cI, 9, .inl fy11))] := hD
            show W p l e R s m args below meth c H locs _ _ Q (F0 m 85 ls [])
            obtain ⟨v11, hv11⟩ : ∃ x, x = up val 0 0 := ⟨_, rfl⟩
            have w11 : WB fx11 fy11 v11 := by rw [hv11]; exact w11
            refine lv_aload_n hx hb d_Mo_dot_85 rfl (lv_at hl 1 rfl) ?_
            refine lv_iconst (v := iZ (1)) hx hb d_Mo_dot_86 (by decide +kernel) ?_
            refine lv_lconst (v := lZ (1)) hx hb d_Mo_dot_87 (by decide +kernel) ?_
            refine cv (n := 2) (wr := [(oh, .inl (cI, 10000, .inl fh)), (ok_, .inl (cI, 166400, .inl fk)), (oK, .inl (cI, 64, .inl fK)), (og, .inl (cI, 32, .inl fs)), (on_, .inl (cI, 32, .inl fn))]) (w1 := (fun (u : (Nat → Int32) × (Nat → Int32)) => [(mo, .inr (8, [.int (iZ 0), .int (iZ (np : Int)), .ref ow, .ref om, .ref ok_, .ref oK, .ref og, .ref on_, .ref oh, .ref ox, .int qn, .int qf, .ref op_, .int ql])), (ow, .inl (cI, 108000, .inl u.1)), (om, .inl (cI, 9, .inl u.2))])) (As := [.int (iZ 1), .long (lZ 1)]) (rest := []) K hP hD hK hS hA hl.1 (c_Mo_setLong l D mo (iZ 0) np ow om ok_ oK og on_ oh ox qn qf op_ ql fx11 fy11 cI v11 1 1 H.size w11 (by omega) (by omega)) [5, 6, 7] [0, 1, 2, 3, 4] [0] rfl rfl rfl (by decide) (by decide) (by decide) 0 rfl rfl (big_in mw_1180 rfl) (big_in mw_10 rfl) (big_in mw_1177 rfl) (big_in mw_1179 rfl) (big_in sp_19 rfl) rfl rfl (by decide +kernel) ⟨by rw [hR]; exact Nat.le_of_ble_eq_true rfl, by rw [hR]; exact Nat.le_of_ble_eq_true rfl⟩ rfl (Nat.le_of_ble_eq_true rfl) d_Mo_dot_88 ⟨by rw [hR]; exact Nat.le_of_ble_eq_true rfl, by rw [hR]; exact Nat.le_of_ble_eq_true rfl⟩ rfl (fun v u H locs hp15 hP hD hS _ => ?_)
            obtain ⟨fx12, fy12⟩ := u
            try dsimp only at hp15
            obtain ⟨rfl, w12⟩ := hp15
            have hP : va_P D cls0 [(oh, .inl (cI, 10000, .inl fh)), (ok_, .inl (cI, 166400, .inl fk)), (oK, .inl (cI, 64, .inl fK)), (og, .inl (cI, 32, .inl fs)), (on_, .inl (cI, 32, .inl fn)), (mo, .inr (8, [.int (iZ 0), .int (iZ (np : Int)), .ref ow, .ref om, .ref ok_, .ref oK, .ref og, .ref on_, .ref oh, .ref ox, .int qn, .int qf, .ref op_, .int ql])), (ow, .inl (cI, 108000, .inl fx12)), (om, .inl (cI, 9, .inl fy12))] H := hP
            have hD : va_D A [(oh, .inl (cI, 10000, .inl fh)), (ok_, .inl (cI, 166400, .inl fk)), (oK, .inl (cI, 64, .inl fK)), (og, .inl (cI, 32, .inl fs)), (on_, .inl (cI, 32, .inl fn)), (mo, .inr (8, [.int (iZ 0), .int (iZ (np : Int)), .ref ow, .ref om, .ref ok_, .ref oK, .ref og, .ref on_, .ref oh, .ref ox, .int qn, .int qf, .ref op_, .int ql])), (ow, .inl (cI, 108000, .inl fx12)), (om, .inl (cI, 9, .inl fy12))] := hD
            show W p l e R s m args below meth c H locs _ _ Q (F0 m 91 ls [])
            obtain ⟨v12, hv12⟩ : ∃ x, x = up v11 1 1 := ⟨_, rfl⟩
            have w12 : WB fx12 fy12 v12 := by rw [hv12]; exact w12
            refine lv_iconst (v := iZ (0)) hx hb d_Mo_dot_91 (by decide +kernel) ?_
            refine lv_istore (lv' := [(6, .int (iZ 0)), (5, .int (iZ 1)), (0, .ref mo), (1, .int (iZ (to : Int))), (2, .int (iZ (a : Int))), (3, .int (iZ (b_ : Int))), (4, .int (iZ (ct : Int)))]) hx hb d_Mo_dot_92 hl (by decide) rfl (fun ls hl => ?_)
            refine lv_iconst (v := iZ (0)) hx hb d_Mo_dot_94 (by decide +kernel) ?_
            refine lv_istore (lv' := [(7, .int (iZ 0)), (6, .int (iZ 0)), (5, .int (iZ 1)), (0, .ref mo), (1, .int (iZ (to : Int))), (2, .int (iZ (a : Int))), (3, .int (iZ (b_ : Int))), (4, .int (iZ (ct : Int)))]) hx hb d_Mo_dot_95 hl (by decide) rfl (fun ls hl => ?_)
            exact L97 _ 0 0 fx12 fy12 v12 _ _ _ (Nat.lt_succ_self _) (Nat.zero_le _) w12 (by rw [hv12, up_n (by decide), hv11, up_s]; rfl) (by rw [hv12, up_s]; rfl) rfl (hP.sub (ws' := [(mo, .inr (8, [.int (iZ 0), .int (iZ (np : Int)), .ref ow, .ref om, .ref ok_, .ref oK, .ref og, .ref on_, .ref oh, .ref ox, .int qn, .int qf, .ref op_, .int ql])), (ow, .inl (cI, 108000, .inl fx12)), (om, .inl (cI, 9, .inl fy12)), (oh, .inl (cI, 10000, .inl fh)), (ok_, .inl (cI, 166400, .inl fk)), (oK, .inl (cI, 64, .inl fK)), (og, .inl (cI, 32, .inl fs)), (on_, .inl (cI, 32, .inl fn))]) [5, 6, 7, 0, 1, 2, 3, 4] rfl) (hD.sub (ws' := [(mo, .inr (8, [.int (iZ 0), .int (iZ (np : Int)), .ref ow, .ref om, .ref ok_, .ref oK, .ref og, .ref on_, .ref oh, .ref ox, .int qn, .int qf, .ref op_, .int ql])), (ow, .inl (cI, 108000, .inl fx12)), (om, .inl (cI, 9, .inl fy12)), (oh, .inl (cI, 10000, .inl fh)), (ok_, .inl (cI, 166400, .inl fk)), (oK, .inl (cI, 64, .inl fK)), (og, .inl (cI, 32, .inl fs)), (on_, .inl (cI, 32, .inl fn))]) [5, 6, 7, 0, 1, 2, 3, 4] (by decide) rfl) hS (lv_sub hl [3, 4, 5, 6, 7, 1, 0] rfl)
          · refine lv_iconst (v := iZ (2)) hx hb d_Mo_dot_66 (by decide +kernel) ?_
            refine lv_goto (tgt := 71) hx hb d_Mo_dot_67 (by decide) ?_
            exfalso
            omega
        · refine lv_iload hx hb d_Mo_dot_26 (lv_at hl 4 rfl) ?_
          refine lv_bipush (v := iZ (32)) hx hb d_Mo_dot_28 (by decide +kernel) ?_
          refine lv_iload_n hx hb d_Mo_dot_30 rfl (lv_at hl 2 rfl) ?_
          refine zz_isub hx hb d_Mo_dot_31 ?_
          refine zz_icmp_gt (tgt := 48) hx hb d_Mo_dot_32 (by decide) (by omega) (by omega) (fun c32 => False.elim (by omega)) (fun c32 => ?_)
          refine lv_iload hx hb d_Mo_dot_35 (lv_at hl 4 rfl) ?_
          refine lv_bipush (v := iZ (32)) hx hb d_Mo_dot_37 (by decide +kernel) ?_
          refine lv_iload_n hx hb d_Mo_dot_39 rfl (lv_at hl 3 rfl) ?_
          refine zz_isub hx hb d_Mo_dot_40 ?_
          refine zz_icmp_gt (tgt := 48) hx hb d_Mo_dot_41 (by decide) (by omega) (by omega) (fun c41 => False.elim (by omega)) (fun c41 => ?_)
          refine lv_iconst (v := iZ (1)) hx hb d_Mo_dot_44 (by decide +kernel) ?_
          refine lv_goto (tgt := 49) hx hb d_Mo_dot_45 (by decide) ?_
          refine lv_istore (lv' := [(5, .int (iZ 1)), (0, .ref mo), (1, .int (iZ (to : Int))), (2, .int (iZ (a : Int))), (3, .int (iZ (b_ : Int))), (4, .int (iZ (ct : Int)))]) hx hb d_Mo_dot_49 hl (by decide) rfl (fun ls hl => ?_)
          refine lv_aload_n hx hb d_Mo_dot_51 rfl (lv_at hl 1 rfl) ?_
          refine lv_iload hx hb d_Mo_dot_52 (lv_at hl 0 rfl) ?_
          refine zz_if_ne (tgt := 61) hx hb d_Mo_dot_54 (by decide) (by omega) (fun c54 => ?_) (fun c54 => False.elim (by omega))
          refine lv_iload hx hb d_Mo_dot_61 (lv_at hl 5 rfl) ?_
          refine zz_if_ge (tgt := 70) hx hb d_Mo_dot_63 (by decide) (by omega) (fun c63 => ?_) (fun c63 => ?_)
          · refine lv_iconst (v := iZ (0)) hx hb d_Mo_dot_70 (by decide +kernel) ?_
            refine cv (n := 1) (wr := [(ow, .inl (cI, 108000, .inl fw)), (om, .inl (cI, 9, .inl fm)), (oh, .inl (cI, 10000, .inl fh)), (ok_, .inl (cI, 166400, .inl fk)), (oK, .inl (cI, 64, .inl fK)), (og, .inl (cI, 32, .inl fs)), (on_, .inl (cI, 32, .inl fn))]) (w1 := (fun (u : Int) => [(mo, .inr (8, [.int (iZ 0), .int (iZ (np : Int)), .ref ow, .ref om, .ref ok_, .ref oK, .ref og, .ref on_, .ref oh, .ref ox, .int qn, .int qf, .ref op_, .int ql]))])) (As := [.int (iZ 0)]) (rest := []) K hP hD hK hS hA hl.1 (c_Mo_refuses l D mo qc np ow om ok_ oK og on_ oh ox qn qf op_ ql 0 H.size (by omega)) [0] [1, 2, 3, 4, 5, 6, 7] [] rfl rfl rfl (by decide) (by decide) (by decide) 0 rfl rfl (big_in mw_1176 rfl) (big_in mw_10 rfl) (big_in mw_1173 rfl) (big_in mw_1175 rfl) (big_in sp_18 rfl) rfl rfl (by decide +kernel) ⟨by rw [hR]; exact Nat.le_of_ble_eq_true rfl, by rw [hR]; exact Nat.le_of_ble_eq_true rfl⟩ rfl (Nat.le_of_ble_eq_true rfl) d_Mo_dot_71 ⟨by rw [hR]; exact Nat.le_of_ble_eq_true rfl, by rw [hR]; exact Nat.le_of_ble_eq_true rfl⟩ rfl (fun v u H locs hp16 hP hD hS _ => ?_)
            obtain ⟨rf, rfl⟩ : ∃ z, z = u := ⟨_, rfl⟩
            obtain ⟨rfl, prf⟩ := hp16
            have hP : va_P D cls0 [(ow, .inl (cI, 108000, .inl fw)), (om, .inl (cI, 9, .inl fm)), (oh, .inl (cI, 10000, .inl fh)), (ok_, .inl (cI, 166400, .inl fk)), (oK, .inl (cI, 64, .inl fK)), (og, .inl (cI, 32, .inl fs)), (on_, .inl (cI, 32, .inl fn)), (mo, .inr (8, [.int (iZ 0), .int (iZ (np : Int)), .ref ow, .ref om, .ref ok_, .ref oK, .ref og, .ref on_, .ref oh, .ref ox, .int qn, .int qf, .ref op_, .int ql]))] H := hP
            have hD : va_D A [(ow, .inl (cI, 108000, .inl fw)), (om, .inl (cI, 9, .inl fm)), (oh, .inl (cI, 10000, .inl fh)), (ok_, .inl (cI, 166400, .inl fk)), (oK, .inl (cI, 64, .inl fK)), (og, .inl (cI, 32, .inl fs)), (on_, .inl (cI, 32, .inl fn)), (mo, .inr (8, [.int (iZ 0), .int (iZ (np : Int)), .ref ow, .ref om, .ref ok_, .ref oK, .ref og, .ref on_, .ref oh, .ref ox, .int qn, .int qf, .ref op_, .int ql]))] := hD
            show W p l e R s m args below meth c H locs _ _ Q (F0 m 74 ls [.int (iZ rf)])
            refine zz_if_eq (tgt := 79) hx hb d_Mo_dot_74 (by decide) (by omega) (fun c74 => ?_) (fun c74 => False.elim (by omega))
            refine lv_aload_n hx hb d_Mo_dot_79 rfl (lv_at hl 1 rfl) ?_
            refine lv_iconst (v := iZ (0)) hx hb d_Mo_dot_80 (by decide +kernel) ?_
            refine lv_lconst (v := lZ (0)) hx hb d_Mo_dot_81 (by decide +kernel) ?_
            refine cv (n := 2) (wr := [(oh, .inl (cI, 10000, .inl fh)), (ok_, .inl (cI, 166400, .inl fk)), (oK, .inl (cI, 64, .inl fK)), (og, .inl (cI, 32, .inl fs)), (on_, .inl (cI, 32, .inl fn))]) (w1 := (fun (u : (Nat → Int32) × (Nat → Int32)) => [(mo, .inr (8, [.int (iZ 0), .int (iZ (np : Int)), .ref ow, .ref om, .ref ok_, .ref oK, .ref og, .ref on_, .ref oh, .ref ox, .int qn, .int qf, .ref op_, .int ql])), (ow, .inl (cI, 108000, .inl u.1)), (om, .inl (cI, 9, .inl u.2))])) (As := [.int (iZ 0), .long (lZ 0)]) (rest := []) K hP hD hK hS hA hl.1 (c_Mo_setLong l D mo (iZ 0) np ow om ok_ oK og on_ oh ox qn qf op_ ql fw fm cI val 0 0 H.size hW (by omega) (by omega)) [7, 0, 1] [2, 3, 4, 5, 6] [0] rfl rfl rfl (by decide) (by decide) (by decide) 0 rfl rfl (big_in mw_1180 rfl) (big_in mw_10 rfl) (big_in mw_1177 rfl) (big_in mw_1179 rfl) (big_in sp_19 rfl) rfl rfl (by decide +kernel) ⟨by rw [hR]; exact Nat.le_of_ble_eq_true rfl, by rw [hR]; exact Nat.le_of_ble_eq_true rfl⟩ rfl (Nat.le_of_ble_eq_true rfl) d_Mo_dot_82 ⟨by rw [hR]; exact Nat.le_of_ble_eq_true rfl, by rw [hR]; exact Nat.le_of_ble_eq_true rfl⟩ rfl (fun v u H locs hp17 hP hD hS _ => ?_)
            obtain ⟨fx11, fy11⟩ := u
            try dsimp only at hp17
            obtain ⟨rfl, w11⟩ := hp17
            have hP : va_P D cls0 [(oh, .inl (cI, 10000, .inl fh)), (ok_, .inl (cI, 166400, .inl fk)), (oK, .inl (cI, 64, .inl fK)), (og, .inl (cI, 32, .inl fs)), (on_, .inl (cI, 32, .inl fn)), (mo, .inr (8, [.int (iZ 0), .int (iZ (np : Int)), .ref ow, .ref om, .ref ok_, .ref oK, .ref og, .ref on_, .ref oh, .ref ox, .int qn, .int qf, .ref op_, .int ql])), (ow, .inl (cI, 108000, .inl fx11)), (om, .inl (cI, 9, .inl fy11))] H := hP
            have hD : va_D A [(oh, .inl (cI, 10000, .inl fh)), (ok_, .inl (cI, 166400, .inl fk)), (oK, .inl (cI, 64, .inl fK)), (og, .inl (cI, 32, .inl fs)), (on_, .inl (cI, 32, .inl fn)), (mo, .inr (8, [.int (iZ 0), .int (iZ (np : Int)), .ref ow, .ref om, .ref ok_, .ref oK, .ref og, .ref on_, .ref oh, .ref ox, .int qn, .int qf, .ref op_, .int ql])), (ow, .inl (cI, 108000, .inl fx11)), (om, .inl (cI, 9, .inl fy11))] := hD
            show W p l e R s m args below meth c H locs _ _ Q (F0 m 85 ls [])
            obtain ⟨v11, hv11⟩ : ∃ x, x = up val 0 0 := ⟨_, rfl⟩
            have w11 : WB fx11 fy11 v11 := by rw [hv11]; exact w11
            refine lv_aload_n hx hb d_Mo_dot_85 rfl (lv_at hl 1 rfl) ?_
            refine lv_iconst (v := iZ (1)) hx hb d_Mo_dot_86 (by decide +kernel) ?_
            refine lv_lconst (v := lZ (1)) hx hb d_Mo_dot_87 (by decide +kernel) ?_
            refine cv (n := 2) (wr := [(oh, .inl (cI, 10000, .inl fh)), (ok_, .inl (cI, 166400, .inl fk)), (oK, .inl (cI, 64, .inl fK)), (og, .inl (cI, 32, .inl fs)), (on_, .inl (cI, 32, .inl fn))]) (w1 := (fun (u : (Nat → Int32) × (Nat → Int32)) => [(mo, .inr (8, [.int (iZ 0), .int (iZ (np : Int)), .ref ow, .ref om, .ref ok_, .ref oK, .ref og, .ref on_, .ref oh, .ref ox, .int qn, .int qf, .ref op_, .int ql])), (ow, .inl (cI, 108000, .inl u.1)), (om, .inl (cI, 9, .inl u.2))])) (As := [.int (iZ 1), .long (lZ 1)]) (rest := []) K hP hD hK hS hA hl.1 (c_Mo_setLong l D mo (iZ 0) np ow om ok_ oK og on_ oh ox qn qf op_ ql fx11 fy11 cI v11 1 1 H.size w11 (by omega) (by omega)) [5, 6, 7] [0, 1, 2, 3, 4] [0] rfl rfl rfl (by decide) (by decide) (by decide) 0 rfl rfl (big_in mw_1180 rfl) (big_in mw_10 rfl) (big_in mw_1177 rfl) (big_in mw_1179 rfl) (big_in sp_19 rfl) rfl rfl (by decide +kernel) ⟨by rw [hR]; exact Nat.le_of_ble_eq_true rfl, by rw [hR]; exact Nat.le_of_ble_eq_true rfl⟩ rfl (Nat.le_of_ble_eq_true rfl) d_Mo_dot_88 ⟨by rw [hR]; exact Nat.le_of_ble_eq_true rfl, by rw [hR]; exact Nat.le_of_ble_eq_true rfl⟩ rfl (fun v u H locs hp18 hP hD hS _ => ?_)
            obtain ⟨fx12, fy12⟩ := u
            try dsimp only at hp18
            obtain ⟨rfl, w12⟩ := hp18
            have hP : va_P D cls0 [(oh, .inl (cI, 10000, .inl fh)), (ok_, .inl (cI, 166400, .inl fk)), (oK, .inl (cI, 64, .inl fK)), (og, .inl (cI, 32, .inl fs)), (on_, .inl (cI, 32, .inl fn)), (mo, .inr (8, [.int (iZ 0), .int (iZ (np : Int)), .ref ow, .ref om, .ref ok_, .ref oK, .ref og, .ref on_, .ref oh, .ref ox, .int qn, .int qf, .ref op_, .int ql])), (ow, .inl (cI, 108000, .inl fx12)), (om, .inl (cI, 9, .inl fy12))] H := hP
            have hD : va_D A [(oh, .inl (cI, 10000, .inl fh)), (ok_, .inl (cI, 166400, .inl fk)), (oK, .inl (cI, 64, .inl fK)), (og, .inl (cI, 32, .inl fs)), (on_, .inl (cI, 32, .inl fn)), (mo, .inr (8, [.int (iZ 0), .int (iZ (np : Int)), .ref ow, .ref om, .ref ok_, .ref oK, .ref og, .ref on_, .ref oh, .ref ox, .int qn, .int qf, .ref op_, .int ql])), (ow, .inl (cI, 108000, .inl fx12)), (om, .inl (cI, 9, .inl fy12))] := hD
            show W p l e R s m args below meth c H locs _ _ Q (F0 m 91 ls [])
            obtain ⟨v12, hv12⟩ : ∃ x, x = up v11 1 1 := ⟨_, rfl⟩
            have w12 : WB fx12 fy12 v12 := by rw [hv12]; exact w12
            refine lv_iconst (v := iZ (0)) hx hb d_Mo_dot_91 (by decide +kernel) ?_
            refine lv_istore (lv' := [(6, .int (iZ 0)), (5, .int (iZ 1)), (0, .ref mo), (1, .int (iZ (to : Int))), (2, .int (iZ (a : Int))), (3, .int (iZ (b_ : Int))), (4, .int (iZ (ct : Int)))]) hx hb d_Mo_dot_92 hl (by decide) rfl (fun ls hl => ?_)
            refine lv_iconst (v := iZ (0)) hx hb d_Mo_dot_94 (by decide +kernel) ?_
            refine lv_istore (lv' := [(7, .int (iZ 0)), (6, .int (iZ 0)), (5, .int (iZ 1)), (0, .ref mo), (1, .int (iZ (to : Int))), (2, .int (iZ (a : Int))), (3, .int (iZ (b_ : Int))), (4, .int (iZ (ct : Int)))]) hx hb d_Mo_dot_95 hl (by decide) rfl (fun ls hl => ?_)
            exact L97 _ 0 0 fx12 fy12 v12 _ _ _ (Nat.lt_succ_self _) (Nat.zero_le _) w12 (by rw [hv12, up_n (by decide), hv11, up_s]; rfl) (by rw [hv12, up_s]; rfl) rfl (hP.sub (ws' := [(mo, .inr (8, [.int (iZ 0), .int (iZ (np : Int)), .ref ow, .ref om, .ref ok_, .ref oK, .ref og, .ref on_, .ref oh, .ref ox, .int qn, .int qf, .ref op_, .int ql])), (ow, .inl (cI, 108000, .inl fx12)), (om, .inl (cI, 9, .inl fy12)), (oh, .inl (cI, 10000, .inl fh)), (ok_, .inl (cI, 166400, .inl fk)), (oK, .inl (cI, 64, .inl fK)), (og, .inl (cI, 32, .inl fs)), (on_, .inl (cI, 32, .inl fn))]) [5, 6, 7, 0, 1, 2, 3, 4] rfl) (hD.sub (ws' := [(mo, .inr (8, [.int (iZ 0), .int (iZ (np : Int)), .ref ow, .ref om, .ref ok_, .ref oK, .ref og, .ref on_, .ref oh, .ref ox, .int qn, .int qf, .ref op_, .int ql])), (ow, .inl (cI, 108000, .inl fx12)), (om, .inl (cI, 9, .inl fy12)), (oh, .inl (cI, 10000, .inl fh)), (ok_, .inl (cI, 166400, .inl fk)), (oK, .inl (cI, 64, .inl fK)), (og, .inl (cI, 32, .inl fs)), (on_, .inl (cI, 32, .inl fn))]) [5, 6, 7, 0, 1, 2, 3, 4] (by decide) rfl) hS (lv_sub hl [3, 4, 5, 6, 7, 1, 0] rfl)
          · refine lv_iconst (v := iZ (2)) hx hb d_Mo_dot_66 (by decide +kernel) ?_
            refine lv_goto (tgt := 71) hx hb d_Mo_dot_67 (by decide) ?_
            exfalso
            omega
set_option maxHeartbeats 4000000 in
set_option maxRecDepth 100000 in
/-- dot(to, a, b, n) -/
theorem f_Mo_dot (l : Launch) (D : va_G) (mo : Nat) (qc : Int32) (np : Nat) (ow : Nat) (om : Nat) (ok_ : Nat) (oK : Nat) (og : Nat) (on_ : Nat) (oh : Nat) (ox : Nat) (qn : Int32) (qf : Int32) (op_ : Nat) (ql : Int32) (fw : Nat → Int32) (fm : Nat → Int32) (cI : ClassId) (fh : Nat → Int32) (fk : Nat → Int32) (fK : Nat → Int32) (fs : Nat → Int32) (fn : Nat → Int32) (val : Nat → Nat) (tv : Nat → Nat) (bv : Nat → Nat) (sg : Nat → Int) (to : Nat) (a : Nat) (b_ : Nat) (ct : Nat) (sz : Nat) (hW : WB fw fm val) (hMR : MoR fk fK fs fn tv bv sg) (hnd : ndS tv bv 32 ≤ np) (hnp : np ≤ 1024) (J : RgC tv bv sg) (hbv : ∀ r, r < 32 → 0 < bv r) (t1 : to < 32) (t2 : a + ct ≤ 32) (t3_ : b_ + ct ≤ 32) (t4_ : a < 32) (t5_ : b_ < 32) (hfit : np + (lm (tv to) + lm (bv to)) < ndS tv bv 32 + (lm ((dtS tv bv sg a b_ ct).2.1) + lm ((dtS tv bv sg a b_ ct).2.2))) : Met l y_Mo_dot (wsB y_Mo_dot b_Mo_dot 8 (some .int)) ({ frames := 4, cells := 0, slots := 0, locals := 102 }) (va_Pc [.ref mo, .int (iZ (to : Int)), .int (iZ (a : Int)), .int (iZ (b_ : Int)), .int (iZ (ct : Int))] (wPre D [(cI, .int)] [(mo, .inr (8, [.int qc, .int (iZ (np : Int)), .ref ow, .ref om, .ref ok_, .ref oK, .ref og, .ref on_, .ref oh, .ref ox, .int qn, .int qf, .ref op_, .int ql])), (ow, .inl (cI, 108000, .inl fw)), (om, .inl (cI, 9, .inl fm)), (oh, .inl (cI, 10000, .inl fh)), (ok_, .inl (cI, 166400, .inl fk)), (oK, .inl (cI, 64, .inl fK)), (og, .inl (cI, 32, .inl fs)), (on_, .inl (cI, 32, .inl fn))] sz)) (va_QV (fun (v_9 : Option Value) (u_9 : (Nat → Int32) × (Nat → Int32) × (Nat → Int32) × (Nat → Nat)) => v_9 = some (.int (iZ 0)) ∧ (WB u_9.1 u_9.2.1 u_9.2.2.2)) (fun u_9 => wPost D [(cI, .int)] [(mo, .inr (8, [.int qc, .int (iZ (np : Int)), .ref ow, .ref om, .ref ok_, .ref oK, .ref og, .ref on_, .ref oh, .ref ox, .int qn, .int qf, .ref op_, .int ql])), (ow, .inl (cI, 108000, .inl fw)), (om, .inl (cI, 9, .inl fm)), (oh, .inl (cI, 10000, .inl fh)), (ok_, .inl (cI, 166400, .inl fk)), (oK, .inl (cI, 64, .inl fK)), (og, .inl (cI, 32, .inl fs)), (on_, .inl (cI, 32, .inl fn))] [(mo, .inr (8, [.int (iZ 3), .int (iZ (np : Int)), .ref ow, .ref om, .ref ok_, .ref oK, .ref og, .ref on_, .ref oh, .ref ox, .int qn, .int qf, .ref op_, .int ql])), (ow, .inl (cI, 108000, .inl u_9.1)), (om, .inl (cI, 9, .inl u_9.2.1)), (oh, .inl (cI, 10000, .inl u_9.2.2.1)), (ok_, .inl (cI, 166400, .inl fk)), (oK, .inl (cI, 64, .inl fK)), (og, .inl (cI, 32, .inl fs)), (on_, .inl (cI, 32, .inl fn))] sz) (va_A [(mo, .inr (8, [.int qc, .int (iZ (np : Int)), .ref ow, .ref om, .ref ok_, .ref oK, .ref og, .ref on_, .ref oh, .ref ox, .int qn, .int qf, .ref op_, .int ql])), (ow, .inl (cI, 108000, .inl fw)), (om, .inl (cI, 9, .inl fm)), (oh, .inl (cI, 10000, .inl fh)), (ok_, .inl (cI, 166400, .inl fk)), (oK, .inl (cI, 64, .inl fK)), (og, .inl (cI, 32, .inl fs)), (on_, .inl (cI, 32, .inl fn))] sz)) 0 0 (va_A [(mo, .inr (8, [.int qc, .int (iZ (np : Int)), .ref ow, .ref om, .ref ok_, .ref oK, .ref og, .ref on_, .ref oh, .ref ox, .int qn, .int qf, .ref op_, .int ql])), (ow, .inl (cI, 108000, .inl fw)), (om, .inl (cI, 9, .inl fm)), (oh, .inl (cI, 10000, .inl fh)), (ok_, .inl (cI, 166400, .inl fk)), (oK, .inl (cI, 64, .inl fK)), (og, .inl (cI, 32, .inl fs)), (on_, .inl (cI, 32, .inl fn))] sz) := by
  refine met_enter (by decide +kernel) (Nat.le_of_ble_eq_true rfl) ?_
  intro p e s m args below meth c ls A R Q H locs K hin hAe hA hR hQ hP hK hD hS hl
  obtain ⟨hx, hb, hml, hrt, hlk, hts, hown, hno⟩ := id K
  have hl : lv_has ls 8 [(0, .ref mo), (1, .int (iZ (to : Int))), (2, .int (iZ (a : Int))), (3, .int (iZ (b_ : Int))), (4, .int (iZ (ct : Int)))] := hl
  have hlr : ∀ q, q < 32 → lm (tv q) + lm (bv q) ≤ 1024 := fun q hq => by have z := ndS_le (tv := tv) (bv := bv) hq; omega
  have hnt : ∀ q, q < 32 → nd (tv q) ≤ 2600 := fun q hq => by have z := nd_lm (v := tv q) (L := 1024) (by have y := hlr q hq; omega); omega
  have hnb : ∀ q, q < 32 → nd (bv q) ≤ 2600 := fun q hq => by have z := nd_lm (v := bv q) (L := 1024) (by have y := hlr q hq; omega); omega
  have L97 : ∀ (N : Nat) (k : Nat) (sn : Int) (fx : Nat → Int32) (fy : Nat → Int32) (vl : Nat → Nat) (H : Heap) (locs : List Loc) (ls : Array Slot), ct - k < N → (k ≤ ct) → (WB fx fy vl) → (vl 0 = (dtS tv bv sg a b_ k).2.1) → (vl 1 = (dtS tv bv sg a b_ k).2.2) → (sn = (dtS tv bv sg a b_ k).1) → va_P D cls0 [(mo, .inr (8, [.int (iZ 0), .int (iZ (np : Int)), .ref ow, .ref om, .ref ok_, .ref oK, .ref og, .ref on_, .ref oh, .ref ox, .int qn, .int qf, .ref op_, .int ql])), (ow, .inl (cI, 108000, .inl fx)), (om, .inl (cI, 9, .inl fy)), (oh, .inl (cI, 10000, .inl fh)), (ok_, .inl (cI, 166400, .inl fk)), (oK, .inl (cI, 64, .inl fK)), (og, .inl (cI, 32, .inl fs)), (on_, .inl (cI, 32, .inl fn))] H → va_D A [(mo, .inr (8, [.int (iZ 0), .int (iZ (np : Int)), .ref ow, .ref om, .ref ok_, .ref oK, .ref og, .ref on_, .ref oh, .ref ox, .int qn, .int qf, .ref op_, .int ql])), (ow, .inl (cI, 108000, .inl fx)), (om, .inl (cI, 9, .inl fy)), (oh, .inl (cI, 10000, .inl fh)), (ok_, .inl (cI, 166400, .inl fk)), (oK, .inl (cI, 64, .inl fK)), (og, .inl (cI, 32, .inl fs)), (on_, .inl (cI, 32, .inl fn))] → va_S A s.heap H locs → lv_has ls 8 [(0, .ref mo), (1, .int (iZ (to : Int))), (2, .int (iZ (a : Int))), (3, .int (iZ (b_ : Int))), (4, .int (iZ (ct : Int))), (6, .int (iZ sn)), (7, .int (iZ (k : Int)))] → W p l e R s m args below meth c H locs 0 0 Q (F0 m 97 ls []) := by
    intro N
    induction N with
    | zero => intro k sn fx fy vl H locs ls hN; exact absurd hN (Nat.not_lt_zero _)
    | succ N ih =>
      intro k sn fx fy vl H locs ls hN ik iW i0 i1 isn hP hD hS hl
      refine lv_iload hx hb d_Mo_dot_97 (lv_at hl 6 rfl) ?_
      refine lv_iload hx hb d_Mo_dot_99 (lv_at hl 4 rfl) ?_
      refine zz_icmp_ge (tgt := 203) hx hb d_Mo_dot_101 (by decide) (by omega) (by omega) (fun c101 => ?_) (fun c101 => ?_)
      · have ek : k = ct := by omega
        subst ek
        obtain ⟨c1, c2, c3, c4, c5⟩ := dt_inv J hbv (a := a) (b := b_) k (by omega) (by omega)
        have ns1 := nsum_le tv bv (a := a) (k := k) (by omega)
        have ns2 := nsum_le tv bv (a := b_) (k := k) (by omega)
        have lN : lm (dtS tv bv sg a b_ k).2.1 ≤ nsum tv bv a k + nsum tv bv b_ k := lm_le.mpr (by omega)
        have lD : lm (dtS tv bv sg a b_ k).2.2 ≤ nsum tv bv a k + nsum tv bv b_ k + 1 := lm_le.mpr (by rw [pB_s]; omega)
        rw [← isn] at c4
        refine lv_aload_n hx hb d_Mo_dot_203 rfl (lv_at hl 0 rfl) ?_
        refine lv_iload_n hx hb d_Mo_dot_204 rfl (lv_at hl 1 rfl) ?_
        refine lv_iload hx hb d_Mo_dot_205 (lv_at hl 5 rfl) ?_
        refine lv_iconst (v := iZ (3)) hx hb d_Mo_dot_207 (by decide +kernel) ?_
        refine cv (n := 3) (wr := []) (w1 := (fun (u : (Nat → Int32) × (Nat → Int32) × (Nat → Int32) × (Nat → Nat)) => [(mo, .inr (8, [.int (iZ 3), .int (iZ (np : Int)), .ref ow, .ref om, .ref ok_, .ref oK, .ref og, .ref on_, .ref oh, .ref ox, .int qn, .int qf, .ref op_, .int ql])), (ow, .inl (cI, 108000, .inl u.1)), (om, .inl (cI, 9, .inl u.2.1)), (oh, .inl (cI, 10000, .inl u.2.2.1)), (ok_, .inl (cI, 166400, .inl fk)), (oK, .inl (cI, 64, .inl fK)), (og, .inl (cI, 32, .inl fs)), (on_, .inl (cI, 32, .inl fn))])) (As := [.int (iZ (to : Int)), .int (iZ sn), .int (iZ 3)]) (rest := []) K hP hD hK hS hA hl.1 (c_Mo_storeX l D mo (iZ 0) np ow om ok_ oK og on_ oh ox qn qf op_ ql fx fy cI fh fk fK fs fn vl tv bv sg to sn 3 H.size iW hMR (by omega) hnd hnp (by omega) (by decide) (by rw [i0]; omega) (by rw [i1]; omega) (by rw [i0, i1]; exact hfit)) [0, 1, 2, 3, 4, 5, 6, 7] [] [0] rfl rfl rfl (by decide) (by decide) (by decide) 0 rfl rfl (big_in mw_1215 rfl) (big_in mw_10 rfl) (big_in mw_1212 rfl) (big_in mw_1214 rfl) (big_in sp_27 rfl) rfl rfl (by decide +kernel) ⟨by rw [hR]; exact Nat.le_of_ble_eq_true rfl, by rw [hR]; exact Nat.le_of_ble_eq_true rfl⟩ rfl (Nat.le_of_ble_eq_true rfl) d_Mo_dot_208 ⟨by rw [hR]; exact Nat.le_of_ble_eq_true rfl, by rw [hR]; exact Nat.le_of_ble_eq_true rfl⟩ rfl (fun v u H locs hp1 hP hD hS _ => ?_)
        obtain ⟨fa, fb, fc, v9⟩ := u
        try dsimp only at hp1
        obtain ⟨rfl, w9⟩ := hp1
        have hP : va_P D cls0 [(mo, .inr (8, [.int (iZ 3), .int (iZ (np : Int)), .ref ow, .ref om, .ref ok_, .ref oK, .ref og, .ref on_, .ref oh, .ref ox, .int qn, .int qf, .ref op_, .int ql])), (ow, .inl (cI, 108000, .inl fa)), (om, .inl (cI, 9, .inl fb)), (oh, .inl (cI, 10000, .inl fc)), (ok_, .inl (cI, 166400, .inl fk)), (oK, .inl (cI, 64, .inl fK)), (og, .inl (cI, 32, .inl fs)), (on_, .inl (cI, 32, .inl fn))] H := hP
        have hD : va_D A [(mo, .inr (8, [.int (iZ 3), .int (iZ (np : Int)), .ref ow, .ref om, .ref ok_, .ref oK, .ref og, .ref on_, .ref oh, .ref ox, .int qn, .int qf, .ref op_, .int ql])), (ow, .inl (cI, 108000, .inl fa)), (om, .inl (cI, 9, .inl fb)), (oh, .inl (cI, 10000, .inl fc)), (ok_, .inl (cI, 166400, .inl fk)), (oK, .inl (cI, 64, .inl fK)), (og, .inl (cI, 32, .inl fs)), (on_, .inl (cI, 32, .inl fn))] := hD
        show W p l e R s m args below meth c H locs _ _ Q (F0 m 211 ls [.int (iZ 0)])
        have hP9 : va_P D cls0 [(mo, .inr (8, [.int (iZ 3), .int (iZ (np : Int)), .ref ow, .ref om, .ref ok_, .ref oK, .ref og, .ref on_, .ref oh, .ref ox, .int qn, .int qf, .ref op_, .int ql])), (ow, .inl (cI, 108000, .inl fa)), (om, .inl (cI, 9, .inl fb)), (oh, .inl (cI, 10000, .inl fc)), (ok_, .inl (cI, 166400, .inl fk)), (oK, .inl (cI, 64, .inl fK)), (og, .inl (cI, 32, .inl fs)), (on_, .inl (cI, 32, .inl fn))] H := hP.sub [0, 1, 2, 3, 4, 5, 6, 7] rfl
        have hD9 : va_D A [(mo, .inr (8, [.int (iZ 3), .int (iZ (np : Int)), .ref ow, .ref om, .ref ok_, .ref oK, .ref og, .ref on_, .ref oh, .ref ox, .int qn, .int qf, .ref op_, .int ql])), (ow, .inl (cI, 108000, .inl fa)), (om, .inl (cI, 9, .inl fb)), (oh, .inl (cI, 10000, .inl fc)), (ok_, .inl (cI, 166400, .inl fk)), (oK, .inl (cI, 64, .inl fK)), (og, .inl (cI, 32, .inl fs)), (on_, .inl (cI, 32, .inl fn))] := hD.sub [0, 1, 2, 3, 4, 5, 6, 7] (by decide) rfl
        rw [hQ, ← hAe]
        refine r_i (v := (iZ 0)) K (fa, fb, fc, v9) hS d_Mo_dot_211 ?_ (fun t ht hv => ?_)
        · exact ⟨rfl, w9⟩
        · exact ⟨by rw [ht]; exact hP9, va_K.moved hv hK, by rw [← hAe]; exact hD9⟩
      · have ka : a + k < 32 := by omega
        have kb_ : b_ + k < 32 := by omega
        obtain ⟨ja1, ja2, ja3⟩ := J (a + k) ka
        obtain ⟨jb1, jb2, jb3⟩ := J (b_ + k) kb_
        have pa := hbv (a + k) ka
        have pb := hbv (b_ + k) kb_
        have n1 := hnt (a + k) ka
        have n2 := hnb (a + k) ka
        have n3 := hnt (b_ + k) kb_
        have n4 := hnb (b_ + k) kb_
        obtain ⟨c1, c2, c3, c4, c5⟩ := dt_inv J hbv (a := a) (b := b_) k (by omega) (by omega)
        rw [← isn] at c3 c4
        obtain ⟨sg1, sg2⟩ := sg_prod ja3 jb3 ja2 jb2
        have ns1 := nsum_le tv bv (a := a) (k := k) (by omega)
        have ns2 := nsum_le tv bv (a := b_) (k := k) (by omega)
        have lN : lm (dtS tv bv sg a b_ k).2.1 ≤ nsum tv bv a k + nsum tv bv b_ k := lm_le.mpr (by omega)
        have lD : lm (dtS tv bv sg a b_ k).2.2 ≤ nsum tv bv a k + nsum tv bv b_ k + 1 := lm_le.mpr (by rw [pB_s]; omega)
        have dN := nd_lm (v := (dtS tv bv sg a b_ k).2.1) (L := 2049) (by omega)
        have dD := nd_lm (v := (dtS tv bv sg a b_ k).2.2) (L := 2049) (by omega)
        refine lv_aload_n hx hb d_Mo_dot_104 rfl (lv_at hl 0 rfl) ?_
        refine lv_iconst (v := iZ (4)) hx hb d_Mo_dot_105 (by decide +kernel) ?_
        refine lv_iconst (v := iZ (2)) hx hb d_Mo_dot_106 (by decide +kernel) ?_
        refine lv_iload_n hx hb d_Mo_dot_107 rfl (lv_at hl 2 rfl) ?_
        refine lv_iload hx hb d_Mo_dot_108 (lv_at hl 6 rfl) ?_
        refine zz_iadd hx hb d_Mo_dot_110 ?_
        refine zz_imul hx hb d_Mo_dot_111 ?_
        rw [show (2 * ((a : Int) + (k : Int)) : Int) = ((2 * (a + k) : Nat) : Int) by omega]
        refine cv (n := 2) (wr := [(oh, .inl (cI, 10000, .inl fh)), (og, .inl (cI, 32, .inl fs)), (on_, .inl (cI, 32, .inl fn))]) (w1 := (fun (u : (Nat → Int32) × (Nat → Int32)) => [(mo, .inr (8, [.int (iZ 0), .int (iZ (np : Int)), .ref ow, .ref om, .ref ok_, .ref oK, .ref og, .ref on_, .ref oh, .ref ox, .int qn, .int qf, .ref op_, .int ql])), (ow, .inl (cI, 108000, .inl u.1)), (om, .inl (cI, 9, .inl u.2)), (ok_, .inl (cI, 166400, .inl fk)), (oK, .inl (cI, 64, .inl fK))])) (As := [.int (iZ 4), .int (iZ ((2 * (a + k) : Nat) : Int))]) (rest := []) K hP hD hK hS hA hl.1 (c_Mo_load l D mo (iZ 0) np ow om ok_ oK og on_ oh ox qn qf op_ ql fx fy cI fk fK vl (kvf tv bv) 4 (2 * (a + k)) H.size iW hMR.1 (by decide) (by omega)) [0, 1, 2, 4, 5] [3, 6, 7] [0] rfl rfl rfl (by decide) (by decide) (by decide) 0 rfl rfl (big_in mw_1238 rfl) (big_in mw_10 rfl) (big_in mw_1235 rfl) (big_in mw_1237 rfl) (big_in sp_31 rfl) rfl rfl (by decide +kernel) ⟨by rw [hR]; exact Nat.le_of_ble_eq_true rfl, by rw [hR]; exact Nat.le_of_ble_eq_true rfl⟩ rfl (Nat.le_of_ble_eq_true rfl) d_Mo_dot_112 ⟨by rw [hR]; exact Nat.le_of_ble_eq_true rfl, by rw [hR]; exact Nat.le_of_ble_eq_true rfl⟩ rfl (fun v u H locs hp2 hP hD hS _ => ?_)
        obtain ⟨fx1, fy1⟩ := u
        try dsimp only at hp2
        obtain ⟨rfl, w1⟩ := hp2
        have hP : va_P D cls0 [(oh, .inl (cI, 10000, .inl fh)), (og, .inl (cI, 32, .inl fs)), (on_, .inl (cI, 32, .inl fn)), (mo, .inr (8, [.int (iZ 0), .int (iZ (np : Int)), .ref ow, .ref om, .ref ok_, .ref oK, .ref og, .ref on_, .ref oh, .ref ox, .int qn, .int qf, .ref op_, .int ql])), (ow, .inl (cI, 108000, .inl fx1)), (om, .inl (cI, 9, .inl fy1)), (ok_, .inl (cI, 166400, .inl fk)), (oK, .inl (cI, 64, .inl fK))] H := hP
        have hD : va_D A [(oh, .inl (cI, 10000, .inl fh)), (og, .inl (cI, 32, .inl fs)), (on_, .inl (cI, 32, .inl fn)), (mo, .inr (8, [.int (iZ 0), .int (iZ (np : Int)), .ref ow, .ref om, .ref ok_, .ref oK, .ref og, .ref on_, .ref oh, .ref ox, .int qn, .int qf, .ref op_, .int ql])), (ow, .inl (cI, 108000, .inl fx1)), (om, .inl (cI, 9, .inl fy1)), (ok_, .inl (cI, 166400, .inl fk)), (oK, .inl (cI, 64, .inl fK))] := hD
        show W p l e R s m args below meth c H locs _ _ Q (F0 m 115 ls [])
        rw [kvf_0] at w1
        obtain ⟨v1, hv1⟩ : ∃ z, z = up vl 4 (tv (a + k)) := ⟨_, rfl⟩
        rw [← hv1] at w1
        refine lv_aload_n hx hb d_Mo_dot_115 rfl (lv_at hl 0 rfl) ?_
        refine lv_iconst (v := iZ (5)) hx hb d_Mo_dot_116 (by decide +kernel) ?_
        refine lv_iconst (v := iZ (2)) hx hb d_Mo_dot_117 (by decide +kernel) ?_
        refine lv_iload_n hx hb d_Mo_dot_118 rfl (lv_at hl 3 rfl) ?_
        refine lv_iload hx hb d_Mo_dot_119 (lv_at hl 6 rfl) ?_
        refine zz_iadd hx hb d_Mo_dot_121 ?_
        refine zz_imul hx hb d_Mo_dot_122 ?_
        rw [show (2 * ((b_ : Int) + (k : Int)) : Int) = ((2 * (b_ + k) : Nat) : Int) by omega]
        refine cv (n := 2) (wr := [(oh, .inl (cI, 10000, .inl fh)), (og, .inl (cI, 32, .inl fs)), (on_, .inl (cI, 32, .inl fn))]) (w1 := (fun (u : (Nat → Int32) × (Nat → Int32)) => [(mo, .inr (8, [.int (iZ 0), .int (iZ (np : Int)), .ref ow, .ref om, .ref ok_, .ref oK, .ref og, .ref on_, .ref oh, .ref ox, .int qn, .int qf, .ref op_, .int ql])), (ow, .inl (cI, 108000, .inl u.1)), (om, .inl (cI, 9, .inl u.2)), (ok_, .inl (cI, 166400, .inl fk)), (oK, .inl (cI, 64, .inl fK))])) (As := [.int (iZ 5), .int (iZ ((2 * (b_ + k) : Nat) : Int))]) (rest := []) K hP hD hK hS hA hl.1 (c_Mo_load l D mo (iZ 0) np ow om ok_ oK og on_ oh ox qn qf op_ ql fx1 fy1 cI fk fK v1 (kvf tv bv) 5 (2 * (b_ + k)) H.size w1 hMR.1 (by decide) (by omega)) [3, 4, 5, 6, 7] [0, 1, 2] [0] rfl rfl rfl (by decide) (by decide) (by decide) 0 rfl rfl (big_in mw_1238 rfl) (big_in mw_10 rfl) (big_in mw_1235 rfl) (big_in mw_1237 rfl) (big_in sp_31 rfl) rfl rfl (by decide +kernel) ⟨by rw [hR]; exact Nat.le_of_ble_eq_true rfl, by rw [hR]; exact Nat.le_of_ble_eq_true rfl⟩ rfl (Nat.le_of_ble_eq_true rfl) d_Mo_dot_123 ⟨by rw [hR]; exact Nat.le_of_ble_eq_true rfl, by rw [hR]; exact Nat.le_of_ble_eq_true rfl⟩ rfl (fun v u H locs hp3 hP hD hS _ => ?_)
        obtain ⟨fx2, fy2⟩ := u
        try dsimp only at hp3
        obtain ⟨rfl, w2⟩ := hp3
        have hP : va_P D cls0 [(oh, .inl (cI, 10000, .inl fh)), (og, .inl (cI, 32, .inl fs)), (on_, .inl (cI, 32, .inl fn)), (mo, .inr (8, [.int (iZ 0), .int (iZ (np : Int)), .ref ow, .ref om, .ref ok_, .ref oK, .ref og, .ref on_, .ref oh, .ref ox, .int qn, .int qf, .ref op_, .int ql])), (ow, .inl (cI, 108000, .inl fx2)), (om, .inl (cI, 9, .inl fy2)), (ok_, .inl (cI, 166400, .inl fk)), (oK, .inl (cI, 64, .inl fK))] H := hP
        have hD : va_D A [(oh, .inl (cI, 10000, .inl fh)), (og, .inl (cI, 32, .inl fs)), (on_, .inl (cI, 32, .inl fn)), (mo, .inr (8, [.int (iZ 0), .int (iZ (np : Int)), .ref ow, .ref om, .ref ok_, .ref oK, .ref og, .ref on_, .ref oh, .ref ox, .int qn, .int qf, .ref op_, .int ql])), (ow, .inl (cI, 108000, .inl fx2)), (om, .inl (cI, 9, .inl fy2)), (ok_, .inl (cI, 166400, .inl fk)), (oK, .inl (cI, 64, .inl fK))] := hD
        show W p l e R s m args below meth c H locs _ _ Q (F0 m 126 ls [])
        rw [kvf_0] at w2
        obtain ⟨v2, hv2⟩ : ∃ z, z = up v1 5 (tv (b_ + k)) := ⟨_, rfl⟩
        rw [← hv2] at w2
        have y24 : v2 4 = tv (a + k) := by simp [hv2, hv1, up]
        have y25 : v2 5 = tv (b_ + k) := by simp [hv2, hv1, up]
        refine lv_aload_n hx hb d_Mo_dot_126 rfl (lv_at hl 0 rfl) ?_
        refine lv_iconst (v := iZ (2)) hx hb d_Mo_dot_127 (by decide +kernel) ?_
        refine lv_iconst (v := iZ (4)) hx hb d_Mo_dot_128 (by decide +kernel) ?_
        refine lv_iconst (v := iZ (5)) hx hb d_Mo_dot_129 (by decide +kernel) ?_
        refine cv (n := 3) (wr := [(oh, .inl (cI, 10000, .inl fh)), (og, .inl (cI, 32, .inl fs)), (on_, .inl (cI, 32, .inl fn)), (ok_, .inl (cI, 166400, .inl fk)), (oK, .inl (cI, 64, .inl fK))]) (w1 := (fun (u : (Nat → Int32) × (Nat → Int32)) => [(mo, .inr (8, [.int (iZ 0), .int (iZ (np : Int)), .ref ow, .ref om, .ref ok_, .ref oK, .ref og, .ref on_, .ref oh, .ref ox, .int qn, .int qf, .ref op_, .int ql])), (ow, .inl (cI, 108000, .inl u.1)), (om, .inl (cI, 9, .inl u.2))])) (As := [.int (iZ 2), .int (iZ 4), .int (iZ 5)]) (rest := []) K hP hD hK hS hA hl.1 (c_Mo_product l D mo (iZ 0) np ow om ok_ oK og on_ oh ox qn qf op_ ql fx2 fy2 cI v2 2 4 5 H.size w2 (by decide) (by decide) (by decide) (by decide) (by decide) (by rw [y24, y25]; omega)) [3, 4, 5] [0, 1, 2, 6, 7] [0] rfl rfl rfl (by decide) (by decide) (by decide) 0 rfl rfl (big_in mw_1258 rfl) (big_in mw_10 rfl) (big_in mw_1255 rfl) (big_in mw_1257 rfl) (big_in sp_34 rfl) rfl rfl (by decide +kernel) ⟨by rw [hR]; exact Nat.le_of_ble_eq_true rfl, by rw [hR]; exact Nat.le_of_ble_eq_true rfl⟩ rfl (Nat.le_of_ble_eq_true rfl) d_Mo_dot_130 ⟨by rw [hR]; exact Nat.le_of_ble_eq_true rfl, by rw [hR]; exact Nat.le_of_ble_eq_true rfl⟩ rfl (fun v u H locs hp4 hP hD hS _ => ?_)
        obtain ⟨fx3, fy3⟩ := u
        try dsimp only at hp4
        obtain ⟨rfl, w3⟩ := hp4
        have hP : va_P D cls0 [(oh, .inl (cI, 10000, .inl fh)), (og, .inl (cI, 32, .inl fs)), (on_, .inl (cI, 32, .inl fn)), (ok_, .inl (cI, 166400, .inl fk)), (oK, .inl (cI, 64, .inl fK)), (mo, .inr (8, [.int (iZ 0), .int (iZ (np : Int)), .ref ow, .ref om, .ref ok_, .ref oK, .ref og, .ref on_, .ref oh, .ref ox, .int qn, .int qf, .ref op_, .int ql])), (ow, .inl (cI, 108000, .inl fx3)), (om, .inl (cI, 9, .inl fy3))] H := hP
        have hD : va_D A [(oh, .inl (cI, 10000, .inl fh)), (og, .inl (cI, 32, .inl fs)), (on_, .inl (cI, 32, .inl fn)), (ok_, .inl (cI, 166400, .inl fk)), (oK, .inl (cI, 64, .inl fK)), (mo, .inr (8, [.int (iZ 0), .int (iZ (np : Int)), .ref ow, .ref om, .ref ok_, .ref oK, .ref og, .ref on_, .ref oh, .ref ox, .int qn, .int qf, .ref op_, .int ql])), (ow, .inl (cI, 108000, .inl fx3)), (om, .inl (cI, 9, .inl fy3))] := hD
        show W p l e R s m args below meth c H locs _ _ Q (F0 m 133 ls [])
        obtain ⟨v3, hv3⟩ : ∃ z, z = up v2 2 (v2 4 * v2 5) := ⟨_, rfl⟩
        rw [← hv3] at w3
        have y32 : v3 2 = tv (a + k) * tv (b_ + k) := by rw [hv3, up_s, y24, y25]
        refine lv_aload_n hx hb d_Mo_dot_133 rfl (lv_at hl 0 rfl) ?_
        refine lv_iconst (v := iZ (4)) hx hb d_Mo_dot_134 (by decide +kernel) ?_
        refine lv_iconst (v := iZ (2)) hx hb d_Mo_dot_135 (by decide +kernel) ?_
        refine lv_iload_n hx hb d_Mo_dot_136 rfl (lv_at hl 2 rfl) ?_
        refine lv_iload hx hb d_Mo_dot_137 (lv_at hl 6 rfl) ?_
        refine zz_iadd hx hb d_Mo_dot_139 ?_
        refine zz_imul hx hb d_Mo_dot_140 ?_
        refine lv_iconst (v := iZ (1)) hx hb d_Mo_dot_141 (by decide +kernel) ?_
        refine zz_iadd hx hb d_Mo_dot_142 ?_
        rw [show (2 * ((a : Int) + (k : Int)) + 1 : Int) = ((2 * (a + k) + 1 : Nat) : Int) by omega]
        refine cv (n := 2) (wr := [(oh, .inl (cI, 10000, .inl fh)), (og, .inl (cI, 32, .inl fs)), (on_, .inl (cI, 32, .inl fn))]) (w1 := (fun (u : (Nat → Int32) × (Nat → Int32)) => [(mo, .inr (8, [.int (iZ 0), .int (iZ (np : Int)), .ref ow, .ref om, .ref ok_, .ref oK, .ref og, .ref on_, .ref oh, .ref ox, .int qn, .int qf, .ref op_, .int ql])), (ow, .inl (cI, 108000, .inl u.1)), (om, .inl (cI, 9, .inl u.2)), (ok_, .inl (cI, 166400, .inl fk)), (oK, .inl (cI, 64, .inl fK))])) (As := [.int (iZ 4), .int (iZ ((2 * (a + k) + 1 : Nat) : Int))]) (rest := []) K hP hD hK hS hA hl.1 (c_Mo_load l D mo (iZ 0) np ow om ok_ oK og on_ oh ox qn qf op_ ql fx3 fy3 cI fk fK v3 (kvf tv bv) 4 (2 * (a + k) + 1) H.size w3 hMR.1 (by decide) (by omega)) [5, 6, 7, 3, 4] [0, 1, 2] [0] rfl rfl rfl (by decide) (by decide) (by decide) 0 rfl rfl (big_in mw_1238 rfl) (big_in mw_10 rfl) (big_in mw_1235 rfl) (big_in mw_1237 rfl) (big_in sp_31 rfl) rfl rfl (by decide +kernel) ⟨by rw [hR]; exact Nat.le_of_ble_eq_true rfl, by rw [hR]; exact Nat.le_of_ble_eq_true rfl⟩ rfl (Nat.le_of_ble_eq_true rfl) d_Mo_dot_143 ⟨by rw [hR]; exact Nat.le_of_ble_eq_true rfl, by rw [hR]; exact Nat.le_of_ble_eq_true rfl⟩ rfl (fun v u H locs hp5 hP hD hS _ => ?_)
        obtain ⟨fx4, fy4⟩ := u
        try dsimp only at hp5
        obtain ⟨rfl, w4⟩ := hp5
        have hP : va_P D cls0 [(oh, .inl (cI, 10000, .inl fh)), (og, .inl (cI, 32, .inl fs)), (on_, .inl (cI, 32, .inl fn)), (mo, .inr (8, [.int (iZ 0), .int (iZ (np : Int)), .ref ow, .ref om, .ref ok_, .ref oK, .ref og, .ref on_, .ref oh, .ref ox, .int qn, .int qf, .ref op_, .int ql])), (ow, .inl (cI, 108000, .inl fx4)), (om, .inl (cI, 9, .inl fy4)), (ok_, .inl (cI, 166400, .inl fk)), (oK, .inl (cI, 64, .inl fK))] H := hP
        have hD : va_D A [(oh, .inl (cI, 10000, .inl fh)), (og, .inl (cI, 32, .inl fs)), (on_, .inl (cI, 32, .inl fn)), (mo, .inr (8, [.int (iZ 0), .int (iZ (np : Int)), .ref ow, .ref om, .ref ok_, .ref oK, .ref og, .ref on_, .ref oh, .ref ox, .int qn, .int qf, .ref op_, .int ql])), (ow, .inl (cI, 108000, .inl fx4)), (om, .inl (cI, 9, .inl fy4)), (ok_, .inl (cI, 166400, .inl fk)), (oK, .inl (cI, 64, .inl fK))] := hD
        show W p l e R s m args below meth c H locs _ _ Q (F0 m 146 ls [])
        rw [kvf_1] at w4
        obtain ⟨v4, hv4⟩ : ∃ z, z = up v3 4 (bv (a + k)) := ⟨_, rfl⟩
        rw [← hv4] at w4
        refine lv_aload_n hx hb d_Mo_dot_146 rfl (lv_at hl 0 rfl) ?_
        refine lv_iconst (v := iZ (5)) hx hb d_Mo_dot_147 (by decide +kernel) ?_
        refine lv_iconst (v := iZ (2)) hx hb d_Mo_dot_148 (by decide +kernel) ?_
        refine lv_iload_n hx hb d_Mo_dot_149 rfl (lv_at hl 3 rfl) ?_
        refine lv_iload hx hb d_Mo_dot_150 (lv_at hl 6 rfl) ?_
        refine zz_iadd hx hb d_Mo_dot_152 ?_
        refine zz_imul hx hb d_Mo_dot_153 ?_
        refine lv_iconst (v := iZ (1)) hx hb d_Mo_dot_154 (by decide +kernel) ?_
        refine zz_iadd hx hb d_Mo_dot_155 ?_
        rw [show (2 * ((b_ : Int) + (k : Int)) + 1 : Int) = ((2 * (b_ + k) + 1 : Nat) : Int) by omega]
        refine cv (n := 2) (wr := [(oh, .inl (cI, 10000, .inl fh)), (og, .inl (cI, 32, .inl fs)), (on_, .inl (cI, 32, .inl fn))]) (w1 := (fun (u : (Nat → Int32) × (Nat → Int32)) => [(mo, .inr (8, [.int (iZ 0), .int (iZ (np : Int)), .ref ow, .ref om, .ref ok_, .ref oK, .ref og, .ref on_, .ref oh, .ref ox, .int qn, .int qf, .ref op_, .int ql])), (ow, .inl (cI, 108000, .inl u.1)), (om, .inl (cI, 9, .inl u.2)), (ok_, .inl (cI, 166400, .inl fk)), (oK, .inl (cI, 64, .inl fK))])) (As := [.int (iZ 5), .int (iZ ((2 * (b_ + k) + 1 : Nat) : Int))]) (rest := []) K hP hD hK hS hA hl.1 (c_Mo_load l D mo (iZ 0) np ow om ok_ oK og on_ oh ox qn qf op_ ql fx4 fy4 cI fk fK v4 (kvf tv bv) 5 (2 * (b_ + k) + 1) H.size w4 hMR.1 (by decide) (by omega)) [3, 4, 5, 6, 7] [0, 1, 2] [0] rfl rfl rfl (by decide) (by decide) (by decide) 0 rfl rfl (big_in mw_1238 rfl) (big_in mw_10 rfl) (big_in mw_1235 rfl) (big_in mw_1237 rfl) (big_in sp_31 rfl) rfl rfl (by decide +kernel) ⟨by rw [hR]; exact Nat.le_of_ble_eq_true rfl, by rw [hR]; exact Nat.le_of_ble_eq_true rfl⟩ rfl (Nat.le_of_ble_eq_true rfl) d_Mo_dot_156 ⟨by rw [hR]; exact Nat.le_of_ble_eq_true rfl, by rw [hR]; exact Nat.le_of_ble_eq_true rfl⟩ rfl (fun v u H locs hp6 hP hD hS _ => ?_)
        obtain ⟨fx5, fy5⟩ := u
        try dsimp only at hp6
        obtain ⟨rfl, w5⟩ := hp6
        have hP : va_P D cls0 [(oh, .inl (cI, 10000, .inl fh)), (og, .inl (cI, 32, .inl fs)), (on_, .inl (cI, 32, .inl fn)), (mo, .inr (8, [.int (iZ 0), .int (iZ (np : Int)), .ref ow, .ref om, .ref ok_, .ref oK, .ref og, .ref on_, .ref oh, .ref ox, .int qn, .int qf, .ref op_, .int ql])), (ow, .inl (cI, 108000, .inl fx5)), (om, .inl (cI, 9, .inl fy5)), (ok_, .inl (cI, 166400, .inl fk)), (oK, .inl (cI, 64, .inl fK))] H := hP
        have hD : va_D A [(oh, .inl (cI, 10000, .inl fh)), (og, .inl (cI, 32, .inl fs)), (on_, .inl (cI, 32, .inl fn)), (mo, .inr (8, [.int (iZ 0), .int (iZ (np : Int)), .ref ow, .ref om, .ref ok_, .ref oK, .ref og, .ref on_, .ref oh, .ref ox, .int qn, .int qf, .ref op_, .int ql])), (ow, .inl (cI, 108000, .inl fx5)), (om, .inl (cI, 9, .inl fy5)), (ok_, .inl (cI, 166400, .inl fk)), (oK, .inl (cI, 64, .inl fK))] := hD
        show W p l e R s m args below meth c H locs _ _ Q (F0 m 159 ls [])
        rw [kvf_1] at w5
        obtain ⟨v5, hv5⟩ : ∃ z, z = up v4 5 (bv (b_ + k)) := ⟨_, rfl⟩
        rw [← hv5] at w5
        have y54 : v5 4 = bv (a + k) := by simp [hv5, hv4, up]
        have y55 : v5 5 = bv (b_ + k) := by simp [hv5, hv4, up]
        refine lv_aload_n hx hb d_Mo_dot_159 rfl (lv_at hl 0 rfl) ?_
        refine lv_iconst (v := iZ (3)) hx hb d_Mo_dot_160 (by decide +kernel) ?_
        refine lv_iconst (v := iZ (4)) hx hb d_Mo_dot_161 (by decide +kernel) ?_
        refine lv_iconst (v := iZ (5)) hx hb d_Mo_dot_162 (by decide +kernel) ?_
        refine cv (n := 3) (wr := [(oh, .inl (cI, 10000, .inl fh)), (og, .inl (cI, 32, .inl fs)), (on_, .inl (cI, 32, .inl fn)), (ok_, .inl (cI, 166400, .inl fk)), (oK, .inl (cI, 64, .inl fK))]) (w1 := (fun (u : (Nat → Int32) × (Nat → Int32)) => [(mo, .inr (8, [.int (iZ 0), .int (iZ (np : Int)), .ref ow, .ref om, .ref ok_, .ref oK, .ref og, .ref on_, .ref oh, .ref ox, .int qn, .int qf, .ref op_, .int ql])), (ow, .inl (cI, 108000, .inl u.1)), (om, .inl (cI, 9, .inl u.2))])) (As := [.int (iZ 3), .int (iZ 4), .int (iZ 5)]) (rest := []) K hP hD hK hS hA hl.1 (c_Mo_product l D mo (iZ 0) np ow om ok_ oK og on_ oh ox qn qf op_ ql fx5 fy5 cI v5 3 4 5 H.size w5 (by decide) (by decide) (by decide) (by decide) (by decide) (by rw [y54, y55]; omega)) [3, 4, 5] [0, 1, 2, 6, 7] [0] rfl rfl rfl (by decide) (by decide) (by decide) 0 rfl rfl (big_in mw_1258 rfl) (big_in mw_10 rfl) (big_in mw_1255 rfl) (big_in mw_1257 rfl) (big_in sp_34 rfl) rfl rfl (by decide +kernel) ⟨by rw [hR]; exact Nat.le_of_ble_eq_true rfl, by rw [hR]; exact Nat.le_of_ble_eq_true rfl⟩ rfl (Nat.le_of_ble_eq_true rfl) d_Mo_dot_163 ⟨by rw [hR]; exact Nat.le_of_ble_eq_true rfl, by rw [hR]; exact Nat.le_of_ble_eq_true rfl⟩ rfl (fun v u H locs hp7 hP hD hS _ => ?_)
        obtain ⟨fx6, fy6⟩ := u
        try dsimp only at hp7
        obtain ⟨rfl, w6⟩ := hp7
        have hP : va_P D cls0 [(oh, .inl (cI, 10000, .inl fh)), (og, .inl (cI, 32, .inl fs)), (on_, .inl (cI, 32, .inl fn)), (ok_, .inl (cI, 166400, .inl fk)), (oK, .inl (cI, 64, .inl fK)), (mo, .inr (8, [.int (iZ 0), .int (iZ (np : Int)), .ref ow, .ref om, .ref ok_, .ref oK, .ref og, .ref on_, .ref oh, .ref ox, .int qn, .int qf, .ref op_, .int ql])), (ow, .inl (cI, 108000, .inl fx6)), (om, .inl (cI, 9, .inl fy6))] H := hP
        have hD : va_D A [(oh, .inl (cI, 10000, .inl fh)), (og, .inl (cI, 32, .inl fs)), (on_, .inl (cI, 32, .inl fn)), (ok_, .inl (cI, 166400, .inl fk)), (oK, .inl (cI, 64, .inl fK)), (mo, .inr (8, [.int (iZ 0), .int (iZ (np : Int)), .ref ow, .ref om, .ref ok_, .ref oK, .ref og, .ref on_, .ref oh, .ref ox, .int qn, .int qf, .ref op_, .int ql])), (ow, .inl (cI, 108000, .inl fx6)), (om, .inl (cI, 9, .inl fy6))] := hD
        show W p l e R s m args below meth c H locs _ _ Q (F0 m 166 ls [])
        obtain ⟨v6, hv6⟩ : ∃ z, z = up v5 3 (v5 4 * v5 5) := ⟨_, rfl⟩
        rw [← hv6] at w6
        have y63 : v6 3 = bv (a + k) * bv (b_ + k) := by rw [hv6, up_s, y54, y55]
        have y62 : v6 2 = tv (a + k) * tv (b_ + k) := by rw [hv6, up_n (by decide), hv5, up_n (by decide), hv4, up_n (by decide)]; exact y32
        have y60 : v6 0 = (dtS tv bv sg a b_ k).2.1 := by rw [← i0]; simp [hv6, hv5, hv4, hv3, hv2, hv1, up]
        have y61 : v6 1 = (dtS tv bv sg a b_ k).2.2 := by rw [← i1]; simp [hv6, hv5, hv4, hv3, hv2, hv1, up]
        have nP := nd_mul (tv (a + k)) (tv (b_ + k))
        have nQ := nd_mul (bv (a + k)) (bv (b_ + k))
        have pQ : 0 < bv (a + k) * bv (b_ + k) := Nat.mul_pos pa pb
        refine lv_aload_n hx hb d_Mo_dot_166 rfl (lv_at hl 0 rfl) ?_
        refine lv_iload hx hb d_Mo_dot_167 (lv_at hl 5 rfl) ?_
        refine lv_aload_n hx hb d_Mo_dot_169 rfl (lv_at hl 0 rfl) ?_
        refine va_get (D := D) (ci := 8) (v := .ref og) (C := R_Mo) (T := F_Mo) (N := 14) hx hb hts i_Mo hown hK hP 5 rfl rfl 6 (by decide) (hts _ (big_in mw_1121 rfl)) (fun _ h9 => h9) rfl d_Mo_dot_170 ?_
        refine lv_iload_n hx hb d_Mo_dot_173 rfl (lv_at hl 2 rfl) ?_
        refine lv_iload hx hb d_Mo_dot_174 (lv_at hl 6 rfl) ?_
        refine zz_iadd hx hb d_Mo_dot_176 ?_
        refine zz_iald hx hb hK hP 1 0 rfl rfl (a + k) (by omega) (by omega) (by omega) d_Mo_dot_177 ?_
        rw [hMR.2.1 (a + k) (by omega)]
        refine lv_aload_n hx hb d_Mo_dot_178 rfl (lv_at hl 0 rfl) ?_
        refine va_get (D := D) (ci := 8) (v := .ref og) (C := R_Mo) (T := F_Mo) (N := 14) hx hb hts i_Mo hown hK hP 5 rfl rfl 6 (by decide) (hts _ (big_in mw_1121 rfl)) (fun _ h9 => h9) rfl d_Mo_dot_179 ?_
        refine lv_iload_n hx hb d_Mo_dot_182 rfl (lv_at hl 3 rfl) ?_
        refine lv_iload hx hb d_Mo_dot_183 (lv_at hl 6 rfl) ?_
        refine zz_iadd hx hb d_Mo_dot_185 ?_
        refine zz_iald hx hb hK hP 1 0 rfl rfl (b_ + k) (by omega) (by omega) (by omega) d_Mo_dot_186 ?_
        rw [hMR.2.1 (b_ + k) (by omega)]
        refine zz_imul hx hb d_Mo_dot_187 ?_
        refine cv (n := 2) (wr := [(oh, .inl (cI, 10000, .inl fh)), (og, .inl (cI, 32, .inl fs)), (on_, .inl (cI, 32, .inl fn)), (ok_, .inl (cI, 166400, .inl fk)), (oK, .inl (cI, 64, .inl fK))]) (w1 := (fun (u : Int × (Nat → Int32) × (Nat → Int32) × (Nat → Nat)) => [(mo, .inr (8, [.int (iZ 0), .int (iZ (np : Int)), .ref ow, .ref om, .ref ok_, .ref oK, .ref og, .ref on_, .ref oh, .ref ox, .int qn, .int qf, .ref op_, .int ql])), (ow, .inl (cI, 108000, .inl u.2.1)), (om, .inl (cI, 9, .inl u.2.2.1))])) (As := [.int (iZ sn), .int (iZ ((sg (a + k)) * (sg (b_ + k))))]) (rest := []) K hP hD hK hS hA hl.1 (c_Mo_sum l D mo (iZ 0) np ow om ok_ oK og on_ oh ox qn qf op_ ql fx6 fy6 cI v6 sn ((sg (a + k)) * (sg (b_ + k))) H.size w6 c4 sg1 (by rw [y60]; exact c3) (by rw [y62]; exact sg2) (by rw [y61]; exact c2) (by rw [y63]; exact pQ) (by rw [y60, y63]; omega) (by rw [y62, y61]; omega) (by rw [y61, y63]; omega)) [5, 6, 7] [0, 1, 2, 3, 4] [0] rfl rfl rfl (by decide) (by decide) (by decide) 0 rfl rfl (big_in mw_1254 rfl) (big_in mw_10 rfl) (big_in mw_1251 rfl) (big_in mw_1253 rfl) (big_in sp_33 rfl) rfl rfl (by decide +kernel) ⟨by rw [hR]; exact Nat.le_of_ble_eq_true rfl, by rw [hR]; exact Nat.le_of_ble_eq_true rfl⟩ rfl (Nat.le_of_ble_eq_true rfl) d_Mo_dot_188 ⟨by rw [hR]; exact Nat.le_of_ble_eq_true rfl, by rw [hR]; exact Nat.le_of_ble_eq_true rfl⟩ rfl (fun v u H locs hp8 hP hD hS _ => ?_)
        obtain ⟨rs, fx7, fy7, v7⟩ := u
        try dsimp only at hp8
        obtain ⟨rfl, ers, w7, x0, x1⟩ := hp8
        have hP : va_P D cls0 [(oh, .inl (cI, 10000, .inl fh)), (og, .inl (cI, 32, .inl fs)), (on_, .inl (cI, 32, .inl fn)), (ok_, .inl (cI, 166400, .inl fk)), (oK, .inl (cI, 64, .inl fK)), (mo, .inr (8, [.int (iZ 0), .int (iZ (np : Int)), .ref ow, .ref om, .ref ok_, .ref oK, .ref og, .ref on_, .ref oh, .ref ox, .int qn, .int qf, .ref op_, .int ql])), (ow, .inl (cI, 108000, .inl fx7)), (om, .inl (cI, 9, .inl fy7))] H := hP
        have hD : va_D A [(oh, .inl (cI, 10000, .inl fh)), (og, .inl (cI, 32, .inl fs)), (on_, .inl (cI, 32, .inl fn)), (ok_, .inl (cI, 166400, .inl fk)), (oK, .inl (cI, 64, .inl fK)), (mo, .inr (8, [.int (iZ 0), .int (iZ (np : Int)), .ref ow, .ref om, .ref ok_, .ref oK, .ref og, .ref on_, .ref oh, .ref ox, .int qn, .int qf, .ref op_, .int ql])), (ow, .inl (cI, 108000, .inl fx7)), (om, .inl (cI, 9, .inl fy7))] := hD
        show W p l e R s m args below meth c H locs _ _ Q (F0 m 191 ls [.int (iZ rs)])
        rw [y60, y61, y62, y63] at ers x0
        rw [y61, y63] at x1
        obtain ⟨m1, m2, m3⟩ := dt_model (s := sn) (t := sg (a + k) * sg (b_ + k)) (N := (dtS tv bv sg a b_ k).2.1) (D := (dtS tv bv sg a b_ k).2.2) (P := tv (a + k) * tv (b_ + k)) pQ
        have nS := nd_mono (sg_abs_le (A := (dtS tv bv sg a b_ k).2.1 * (bv (a + k) * bv (b_ + k))) (C := tv (a + k) * tv (b_ + k) * (dtS tv bv sg a b_ k).2.2) c4 sg1)
        have nS2 := nd_add ((dtS tv bv sg a b_ k).2.1 * (bv (a + k) * bv (b_ + k))) (tv (a + k) * tv (b_ + k) * (dtS tv bv sg a b_ k).2.2)
        have nS3 := nd_mul (dtS tv bv sg a b_ k).2.1 (bv (a + k) * bv (b_ + k))
        have nS4 := nd_mul (tv (a + k) * tv (b_ + k)) (dtS tv bv sg a b_ k).2.2
        have nS5 := nd_mul (dtS tv bv sg a b_ k).2.2 (bv (a + k) * bv (b_ + k))
        refine lv_istore (lv' := [(6, .int (iZ rs)), (0, .ref mo), (1, .int (iZ (to : Int))), (2, .int (iZ (a : Int))), (3, .int (iZ (b_ : Int))), (4, .int (iZ (ct : Int))), (7, .int (iZ (k : Int)))]) hx hb d_Mo_dot_191 hl (by decide) rfl (fun ls hl => ?_)
        refine lv_aload_n hx hb d_Mo_dot_193 rfl (lv_at hl 1 rfl) ?_
        refine cv (n := 0) (wr := [(oh, .inl (cI, 10000, .inl fh)), (og, .inl (cI, 32, .inl fs)), (on_, .inl (cI, 32, .inl fn)), (ok_, .inl (cI, 166400, .inl fk)), (oK, .inl (cI, 64, .inl fK))]) (w1 := (fun (u : (Nat → Int32) × (Nat → Int32) × (Nat → Nat)) => [(mo, .inr (8, [.int (iZ 0), .int (iZ (np : Int)), .ref ow, .ref om, .ref ok_, .ref oK, .ref og, .ref on_, .ref oh, .ref ox, .int qn, .int qf, .ref op_, .int ql])), (ow, .inl (cI, 108000, .inl u.1)), (om, .inl (cI, 9, .inl u.2.1))])) (As := []) (rest := []) K hP hD hK hS hA hl.1 (c_Mo_reduce l D mo (iZ 0) np ow om ok_ oK og on_ oh ox qn qf op_ ql fx7 fy7 cI v7 H.size w7 (by rw [x1]; exact Nat.mul_pos c2 pQ) (by rw [x0]; omega) (by rw [x1]; omega)) [5, 6, 7] [0, 1, 2, 3, 4] [0] rfl rfl rfl (by decide) (by decide) (by decide) 0 rfl rfl (big_in mw_1189 rfl) (big_in mw_10 rfl) (big_in mw_1186 rfl) (big_in mw_1188 rfl) (big_in sp_21 rfl) rfl rfl (by decide +kernel) ⟨by rw [hR]; exact Nat.le_of_ble_eq_true rfl, by rw [hR]; exact Nat.le_of_ble_eq_true rfl⟩ rfl (Nat.le_of_ble_eq_true rfl) d_Mo_dot_194 ⟨by rw [hR]; exact Nat.le_of_ble_eq_true rfl, by rw [hR]; exact Nat.le_of_ble_eq_true rfl⟩ rfl (fun v u H locs hp9 hP hD hS _ => ?_)
        obtain ⟨fx8, fy8, v8⟩ := u
        try dsimp only at hp9
        obtain ⟨rfl, w8, r0, r1⟩ := hp9
        have hP : va_P D cls0 [(oh, .inl (cI, 10000, .inl fh)), (og, .inl (cI, 32, .inl fs)), (on_, .inl (cI, 32, .inl fn)), (ok_, .inl (cI, 166400, .inl fk)), (oK, .inl (cI, 64, .inl fK)), (mo, .inr (8, [.int (iZ 0), .int (iZ (np : Int)), .ref ow, .ref om, .ref ok_, .ref oK, .ref og, .ref on_, .ref oh, .ref ox, .int qn, .int qf, .ref op_, .int ql])), (ow, .inl (cI, 108000, .inl fx8)), (om, .inl (cI, 9, .inl fy8))] H := hP
        have hD : va_D A [(oh, .inl (cI, 10000, .inl fh)), (og, .inl (cI, 32, .inl fs)), (on_, .inl (cI, 32, .inl fn)), (ok_, .inl (cI, 166400, .inl fk)), (oK, .inl (cI, 64, .inl fK)), (mo, .inr (8, [.int (iZ 0), .int (iZ (np : Int)), .ref ow, .ref om, .ref ok_, .ref oK, .ref og, .ref on_, .ref oh, .ref ox, .int qn, .int qf, .ref op_, .int ql])), (ow, .inl (cI, 108000, .inl fx8)), (om, .inl (cI, 9, .inl fy8))] := hD
        show W p l e R s m args below meth c H locs _ _ Q (F0 m 197 ls [])
        rw [x0, x1] at r0 r1
        refine lv_iinc (v := iZ ((k : Int) + 1)) (lv' := [(7, .int (iZ ((k : Int) + 1))), (6, .int (iZ rs)), (0, .ref mo), (1, .int (iZ (to : Int))), (2, .int (iZ (a : Int))), (3, .int (iZ (b_ : Int))), (4, .int (iZ (ct : Int)))]) hx hb d_Mo_dot_197 hl (k := 6) rfl (iZ_add _ _) (by decide) rfl (fun ls hl => ?_)
        refine lv_goto (tgt := 97) hx hb d_Mo_dot_200 (by decide) ?_
        rw [show ((k : Int) + 1 : Int) = ((k + 1 : Nat) : Int) by omega] at hl
        exact ih (k + 1) rs fx8 fy8 v8 _ _ _ (by omega) (by omega) w8 (by rw [r0, m2, isn]; rfl) (by rw [r1, m3, isn]; rfl) (by rw [ers, m1, isn]; rfl) (hP.sub (ws' := [(mo, .inr (8, [.int (iZ 0), .int (iZ (np : Int)), .ref ow, .ref om, .ref ok_, .ref oK, .ref og, .ref on_, .ref oh, .ref ox, .int qn, .int qf, .ref op_, .int ql])), (ow, .inl (cI, 108000, .inl fx8)), (om, .inl (cI, 9, .inl fy8)), (oh, .inl (cI, 10000, .inl fh)), (ok_, .inl (cI, 166400, .inl fk)), (oK, .inl (cI, 64, .inl fK)), (og, .inl (cI, 32, .inl fs)), (on_, .inl (cI, 32, .inl fn))]) [5, 6, 7, 0, 3, 4, 1, 2] rfl) (hD.sub (ws' := [(mo, .inr (8, [.int (iZ 0), .int (iZ (np : Int)), .ref ow, .ref om, .ref ok_, .ref oK, .ref og, .ref on_, .ref oh, .ref ox, .int qn, .int qf, .ref op_, .int ql])), (ow, .inl (cI, 108000, .inl fx8)), (om, .inl (cI, 9, .inl fy8)), (oh, .inl (cI, 10000, .inl fh)), (ok_, .inl (cI, 166400, .inl fk)), (oK, .inl (cI, 64, .inl fK)), (og, .inl (cI, 32, .inl fs)), (on_, .inl (cI, 32, .inl fn))]) [5, 6, 7, 0, 3, 4, 1, 2] (by decide) rfl) hS (lv_sub hl [2, 3, 4, 5, 6, 1, 0] rfl)
  refine lv_iload_n hx hb d_Mo_dot_0 rfl (lv_at hl 1 rfl) ?_
  refine cs (n := 1) (wr := [(mo, .inr (8, [.int qc, .int (iZ (np : Int)), .ref ow, .ref om, .ref ok_, .ref oK, .ref og, .ref on_, .ref oh, .ref ox, .int qn, .int qf, .ref op_, .int ql])), (ow, .inl (cI, 108000, .inl fw)), (om, .inl (cI, 9, .inl fm)), (oh, .inl (cI, 10000, .inl fh)), (ok_, .inl (cI, 166400, .inl fk)), (oK, .inl (cI, 64, .inl fK)), (og, .inl (cI, 32, .inl fs)), (on_, .inl (cI, 32, .inl fn))]) (w1 := (fun (u : Int) => [])) (As := [.int (iZ (to : Int))]) (rest := []) K hP hD hK hS hA hl.1 (c_Mo_isRegister l D (to : Int) H.size (by omega)) [] [0, 1, 2, 3, 4, 5, 6, 7] [] rfl rfl rfl (by decide) (by decide) (by decide) (big_in mw_1172 rfl) (big_in mw_10 rfl) (big_in mw_1170 rfl) (big_in mw_1171 rfl) rfl rfl (by decide +kernel) ⟨by rw [hR]; exact Nat.le_of_ble_eq_true rfl, by rw [hR]; exact Nat.le_of_ble_eq_true rfl⟩ rfl (Nat.le_of_ble_eq_true rfl) d_Mo_dot_1 ⟨by rw [hR]; exact Nat.le_of_ble_eq_true rfl, by rw [hR]; exact Nat.le_of_ble_eq_true rfl⟩ rfl (fun v u H locs hp10 hP hD hS _ => ?_)
  obtain ⟨r1, rfl⟩ : ∃ z, z = u := ⟨_, rfl⟩
  obtain ⟨rfl, p1⟩ := hp10
  have hP : va_P D cls0 [(mo, .inr (8, [.int qc, .int (iZ (np : Int)), .ref ow, .ref om, .ref ok_, .ref oK, .ref og, .ref on_, .ref oh, .ref ox, .int qn, .int qf, .ref op_, .int ql])), (ow, .inl (cI, 108000, .inl fw)), (om, .inl (cI, 9, .inl fm)), (oh, .inl (cI, 10000, .inl fh)), (ok_, .inl (cI, 166400, .inl fk)), (oK, .inl (cI, 64, .inl fK)), (og, .inl (cI, 32, .inl fs)), (on_, .inl (cI, 32, .inl fn))] H := hP
  have hD : va_D A [(mo, .inr (8, [.int qc, .int (iZ (np : Int)), .ref ow, .ref om, .ref ok_, .ref oK, .ref og, .ref on_, .ref oh, .ref ox, .int qn, .int qf, .ref op_, .int ql])), (ow, .inl (cI, 108000, .inl fw)), (om, .inl (cI, 9, .inl fm)), (oh, .inl (cI, 10000, .inl fh)), (ok_, .inl (cI, 166400, .inl fk)), (oK, .inl (cI, 64, .inl fK)), (og, .inl (cI, 32, .inl fs)), (on_, .inl (cI, 32, .inl fn))] := hD
  show W p l e R s m args below meth c H locs _ _ Q (F0 m 4 ls [.int (iZ r1)])
  have b1 : 0 ≤ r1 ∧ r1 ≤ 1 := by omega
  refine zz_if_eq (tgt := 48) hx hb d_Mo_dot_4 (by decide) (by omega) (fun c4 => ?_) (fun c4 => ?_)
  · refine lv_iconst (v := iZ (0)) hx hb d_Mo_dot_48 (by decide +kernel) ?_
    refine lv_istore (lv' := [(5, .int (iZ 0)), (0, .ref mo), (1, .int (iZ (to : Int))), (2, .int (iZ (a : Int))), (3, .int (iZ (b_ : Int))), (4, .int (iZ (ct : Int)))]) hx hb d_Mo_dot_49 hl (by decide) rfl (fun ls hl => ?_)
    refine lv_aload_n hx hb d_Mo_dot_51 rfl (lv_at hl 1 rfl) ?_
    refine lv_iload hx hb d_Mo_dot_52 (lv_at hl 0 rfl) ?_
    refine zz_if_ne (tgt := 61) hx hb d_Mo_dot_54 (by decide) (by omega) (fun c54 => False.elim (by omega)) (fun c54 => ?_)
    refine lv_iconst (v := iZ (1)) hx hb d_Mo_dot_57 (by decide +kernel) ?_
    refine lv_goto (tgt := 71) hx hb d_Mo_dot_58 (by decide) ?_
    exfalso
    omega
  · refine lv_iload_n hx hb d_Mo_dot_7 rfl (lv_at hl 2 rfl) ?_
    refine cs (n := 1) (wr := [(mo, .inr (8, [.int qc, .int (iZ (np : Int)), .ref ow, .ref om, .ref ok_, .ref oK, .ref og, .ref on_, .ref oh, .ref ox, .int qn, .int qf, .ref op_, .int ql])), (ow, .inl (cI, 108000, .inl fw)), (om, .inl (cI, 9, .inl fm)), (oh, .inl (cI, 10000, .inl fh)), (ok_, .inl (cI, 166400, .inl fk)), (oK, .inl (cI, 64, .inl fK)), (og, .inl (cI, 32, .inl fs)), (on_, .inl (cI, 32, .inl fn))]) (w1 := (fun (u : Int) => [])) (As := [.int (iZ (a : Int))]) (rest := []) K hP hD hK hS hA hl.1 (c_Mo_isRegister l D (a : Int) H.size (by omega)) [] [0, 1, 2, 3, 4, 5, 6, 7] [] rfl rfl rfl (by decide) (by decide) (by decide) (big_in mw_1172 rfl) (big_in mw_10 rfl) (big_in mw_1170 rfl) (big_in mw_1171 rfl) rfl rfl (by decide +kernel) ⟨by rw [hR]; exact Nat.le_of_ble_eq_true rfl, by rw [hR]; exact Nat.le_of_ble_eq_true rfl⟩ rfl (Nat.le_of_ble_eq_true rfl) d_Mo_dot_8 ⟨by rw [hR]; exact Nat.le_of_ble_eq_true rfl, by rw [hR]; exact Nat.le_of_ble_eq_true rfl⟩ rfl (fun v u H locs hp11 hP hD hS _ => ?_)
    obtain ⟨r8, rfl⟩ : ∃ z, z = u := ⟨_, rfl⟩
    obtain ⟨rfl, p8⟩ := hp11
    have hP : va_P D cls0 [(mo, .inr (8, [.int qc, .int (iZ (np : Int)), .ref ow, .ref om, .ref ok_, .ref oK, .ref og, .ref on_, .ref oh, .ref ox, .int qn, .int qf, .ref op_, .int ql])), (ow, .inl (cI, 108000, .inl fw)), (om, .inl (cI, 9, .inl fm)), (oh, .inl (cI, 10000, .inl fh)), (ok_, .inl (cI, 166400, .inl fk)), (oK, .inl (cI, 64, .inl fK)), (og, .inl (cI, 32, .inl fs)), (on_, .inl (cI, 32, .inl fn))] H := hP
    have hD : va_D A [(mo, .inr (8, [.int qc, .int (iZ (np : Int)), .ref ow, .ref om, .ref ok_, .ref oK, .ref og, .ref on_, .ref oh, .ref ox, .int qn, .int qf, .ref op_, .int ql])), (ow, .inl (cI, 108000, .inl fw)), (om, .inl (cI, 9, .inl fm)), (oh, .inl (cI, 10000, .inl fh)), (ok_, .inl (cI, 166400, .inl fk)), (oK, .inl (cI, 64, .inl fK)), (og, .inl (cI, 32, .inl fs)), (on_, .inl (cI, 32, .inl fn))] := hD
    show W p l e R s m args below meth c H locs _ _ Q (F0 m 11 ls [.int (iZ r8)])
    have b8 : 0 ≤ r8 ∧ r8 ≤ 1 := by omega
    refine zz_if_eq (tgt := 48) hx hb d_Mo_dot_11 (by decide) (by omega) (fun c11 => ?_) (fun c11 => ?_)
    · refine lv_iconst (v := iZ (0)) hx hb d_Mo_dot_48 (by decide +kernel) ?_
      refine lv_istore (lv' := [(5, .int (iZ 0)), (0, .ref mo), (1, .int (iZ (to : Int))), (2, .int (iZ (a : Int))), (3, .int (iZ (b_ : Int))), (4, .int (iZ (ct : Int)))]) hx hb d_Mo_dot_49 hl (by decide) rfl (fun ls hl => ?_)
      refine lv_aload_n hx hb d_Mo_dot_51 rfl (lv_at hl 1 rfl) ?_
      refine lv_iload hx hb d_Mo_dot_52 (lv_at hl 0 rfl) ?_
      refine zz_if_ne (tgt := 61) hx hb d_Mo_dot_54 (by decide) (by omega) (fun c54 => False.elim (by omega)) (fun c54 => ?_)
      refine lv_iconst (v := iZ (1)) hx hb d_Mo_dot_57 (by decide +kernel) ?_
      refine lv_goto (tgt := 71) hx hb d_Mo_dot_58 (by decide) ?_
      exfalso
      omega
    · refine lv_iload_n hx hb d_Mo_dot_14 rfl (lv_at hl 3 rfl) ?_
      refine cs (n := 1) (wr := [(mo, .inr (8, [.int qc, .int (iZ (np : Int)), .ref ow, .ref om, .ref ok_, .ref oK, .ref og, .ref on_, .ref oh, .ref ox, .int qn, .int qf, .ref op_, .int ql])), (ow, .inl (cI, 108000, .inl fw)), (om, .inl (cI, 9, .inl fm)), (oh, .inl (cI, 10000, .inl fh)), (ok_, .inl (cI, 166400, .inl fk)), (oK, .inl (cI, 64, .inl fK)), (og, .inl (cI, 32, .inl fs)), (on_, .inl (cI, 32, .inl fn))]) (w1 := (fun (u : Int) => [])) (As := [.int (iZ (b_ : Int))]) (rest := []) K hP hD hK hS hA hl.1 (c_Mo_isRegister l D (b_ : Int) H.size (by omega)) [] [0, 1, 2, 3, 4, 5, 6, 7] [] rfl rfl rfl (by decide) (by decide) (by decide) (big_in mw_1172 rfl) (big_in mw_10 rfl) (big_in mw_1170 rfl) (big_in mw_1171 rfl) rfl rfl (by decide +kernel) ⟨by rw [hR]; exact Nat.le_of_ble_eq_true rfl, by rw [hR]; exact Nat.le_of_ble_eq_true rfl⟩ rfl (Nat.le_of_ble_eq_true rfl) d_Mo_dot_15 ⟨by rw [hR]; exact Nat.le_of_ble_eq_true rfl, by rw [hR]; exact Nat.le_of_ble_eq_true rfl⟩ rfl (fun v u H locs hp12 hP hD hS _ => ?_)
      obtain ⟨r15, rfl⟩ : ∃ z, z = u := ⟨_, rfl⟩
      obtain ⟨rfl, p15⟩ := hp12
      have hP : va_P D cls0 [(mo, .inr (8, [.int qc, .int (iZ (np : Int)), .ref ow, .ref om, .ref ok_, .ref oK, .ref og, .ref on_, .ref oh, .ref ox, .int qn, .int qf, .ref op_, .int ql])), (ow, .inl (cI, 108000, .inl fw)), (om, .inl (cI, 9, .inl fm)), (oh, .inl (cI, 10000, .inl fh)), (ok_, .inl (cI, 166400, .inl fk)), (oK, .inl (cI, 64, .inl fK)), (og, .inl (cI, 32, .inl fs)), (on_, .inl (cI, 32, .inl fn))] H := hP
      have hD : va_D A [(mo, .inr (8, [.int qc, .int (iZ (np : Int)), .ref ow, .ref om, .ref ok_, .ref oK, .ref og, .ref on_, .ref oh, .ref ox, .int qn, .int qf, .ref op_, .int ql])), (ow, .inl (cI, 108000, .inl fw)), (om, .inl (cI, 9, .inl fm)), (oh, .inl (cI, 10000, .inl fh)), (ok_, .inl (cI, 166400, .inl fk)), (oK, .inl (cI, 64, .inl fK)), (og, .inl (cI, 32, .inl fs)), (on_, .inl (cI, 32, .inl fn))] := hD
      show W p l e R s m args below meth c H locs _ _ Q (F0 m 18 ls [.int (iZ r15)])
      have b15 : 0 ≤ r15 ∧ r15 ≤ 1 := by omega
      refine zz_if_eq (tgt := 48) hx hb d_Mo_dot_18 (by decide) (by omega) (fun c18 => ?_) (fun c18 => ?_)
      · refine lv_iconst (v := iZ (0)) hx hb d_Mo_dot_48 (by decide +kernel) ?_
        refine lv_istore (lv' := [(5, .int (iZ 0)), (0, .ref mo), (1, .int (iZ (to : Int))), (2, .int (iZ (a : Int))), (3, .int (iZ (b_ : Int))), (4, .int (iZ (ct : Int)))]) hx hb d_Mo_dot_49 hl (by decide) rfl (fun ls hl => ?_)
        refine lv_aload_n hx hb d_Mo_dot_51 rfl (lv_at hl 1 rfl) ?_
        refine lv_iload hx hb d_Mo_dot_52 (lv_at hl 0 rfl) ?_
        refine zz_if_ne (tgt := 61) hx hb d_Mo_dot_54 (by decide) (by omega) (fun c54 => False.elim (by omega)) (fun c54 => ?_)
        refine lv_iconst (v := iZ (1)) hx hb d_Mo_dot_57 (by decide +kernel) ?_
        refine lv_goto (tgt := 71) hx hb d_Mo_dot_58 (by decide) ?_
        exfalso
        omega
      · refine lv_iload hx hb d_Mo_dot_21 (lv_at hl 4 rfl) ?_
        refine zz_if_le (tgt := 44) hx hb d_Mo_dot_23 (by decide) (by omega) (fun c23 => ?_) (fun c23 => ?_)
        · refine lv_iconst (v := iZ (1)) hx hb d_Mo_dot_44 (by decide +kernel) ?_
          refine lv_goto (tgt := 49) hx hb d_Mo_dot_45 (by decide) ?_
          refine lv_istore (lv' := [(5, .int (iZ 1)), (0, .ref mo), (1, .int (iZ (to : Int))), (2, .int (iZ (a : Int))), (3, .int (iZ (b_ : Int))), (4, .int (iZ (ct : Int)))]) hx hb d_Mo_dot_49 hl (by decide) rfl (fun ls hl => ?_)
          refine lv_aload_n hx hb d_Mo_dot_51 rfl (lv_at hl 1 rfl) ?_
          refine lv_iload hx hb d_Mo_dot_52 (lv_at hl 0 rfl) ?_
          refine zz_if_ne (tgt := 61) hx hb d_Mo_dot_54 (by decide) (by omega) (fun c54 => ?_) (fun c54 => False.elim (by omega))
          refine lv_iload hx hb d_Mo_dot_61 (lv_at hl 5 rfl) ?_
          refine zz_if_ge (tgt := 70) hx hb d_Mo_dot_63 (by decide) (by omega) (fun c63 => ?_) (fun c63 => ?_)
          · refine lv_iconst (v := iZ (0)) hx hb d_Mo_dot_70 (by decide +kernel) ?_
            refine cv (n := 1) (wr := [(ow, .inl (cI, 108000, .inl fw)), (om, .inl (cI, 9, .inl fm)), (oh, .inl (cI, 10000, .inl fh)), (ok_, .inl (cI, 166400, .inl fk)), (oK, .inl (cI, 64, .inl fK)), (og, .inl (cI, 32, .inl fs)), (on_, .inl (cI, 32, .inl fn))]) (w1 := (fun (u : Int) => [(mo, .inr (8, [.int (iZ 0), .int (iZ (np : Int)), .ref ow, .ref om, .ref ok_, .ref oK, .ref og, .ref on_, .ref oh, .ref ox, .int qn, .int qf, .ref op_, .int ql]))])) (As := [.int (iZ 0)]) (rest := []) K hP hD hK hS hA hl.1 (c_Mo_refuses l D mo qc np ow om ok_ oK og on_ oh ox qn qf op_ ql 0 H.size (by omega)) [0] [1, 2, 3, 4, 5, 6, 7] [] rfl rfl rfl (by decide) (by decide) (by decide) 0 rfl rfl (big_in mw_1176 rfl) (big_in mw_10 rfl) (big_in mw_1173 rfl) (big_in mw_1175 rfl) (big_in sp_18 rfl) rfl rfl (by decide +kernel) ⟨by rw [hR]; exact Nat.le_of_ble_eq_true rfl, by rw [hR]; exact Nat.le_of_ble_eq_true rfl⟩ rfl (Nat.le_of_ble_eq_true rfl) d_Mo_dot_71 ⟨by rw [hR]; exact Nat.le_of_ble_eq_true rfl, by rw [hR]; exact Nat.le_of_ble_eq_true rfl⟩ rfl (fun v u H locs hp13 hP hD hS _ => ?_)
            obtain ⟨rf, rfl⟩ : ∃ z, z = u := ⟨_, rfl⟩
            obtain ⟨rfl, prf⟩ := hp13
            have hP : va_P D cls0 [(ow, .inl (cI, 108000, .inl fw)), (om, .inl (cI, 9, .inl fm)), (oh, .inl (cI, 10000, .inl fh)), (ok_, .inl (cI, 166400, .inl fk)), (oK, .inl (cI, 64, .inl fK)), (og, .inl (cI, 32, .inl fs)), (on_, .inl (cI, 32, .inl fn)), (mo, .inr (8, [.int (iZ 0), .int (iZ (np : Int)), .ref ow, .ref om, .ref ok_, .ref oK, .ref og, .ref on_, .ref oh, .ref ox, .int qn, .int qf, .ref op_, .int ql]))] H := hP
            have hD : va_D A [(ow, .inl (cI, 108000, .inl fw)), (om, .inl (cI, 9, .inl fm)), (oh, .inl (cI, 10000, .inl fh)), (ok_, .inl (cI, 166400, .inl fk)), (oK, .inl (cI, 64, .inl fK)), (og, .inl (cI, 32, .inl fs)), (on_, .inl (cI, 32, .inl fn)), (mo, .inr (8, [.int (iZ 0), .int (iZ (np : Int)), .ref ow, .ref om, .ref ok_, .ref oK, .ref og, .ref on_, .ref oh, .ref ox, .int qn, .int qf, .ref op_, .int ql]))] := hD
            show W p l e R s m args below meth c H locs _ _ Q (F0 m 74 ls [.int (iZ rf)])
            refine zz_if_eq (tgt := 79) hx hb d_Mo_dot_74 (by decide) (by omega) (fun c74 => ?_) (fun c74 => False.elim (by omega))
            refine lv_aload_n hx hb d_Mo_dot_79 rfl (lv_at hl 1 rfl) ?_
            refine lv_iconst (v := iZ (0)) hx hb d_Mo_dot_80 (by decide +kernel) ?_
            refine lv_lconst (v := lZ (0)) hx hb d_Mo_dot_81 (by decide +kernel) ?_
            refine cv (n := 2) (wr := [(oh, .inl (cI, 10000, .inl fh)), (ok_, .inl (cI, 166400, .inl fk)), (oK, .inl (cI, 64, .inl fK)), (og, .inl (cI, 32, .inl fs)), (on_, .inl (cI, 32, .inl fn))]) (w1 := (fun (u : (Nat → Int32) × (Nat → Int32)) => [(mo, .inr (8, [.int (iZ 0), .int (iZ (np : Int)), .ref ow, .ref om, .ref ok_, .ref oK, .ref og, .ref on_, .ref oh, .ref ox, .int qn, .int qf, .ref op_, .int ql])), (ow, .inl (cI, 108000, .inl u.1)), (om, .inl (cI, 9, .inl u.2))])) (As := [.int (iZ 0), .long (lZ 0)]) (rest := []) K hP hD hK hS hA hl.1 (c_Mo_setLong l D mo (iZ 0) np ow om ok_ oK og on_ oh ox qn qf op_ ql fw fm cI val 0 0 H.size hW (by omega) (by omega)) [7, 0, 1] [2, 3, 4, 5, 6] [0] rfl rfl rfl (by decide) (by decide) (by decide) 0 rfl rfl (big_in mw_1180 rfl) (big_in mw_10 rfl) (big_in mw_1177 rfl) (big_in mw_1179 rfl) (big_in sp_19 rfl) rfl rfl (by decide +kernel) ⟨by rw [hR]; exact Nat.le_of_ble_eq_true rfl, by rw [hR]; exact Nat.le_of_ble_eq_true rfl⟩ rfl (Nat.le_of_ble_eq_true rfl) d_Mo_dot_82 ⟨by rw [hR]; exact Nat.le_of_ble_eq_true rfl, by rw [hR]; exact Nat.le_of_ble_eq_true rfl⟩ rfl (fun v u H locs hp14 hP hD hS _ => ?_)
            obtain ⟨fx11, fy11⟩ := u
            try dsimp only at hp14
            obtain ⟨rfl, w11⟩ := hp14
            have hP : va_P D cls0 [(oh, .inl (cI, 10000, .inl fh)), (ok_, .inl (cI, 166400, .inl fk)), (oK, .inl (cI, 64, .inl fK)), (og, .inl (cI, 32, .inl fs)), (on_, .inl (cI, 32, .inl fn)), (mo, .inr (8, [.int (iZ 0), .int (iZ (np : Int)), .ref ow, .ref om, .ref ok_, .ref oK, .ref og, .ref on_, .ref oh, .ref ox, .int qn, .int qf, .ref op_, .int ql])), (ow, .inl (cI, 108000, .inl fx11)), (om, .inl (cI, 9, .inl fy11))] H := hP
            have hD : va_D A [(oh, .inl (cI, 10000, .inl fh)), (ok_, .inl (cI, 166400, .inl fk)), (oK, .inl (cI, 64, .inl fK)), (og, .inl (cI, 32, .inl fs)), (on_, .inl (cI, 32, .inl fn)), (mo, .inr (8, [.int (iZ 0), .int (iZ (np : Int)), .ref ow, .ref om, .ref ok_, .ref oK, .ref og, .ref on_, .ref oh, .ref ox, .int qn, .int qf, .ref op_, .int ql])), (ow, .inl (cI, 108000, .inl fx11)), (om, .inl (cI, 9, .inl fy11))] := hD
            show W p l e R s m args below meth c H locs _ _ Q (F0 m 85 ls [])
            obtain ⟨v11, hv11⟩ : ∃ x, x = up val 0 0 := ⟨_, rfl⟩
            have w11 : WB fx11 fy11 v11 := by rw [hv11]; exact w11
            refine lv_aload_n hx hb d_Mo_dot_85 rfl (lv_at hl 1 rfl) ?_
            refine lv_iconst (v := iZ (1)) hx hb d_Mo_dot_86 (by decide +kernel) ?_
            refine lv_lconst (v := lZ (1)) hx hb d_Mo_dot_87 (by decide +kernel) ?_
            refine cv (n := 2) (wr := [(oh, .inl (cI, 10000, .inl fh)), (ok_, .inl (cI, 166400, .inl fk)), (oK, .inl (cI, 64, .inl fK)), (og, .inl (cI, 32, .inl fs)), (on_, .inl (cI, 32, .inl fn))]) (w1 := (fun (u : (Nat → Int32) × (Nat → Int32)) => [(mo, .inr (8, [.int (iZ 0), .int (iZ (np : Int)), .ref ow, .ref om, .ref ok_, .ref oK, .ref og, .ref on_, .ref oh, .ref ox, .int qn, .int qf, .ref op_, .int ql])), (ow, .inl (cI, 108000, .inl u.1)), (om, .inl (cI, 9, .inl u.2))])) (As := [.int (iZ 1), .long (lZ 1)]) (rest := []) K hP hD hK hS hA hl.1 (c_Mo_setLong l D mo (iZ 0) np ow om ok_ oK og on_ oh ox qn qf op_ ql fx11 fy11 cI v11 1 1 H.size w11 (by omega) (by omega)) [5, 6, 7] [0, 1, 2, 3, 4] [0] rfl rfl rfl (by decide) (by decide) (by decide) 0 rfl rfl (big_in mw_1180 rfl) (big_in mw_10 rfl) (big_in mw_1177 rfl) (big_in mw_1179 rfl) (big_in sp_19 rfl) rfl rfl (by decide +kernel) ⟨by rw [hR]; exact Nat.le_of_ble_eq_true rfl, by rw [hR]; exact Nat.le_of_ble_eq_true rfl⟩ rfl (Nat.le_of_ble_eq_true rfl) d_Mo_dot_88 ⟨by rw [hR]; exact Nat.le_of_ble_eq_true rfl, by rw [hR]; exact Nat.le_of_ble_eq_true rfl⟩ rfl (fun v u H locs hp15 hP hD hS _ => ?_)
            obtain ⟨fx12, fy12⟩ := u
            try dsimp only at hp15
            obtain ⟨rfl, w12⟩ := hp15
            have hP : va_P D cls0 [(oh, .inl (cI, 10000, .inl fh)), (ok_, .inl (cI, 166400, .inl fk)), (oK, .inl (cI, 64, .inl fK)), (og, .inl (cI, 32, .inl fs)), (on_, .inl (cI, 32, .inl fn)), (mo, .inr (8, [.int (iZ 0), .int (iZ (np : Int)), .ref ow, .ref om, .ref ok_, .ref oK, .ref og, .ref on_, .ref oh, .ref ox, .int qn, .int qf, .ref op_, .int ql])), (ow, .inl (cI, 108000, .inl fx12)), (om, .inl (cI, 9, .inl fy12))] H := hP
            have hD : va_D A [(oh, .inl (cI, 10000, .inl fh)), (ok_, .inl (cI, 166400, .inl fk)), (oK, .inl (cI, 64, .inl fK)), (og, .inl (cI, 32, .inl fs)), (on_, .inl (cI, 32, .inl fn)), (mo, .inr (8, [.int (iZ 0), .int (iZ (np : Int)), .ref ow, .ref om, .ref ok_, .ref oK, .ref og, .ref on_, .ref oh, .ref ox, .int qn, .int qf, .ref op_, .int ql])), (ow, .inl (cI, 108000, .inl fx12)), (om, .inl (cI, 9, .inl fy12))] := hD
            show W p l e R s m args below meth c H locs _ _ Q (F0 m 91 ls [])
            obtain ⟨v12, hv12⟩ : ∃ x, x = up v11 1 1 := ⟨_, rfl⟩
            have w12 : WB fx12 fy12 v12 := by rw [hv12]; exact w12
            refine lv_iconst (v := iZ (0)) hx hb d_Mo_dot_91 (by decide +kernel) ?_
            refine lv_istore (lv' := [(6, .int (iZ 0)), (5, .int (iZ 1)), (0, .ref mo), (1, .int (iZ (to : Int))), (2, .int (iZ (a : Int))), (3, .int (iZ (b_ : Int))), (4, .int (iZ (ct : Int)))]) hx hb d_Mo_dot_92 hl (by decide) rfl (fun ls hl => ?_)
            refine lv_iconst (v := iZ (0)) hx hb d_Mo_dot_94 (by decide +kernel) ?_
            refine lv_istore (lv' := [(7, .int (iZ 0)), (6, .int (iZ 0)), (5, .int (iZ 1)), (0, .ref mo), (1, .int (iZ (to : Int))), (2, .int (iZ (a : Int))), (3, .int (iZ (b_ : Int))), (4, .int (iZ (ct : Int)))]) hx hb d_Mo_dot_95 hl (by decide) rfl (fun ls hl => ?_)
            exact L97 _ 0 0 fx12 fy12 v12 _ _ _ (Nat.lt_succ_self _) (Nat.zero_le _) w12 (by rw [hv12, up_n (by decide), hv11, up_s]; rfl) (by rw [hv12, up_s]; rfl) rfl (hP.sub (ws' := [(mo, .inr (8, [.int (iZ 0), .int (iZ (np : Int)), .ref ow, .ref om, .ref ok_, .ref oK, .ref og, .ref on_, .ref oh, .ref ox, .int qn, .int qf, .ref op_, .int ql])), (ow, .inl (cI, 108000, .inl fx12)), (om, .inl (cI, 9, .inl fy12)), (oh, .inl (cI, 10000, .inl fh)), (ok_, .inl (cI, 166400, .inl fk)), (oK, .inl (cI, 64, .inl fK)), (og, .inl (cI, 32, .inl fs)), (on_, .inl (cI, 32, .inl fn))]) [5, 6, 7, 0, 1, 2, 3, 4] rfl) (hD.sub (ws' := [(mo, .inr (8, [.int (iZ 0), .int (iZ (np : Int)), .ref ow, .ref om, .ref ok_, .ref oK, .ref og, .ref on_, .ref oh, .ref ox, .int qn, .int qf, .ref op_, .int ql])), (ow, .inl (cI, 108000, .inl fx12)), (om, .inl (cI, 9, .inl fy12)), (oh, .inl (cI, 10000, .inl fh)), (ok_, .inl (cI, 166400, .inl fk)), (oK, .inl (cI, 64, .inl fK)), (og, .inl (cI, 32, .inl fs)), (on_, .inl (cI, 32, .inl fn))]) [5, 6, 7, 0, 1, 2, 3, 4] (by decide) rfl) hS (lv_sub hl [3, 4, 5, 6, 7, 1, 0] rfl)
          · refine lv_iconst (v := iZ (2)) hx hb d_Mo_dot_66 (by decide +kernel) ?_
            refine lv_goto (tgt := 71) hx hb d_Mo_dot_67 (by decide) ?_
            exfalso
            omega
        · refine lv_iload hx hb d_Mo_dot_26 (lv_at hl 4 rfl) ?_
          refine lv_bipush (v := iZ (32)) hx hb d_Mo_dot_28 (by decide +kernel) ?_
          refine lv_iload_n hx hb d_Mo_dot_30 rfl (lv_at hl 2 rfl) ?_
          refine zz_isub hx hb d_Mo_dot_31 ?_
          refine zz_icmp_gt (tgt := 48) hx hb d_Mo_dot_32 (by decide) (by omega) (by omega) (fun c32 => False.elim (by omega)) (fun c32 => ?_)
          refine lv_iload hx hb d_Mo_dot_35 (lv_at hl 4 rfl) ?_
          refine lv_bipush (v := iZ (32)) hx hb d_Mo_dot_37 (by decide +kernel) ?_
          refine lv_iload_n hx hb d_Mo_dot_39 rfl (lv_at hl 3 rfl) ?_
          refine zz_isub hx hb d_Mo_dot_40 ?_
          refine zz_icmp_gt (tgt := 48) hx hb d_Mo_dot_41 (by decide) (by omega) (by omega) (fun c41 => False.elim (by omega)) (fun c41 => ?_)
          refine lv_iconst (v := iZ (1)) hx hb d_Mo_dot_44 (by decide +kernel) ?_
          refine lv_goto (tgt := 49) hx hb d_Mo_dot_45 (by decide) ?_
          refine lv_istore (lv' := [(5, .int (iZ 1)), (0, .ref mo), (1, .int (iZ (to : Int))), (2, .int (iZ (a : Int))), (3, .int (iZ (b_ : Int))), (4, .int (iZ (ct : Int)))]) hx hb d_Mo_dot_49 hl (by decide) rfl (fun ls hl => ?_)
          refine lv_aload_n hx hb d_Mo_dot_51 rfl (lv_at hl 1 rfl) ?_
          refine lv_iload hx hb d_Mo_dot_52 (lv_at hl 0 rfl) ?_
          refine zz_if_ne (tgt := 61) hx hb d_Mo_dot_54 (by decide) (by omega) (fun c54 => ?_) (fun c54 => False.elim (by omega))
          refine lv_iload hx hb d_Mo_dot_61 (lv_at hl 5 rfl) ?_
          refine zz_if_ge (tgt := 70) hx hb d_Mo_dot_63 (by decide) (by omega) (fun c63 => ?_) (fun c63 => ?_)
          · refine lv_iconst (v := iZ (0)) hx hb d_Mo_dot_70 (by decide +kernel) ?_
            refine cv (n := 1) (wr := [(ow, .inl (cI, 108000, .inl fw)), (om, .inl (cI, 9, .inl fm)), (oh, .inl (cI, 10000, .inl fh)), (ok_, .inl (cI, 166400, .inl fk)), (oK, .inl (cI, 64, .inl fK)), (og, .inl (cI, 32, .inl fs)), (on_, .inl (cI, 32, .inl fn))]) (w1 := (fun (u : Int) => [(mo, .inr (8, [.int (iZ 0), .int (iZ (np : Int)), .ref ow, .ref om, .ref ok_, .ref oK, .ref og, .ref on_, .ref oh, .ref ox, .int qn, .int qf, .ref op_, .int ql]))])) (As := [.int (iZ 0)]) (rest := []) K hP hD hK hS hA hl.1 (c_Mo_refuses l D mo qc np ow om ok_ oK og on_ oh ox qn qf op_ ql 0 H.size (by omega)) [0] [1, 2, 3, 4, 5, 6, 7] [] rfl rfl rfl (by decide) (by decide) (by decide) 0 rfl rfl (big_in mw_1176 rfl) (big_in mw_10 rfl) (big_in mw_1173 rfl) (big_in mw_1175 rfl) (big_in sp_18 rfl) rfl rfl (by decide +kernel) ⟨by rw [hR]; exact Nat.le_of_ble_eq_true rfl, by rw [hR]; exact Nat.le_of_ble_eq_true rfl⟩ rfl (Nat.le_of_ble_eq_true rfl) d_Mo_dot_71 ⟨by rw [hR]; exact Nat.le_of_ble_eq_true rfl, by rw [hR]; exact Nat.le_of_ble_eq_true rfl⟩ rfl (fun v u H locs hp16 hP hD hS _ => ?_)
            obtain ⟨rf, rfl⟩ : ∃ z, z = u := ⟨_, rfl⟩
            obtain ⟨rfl, prf⟩ := hp16
            have hP : va_P D cls0 [(ow, .inl (cI, 108000, .inl fw)), (om, .inl (cI, 9, .inl fm)), (oh, .inl (cI, 10000, .inl fh)), (ok_, .inl (cI, 166400, .inl fk)), (oK, .inl (cI, 64, .inl fK)), (og, .inl (cI, 32, .inl fs)), (on_, .inl (cI, 32, .inl fn)), (mo, .inr (8, [.int (iZ 0), .int (iZ (np : Int)), .ref ow, .ref om, .ref ok_, .ref oK, .ref og, .ref on_, .ref oh, .ref ox, .int qn, .int qf, .ref op_, .int ql]))] H := hP
            have hD : va_D A [(ow, .inl (cI, 108000, .inl fw)), (om, .inl (cI, 9, .inl fm)), (oh, .inl (cI, 10000, .inl fh)), (ok_, .inl (cI, 166400, .inl fk)), (oK, .inl (cI, 64, .inl fK)), (og, .inl (cI, 32, .inl fs)), (on_, .inl (cI, 32, .inl fn)), (mo, .inr (8, [.int (iZ 0), .int (iZ (np : Int)), .ref ow, .ref om, .ref ok_, .ref oK, .ref og, .ref on_, .ref oh, .ref ox, .int qn, .int qf, .ref op_, .int ql]))] := hD
            show W p l e R s m args below meth c H locs _ _ Q (F0 m 74 ls [.int (iZ rf)])
            refine zz_if_eq (tgt := 79) hx hb d_Mo_dot_74 (by decide) (by omega) (fun c74 => ?_) (fun c74 => False.elim (by omega))
            refine lv_aload_n hx hb d_Mo_dot_79 rfl (lv_at hl 1 rfl) ?_
            refine lv_iconst (v := iZ (0)) hx hb d_Mo_dot_80 (by decide +kernel) ?_
            refine lv_lconst (v := lZ (0)) hx hb d_Mo_dot_81 (by decide +kernel) ?_
            refine cv (n := 2) (wr := [(oh, .inl (cI, 10000, .inl fh)), (ok_, .inl (cI, 166400, .inl fk)), (oK, .inl (cI, 64, .inl fK)), (og, .inl (cI, 32, .inl fs)), (on_, .inl (cI, 32, .inl fn))]) (w1 := (fun (u : (Nat → Int32) × (Nat → Int32)) => [(mo, .inr (8, [.int (iZ 0), .int (iZ (np : Int)), .ref ow, .ref om, .ref ok_, .ref oK, .ref og, .ref on_, .ref oh, .ref ox, .int qn, .int qf, .ref op_, .int ql])), (ow, .inl (cI, 108000, .inl u.1)), (om, .inl (cI, 9, .inl u.2))])) (As := [.int (iZ 0), .long (lZ 0)]) (rest := []) K hP hD hK hS hA hl.1 (c_Mo_setLong l D mo (iZ 0) np ow om ok_ oK og on_ oh ox qn qf op_ ql fw fm cI val 0 0 H.size hW (by omega) (by omega)) [7, 0, 1] [2, 3, 4, 5, 6] [0] rfl rfl rfl (by decide) (by decide) (by decide) 0 rfl rfl (big_in mw_1180 rfl) (big_in mw_10 rfl) (big_in mw_1177 rfl) (big_in mw_1179 rfl) (big_in sp_19 rfl) rfl rfl (by decide +kernel) ⟨by rw [hR]; exact Nat.le_of_ble_eq_true rfl, by rw [hR]; exact Nat.le_of_ble_eq_true rfl⟩ rfl (Nat.le_of_ble_eq_true rfl) d_Mo_dot_82 ⟨by rw [hR]; exact Nat.le_of_ble_eq_true rfl, by rw [hR]; exact Nat.le_of_ble_eq_true rfl⟩ rfl (fun v u H locs hp17 hP hD hS _ => ?_)
            obtain ⟨fx11, fy11⟩ := u
            try dsimp only at hp17
            obtain ⟨rfl, w11⟩ := hp17
            have hP : va_P D cls0 [(oh, .inl (cI, 10000, .inl fh)), (ok_, .inl (cI, 166400, .inl fk)), (oK, .inl (cI, 64, .inl fK)), (og, .inl (cI, 32, .inl fs)), (on_, .inl (cI, 32, .inl fn)), (mo, .inr (8, [.int (iZ 0), .int (iZ (np : Int)), .ref ow, .ref om, .ref ok_, .ref oK, .ref og, .ref on_, .ref oh, .ref ox, .int qn, .int qf, .ref op_, .int ql])), (ow, .inl (cI, 108000, .inl fx11)), (om, .inl (cI, 9, .inl fy11))] H := hP
            have hD : va_D A [(oh, .inl (cI, 10000, .inl fh)), (ok_, .inl (cI, 166400, .inl fk)), (oK, .inl (cI, 64, .inl fK)), (og, .inl (cI, 32, .inl fs)), (on_, .inl (cI, 32, .inl fn)), (mo, .inr (8, [.int (iZ 0), .int (iZ (np : Int)), .ref ow, .ref om, .ref ok_, .ref oK, .ref og, .ref on_, .ref oh, .ref ox, .int qn, .int qf, .ref op_, .int ql])), (ow, .inl (cI, 108000, .inl fx11)), (om, .inl (cI, 9, .inl fy11))] := hD
            show W p l e R s m args below meth c H locs _ _ Q (F0 m 85 ls [])
            obtain ⟨v11, hv11⟩ : ∃ x, x = up val 0 0 := ⟨_, rfl⟩
            have w11 : WB fx11 fy11 v11 := by rw [hv11]; exact w11
            refine lv_aload_n hx hb d_Mo_dot_85 rfl (lv_at hl 1 rfl) ?_
            refine lv_iconst (v := iZ (1)) hx hb d_Mo_dot_86 (by decide +kernel) ?_
            refine lv_lconst (v := lZ (1)) hx hb d_Mo_dot_87 (by decide +kernel) ?_
            refine cv (n := 2) (wr := [(oh, .inl (cI, 10000, .inl fh)), (ok_, .inl (cI, 166400, .inl fk)), (oK, .inl (cI, 64, .inl fK)), (og, .inl (cI, 32, .inl fs)), (on_, .inl (cI, 32, .inl fn))]) (w1 := (fun (u : (Nat → Int32) × (Nat → Int32)) => [(mo, .inr (8, [.int (iZ 0), .int (iZ (np : Int)), .ref ow, .ref om, .ref ok_, .ref oK, .ref og, .ref on_, .ref oh, .ref ox, .int qn, .int qf, .ref op_, .int ql])), (ow, .inl (cI, 108000, .inl u.1)), (om, .inl (cI, 9, .inl u.2))])) (As := [.int (iZ 1), .long (lZ 1)]) (rest := []) K hP hD hK hS hA hl.1 (c_Mo_setLong l D mo (iZ 0) np ow om ok_ oK og on_ oh ox qn qf op_ ql fx11 fy11 cI v11 1 1 H.size w11 (by omega) (by omega)) [5, 6, 7] [0, 1, 2, 3, 4] [0] rfl rfl rfl (by decide) (by decide) (by decide) 0 rfl rfl (big_in mw_1180 rfl) (big_in mw_10 rfl) (big_in mw_1177 rfl) (big_in mw_1179 rfl) (big_in sp_19 rfl) rfl rfl (by decide +kernel) ⟨by rw [hR]; exact Nat.le_of_ble_eq_true rfl, by rw [hR]; exact Nat.le_of_ble_eq_true rfl⟩ rfl (Nat.le_of_ble_eq_true rfl) d_Mo_dot_88 ⟨by rw [hR]; exact Nat.le_of_ble_eq_true rfl, by rw [hR]; exact Nat.le_of_ble_eq_true rfl⟩ rfl (fun v u H locs hp18 hP hD hS _ => ?_)
            obtain ⟨fx12, fy12⟩ := u
            try dsimp only at hp18
            obtain ⟨rfl, w12⟩ := hp18
            have hP : va_P D cls0 [(oh, .inl (cI, 10000, .inl fh)), (ok_, .inl (cI, 166400, .inl fk)), (oK, .inl (cI, 64, .inl fK)), (og, .inl (cI, 32, .inl fs)), (on_, .inl (cI, 32, .inl fn)), (mo, .inr (8, [.int (iZ 0), .int (iZ (np : Int)), .ref ow, .ref om, .ref ok_, .ref oK, .ref og, .ref on_, .ref oh, .ref ox, .int qn, .int qf, .ref op_, .int ql])), (ow, .inl (cI, 108000, .inl fx12)), (om, .inl (cI, 9, .inl fy12))] H := hP
            have hD : va_D A [(oh, .inl (cI, 10000, .inl fh)), (ok_, .inl (cI, 166400, .inl fk)), (oK, .inl (cI, 64, .inl fK)), (og, .inl (cI, 32, .inl fs)), (on_, .inl (cI, 32, .inl fn)), (mo, .inr (8, [.int (iZ 0), .int (iZ (np : Int)), .ref ow, .ref om, .ref ok_, .ref oK, .ref og, .ref on_, .ref oh, .ref ox, .int qn, .int qf, .ref op_, .int ql])), (ow, .inl (cI, 108000, .inl fx12)), (om, .inl (cI, 9, .inl fy12))] := hD
            show W p l e R s m args below meth c H locs _ _ Q (F0 m 91 ls [])
            obtain ⟨v12, hv12⟩ : ∃ x, x = up v11 1 1 := ⟨_, rfl⟩
            have w12 : WB fx12 fy12 v12 := by rw [hv12]; exact w12
            refine lv_iconst (v := iZ (0)) hx hb d_Mo_dot_91 (by decide +kernel) ?_
            refine lv_istore (lv' := [(6, .int (iZ 0)), (5, .int (iZ 1)), (0, .ref mo), (1, .int (iZ (to : Int))), (2, .int (iZ (a : Int))), (3, .int (iZ (b_ : Int))), (4, .int (iZ (ct : Int)))]) hx hb d_Mo_dot_92 hl (by decide) rfl (fun ls hl => ?_)
            refine lv_iconst (v := iZ (0)) hx hb d_Mo_dot_94 (by decide +kernel) ?_
            refine lv_istore (lv' := [(7, .int (iZ 0)), (6, .int (iZ 0)), (5, .int (iZ 1)), (0, .ref mo), (1, .int (iZ (to : Int))), (2, .int (iZ (a : Int))), (3, .int (iZ (b_ : Int))), (4, .int (iZ (ct : Int)))]) hx hb d_Mo_dot_95 hl (by decide) rfl (fun ls hl => ?_)
            exact L97 _ 0 0 fx12 fy12 v12 _ _ _ (Nat.lt_succ_self _) (Nat.zero_le _) w12 (by rw [hv12, up_n (by decide), hv11, up_s]; rfl) (by rw [hv12, up_s]; rfl) rfl (hP.sub (ws' := [(mo, .inr (8, [.int (iZ 0), .int (iZ (np : Int)), .ref ow, .ref om, .ref ok_, .ref oK, .ref og, .ref on_, .ref oh, .ref ox, .int qn, .int qf, .ref op_, .int ql])), (ow, .inl (cI, 108000, .inl fx12)), (om, .inl (cI, 9, .inl fy12)), (oh, .inl (cI, 10000, .inl fh)), (ok_, .inl (cI, 166400, .inl fk)), (oK, .inl (cI, 64, .inl fK)), (og, .inl (cI, 32, .inl fs)), (on_, .inl (cI, 32, .inl fn))]) [5, 6, 7, 0, 1, 2, 3, 4] rfl) (hD.sub (ws' := [(mo, .inr (8, [.int (iZ 0), .int (iZ (np : Int)), .ref ow, .ref om, .ref ok_, .ref oK, .ref og, .ref on_, .ref oh, .ref ox, .int qn, .int qf, .ref op_, .int ql])), (ow, .inl (cI, 108000, .inl fx12)), (om, .inl (cI, 9, .inl fy12)), (oh, .inl (cI, 10000, .inl fh)), (ok_, .inl (cI, 166400, .inl fk)), (oK, .inl (cI, 64, .inl fK)), (og, .inl (cI, 32, .inl fs)), (on_, .inl (cI, 32, .inl fn))]) [5, 6, 7, 0, 1, 2, 3, 4] (by decide) rfl) hS (lv_sub hl [3, 4, 5, 6, 7, 1, 0] rfl)
          · refine lv_iconst (v := iZ (2)) hx hb d_Mo_dot_66 (by decide +kernel) ?_
            refine lv_goto (tgt := 71) hx hb d_Mo_dot_67 (by decide) ?_
            exfalso
            omega
set_option maxHeartbeats 4000000 in
set_option maxRecDepth 100000 in
/-- Mo_dot refused with 1 -/
theorem r1_Mo_dot (l : Launch) (D : va_G) (mo : Nat) (qc : Int32) (np : Nat) (ow : Nat) (om : Nat) (ok_ : Nat) (oK : Nat) (og : Nat) (on_ : Nat) (oh : Nat) (ox : Nat) (qn : Int32) (qf : Int32) (op_ : Nat) (ql : Int32) (zt : Int) (za : Int) (zb : Int) (zn : Int) (sz : Nat) (hbad : (zt < 0 ∨ 32 ≤ zt) ∨ (za < 0 ∨ 32 ≤ za) ∨ (zb < 0 ∨ 32 ≤ zb) ∨ (0 < zn ∧ (32 - za < zn ∨ 32 - zb < zn))) (hrng : -2147483648 ≤ zt ∧ zt < 2147483648 ∧ -2147483648 ≤ za ∧ za < 2147483648 ∧ -2147483648 ≤ zb ∧ zb < 2147483648 ∧ -2147483648 ≤ zn ∧ zn < 2147483648) : Met l y_Mo_dot (wsB y_Mo_dot b_Mo_dot 8 (some .int)) ({ frames := 1, cells := 0, slots := 0, locals := 21 }) (va_Pc [.ref mo, .int (iZ zt), .int (iZ za), .int (iZ zb), .int (iZ zn)] (wPre D [] [(mo, .inr (8, [.int qc, .int (iZ (np : Int)), .ref ow, .ref om, .ref ok_, .ref oK, .ref og, .ref on_, .ref oh, .ref ox, .int qn, .int qf, .ref op_, .int ql]))] sz)) (va_QV (fun (v_9 : Option Value) (u_9 : Unit) => v_9 = some (.int (iZ 0))) (fun u_9 => wPost D [] [(mo, .inr (8, [.int qc, .int (iZ (np : Int)), .ref ow, .ref om, .ref ok_, .ref oK, .ref og, .ref on_, .ref oh, .ref ox, .int qn, .int qf, .ref op_, .int ql]))] [(mo, .inr (8, [.int (iZ 1), .int (iZ (np : Int)), .ref ow, .ref om, .ref ok_, .ref oK, .ref og, .ref on_, .ref oh, .ref ox, .int qn, .int qf, .ref op_, .int ql]))] sz) (va_A [(mo, .inr (8, [.int qc, .int (iZ (np : Int)), .ref ow, .ref om, .ref ok_, .ref oK, .ref og, .ref on_, .ref oh, .ref ox, .int qn, .int qf, .ref op_, .int ql]))] sz)) 0 0 (va_A [(mo, .inr (8, [.int qc, .int (iZ (np : Int)), .ref ow, .ref om, .ref ok_, .ref oK, .ref og, .ref on_, .ref oh, .ref ox, .int qn, .int qf, .ref op_, .int ql]))] sz) := by
  refine met_enter (by decide +kernel) (Nat.le_of_ble_eq_true rfl) ?_
  intro p e s m args below meth c ls A R Q H locs K hin hAe hA hR hQ hP hK hD hS hl
  obtain ⟨hx, hb, hml, hrt, hlk, hts, hown, hno⟩ := id K
  have hl : lv_has ls 8 [(0, .ref mo), (1, .int (iZ zt)), (2, .int (iZ za)), (3, .int (iZ zb)), (4, .int (iZ zn))] := hl
  refine lv_iload_n hx hb d_Mo_dot_0 rfl (lv_at hl 1 rfl) ?_
  refine cs (n := 1) (wr := [(mo, .inr (8, [.int qc, .int (iZ (np : Int)), .ref ow, .ref om, .ref ok_, .ref oK, .ref og, .ref on_, .ref oh, .ref ox, .int qn, .int qf, .ref op_, .int ql]))]) (w1 := (fun (u : Int) => [])) (As := [.int (iZ zt)]) (rest := []) K hP hD hK hS hA hl.1 (c_Mo_isRegister l D zt H.size (by omega)) [] [0] [] rfl rfl rfl (by decide) (by decide) (by decide) (big_in mw_1172 rfl) (big_in mw_10 rfl) (big_in mw_1170 rfl) (big_in mw_1171 rfl) rfl rfl (by decide +kernel) ⟨by rw [hR]; exact Nat.le_of_ble_eq_true rfl, by rw [hR]; exact Nat.le_of_ble_eq_true rfl⟩ rfl (Nat.le_of_ble_eq_true rfl) d_Mo_dot_1 ⟨by rw [hR]; exact Nat.le_of_ble_eq_true rfl, by rw [hR]; exact Nat.le_of_ble_eq_true rfl⟩ rfl (fun v u H locs hp1 hP hD hS _ => ?_)
  obtain ⟨r1, rfl⟩ : ∃ z, z = u := ⟨_, rfl⟩
  obtain ⟨rfl, p1⟩ := hp1
  have hP : va_P D cls0 [(mo, .inr (8, [.int qc, .int (iZ (np : Int)), .ref ow, .ref om, .ref ok_, .ref oK, .ref og, .ref on_, .ref oh, .ref ox, .int qn, .int qf, .ref op_, .int ql]))] H := hP
  have hD : va_D A [(mo, .inr (8, [.int qc, .int (iZ (np : Int)), .ref ow, .ref om, .ref ok_, .ref oK, .ref og, .ref on_, .ref oh, .ref ox, .int qn, .int qf, .ref op_, .int ql]))] := hD
  show W p l e R s m args below meth c H locs _ _ Q (F0 m 4 ls [.int (iZ r1)])
  have b1 : 0 ≤ r1 ∧ r1 ≤ 1 := by omega
  refine zz_if_eq (tgt := 48) hx hb d_Mo_dot_4 (by decide) (by omega) (fun c4 => ?_) (fun c4 => ?_)
  · refine lv_iconst (v := iZ (0)) hx hb d_Mo_dot_48 (by decide +kernel) ?_
    refine lv_istore (lv' := [(5, .int (iZ 0)), (0, .ref mo), (1, .int (iZ zt)), (2, .int (iZ za)), (3, .int (iZ zb)), (4, .int (iZ zn))]) hx hb d_Mo_dot_49 hl (by decide) rfl (fun ls hl => ?_)
    refine lv_aload_n hx hb d_Mo_dot_51 rfl (lv_at hl 1 rfl) ?_
    refine lv_iload hx hb d_Mo_dot_52 (lv_at hl 0 rfl) ?_
    refine zz_if_ne (tgt := 61) hx hb d_Mo_dot_54 (by decide) (by omega) (fun c54 => False.elim (by omega)) (fun c54 => ?_)
    refine lv_iconst (v := iZ (1)) hx hb d_Mo_dot_57 (by decide +kernel) ?_
    refine lv_goto (tgt := 71) hx hb d_Mo_dot_58 (by decide) ?_
    refine cv (n := 1) (wr := []) (w1 := (fun (u : Int) => [(mo, .inr (8, [.int (iZ 1), .int (iZ (np : Int)), .ref ow, .ref om, .ref ok_, .ref oK, .ref og, .ref on_, .ref oh, .ref ox, .int qn, .int qf, .ref op_, .int ql]))])) (As := [.int (iZ 1)]) (rest := []) K hP hD hK hS hA hl.1 (c_Mo_refuses l D mo qc np ow om ok_ oK og on_ oh ox qn qf op_ ql 1 H.size (by omega)) [0] [] [] rfl rfl rfl (by decide) (by decide) (by decide) 0 rfl rfl (big_in mw_1176 rfl) (big_in mw_10 rfl) (big_in mw_1173 rfl) (big_in mw_1175 rfl) (big_in sp_18 rfl) rfl rfl (by decide +kernel) ⟨by rw [hR]; exact Nat.le_of_ble_eq_true rfl, by rw [hR]; exact Nat.le_of_ble_eq_true rfl⟩ rfl (Nat.le_of_ble_eq_true rfl) d_Mo_dot_71 ⟨by rw [hR]; exact Nat.le_of_ble_eq_true rfl, by rw [hR]; exact Nat.le_of_ble_eq_true rfl⟩ rfl (fun v u H locs hp2 hP hD hS _ => ?_)
    obtain ⟨rf, rfl⟩ : ∃ z, z = u := ⟨_, rfl⟩
    obtain ⟨rfl, prf⟩ := hp2
    have hP : va_P D cls0 [(mo, .inr (8, [.int (iZ 1), .int (iZ (np : Int)), .ref ow, .ref om, .ref ok_, .ref oK, .ref og, .ref on_, .ref oh, .ref ox, .int qn, .int qf, .ref op_, .int ql]))] H := hP
    have hD : va_D A [(mo, .inr (8, [.int (iZ 1), .int (iZ (np : Int)), .ref ow, .ref om, .ref ok_, .ref oK, .ref og, .ref on_, .ref oh, .ref ox, .int qn, .int qf, .ref op_, .int ql]))] := hD
    show W p l e R s m args below meth c H locs _ _ Q (F0 m 74 ls [.int (iZ rf)])
    refine zz_if_eq (tgt := 79) hx hb d_Mo_dot_74 (by decide) (by omega) (fun c74 => False.elim (by omega)) (fun c74 => ?_)
    refine lv_iconst (v := iZ (0)) hx hb d_Mo_dot_77 (by decide +kernel) ?_
    have hP9 : va_P D cls0 [(mo, .inr (8, [.int (iZ 1), .int (iZ (np : Int)), .ref ow, .ref om, .ref ok_, .ref oK, .ref og, .ref on_, .ref oh, .ref ox, .int qn, .int qf, .ref op_, .int ql]))] H := hP.sub [0] rfl
    have hD9 : va_D A [(mo, .inr (8, [.int (iZ 1), .int (iZ (np : Int)), .ref ow, .ref om, .ref ok_, .ref oK, .ref og, .ref on_, .ref oh, .ref ox, .int qn, .int qf, .ref op_, .int ql]))] := hD.sub [0] (by decide) rfl
    rw [hQ, ← hAe]
    refine r_i (v := (iZ 0)) K () hS d_Mo_dot_78 ?_ (fun t ht hv => ?_)
    · exact rfl
    · exact ⟨by rw [ht]; exact hP9, va_K.moved hv hK, by rw [← hAe]; exact hD9⟩
  · refine lv_iload_n hx hb d_Mo_dot_7 rfl (lv_at hl 2 rfl) ?_
    refine cs (n := 1) (wr := [(mo, .inr (8, [.int qc, .int (iZ (np : Int)), .ref ow, .ref om, .ref ok_, .ref oK, .ref og, .ref on_, .ref oh, .ref ox, .int qn, .int qf, .ref op_, .int ql]))]) (w1 := (fun (u : Int) => [])) (As := [.int (iZ za)]) (rest := []) K hP hD hK hS hA hl.1 (c_Mo_isRegister l D za H.size (by omega)) [] [0] [] rfl rfl rfl (by decide) (by decide) (by decide) (big_in mw_1172 rfl) (big_in mw_10 rfl) (big_in mw_1170 rfl) (big_in mw_1171 rfl) rfl rfl (by decide +kernel) ⟨by rw [hR]; exact Nat.le_of_ble_eq_true rfl, by rw [hR]; exact Nat.le_of_ble_eq_true rfl⟩ rfl (Nat.le_of_ble_eq_true rfl) d_Mo_dot_8 ⟨by rw [hR]; exact Nat.le_of_ble_eq_true rfl, by rw [hR]; exact Nat.le_of_ble_eq_true rfl⟩ rfl (fun v u H locs hp3 hP hD hS _ => ?_)
    obtain ⟨r8, rfl⟩ : ∃ z, z = u := ⟨_, rfl⟩
    obtain ⟨rfl, p8⟩ := hp3
    have hP : va_P D cls0 [(mo, .inr (8, [.int qc, .int (iZ (np : Int)), .ref ow, .ref om, .ref ok_, .ref oK, .ref og, .ref on_, .ref oh, .ref ox, .int qn, .int qf, .ref op_, .int ql]))] H := hP
    have hD : va_D A [(mo, .inr (8, [.int qc, .int (iZ (np : Int)), .ref ow, .ref om, .ref ok_, .ref oK, .ref og, .ref on_, .ref oh, .ref ox, .int qn, .int qf, .ref op_, .int ql]))] := hD
    show W p l e R s m args below meth c H locs _ _ Q (F0 m 11 ls [.int (iZ r8)])
    have b8 : 0 ≤ r8 ∧ r8 ≤ 1 := by omega
    refine zz_if_eq (tgt := 48) hx hb d_Mo_dot_11 (by decide) (by omega) (fun c11 => ?_) (fun c11 => ?_)
    · refine lv_iconst (v := iZ (0)) hx hb d_Mo_dot_48 (by decide +kernel) ?_
      refine lv_istore (lv' := [(5, .int (iZ 0)), (0, .ref mo), (1, .int (iZ zt)), (2, .int (iZ za)), (3, .int (iZ zb)), (4, .int (iZ zn))]) hx hb d_Mo_dot_49 hl (by decide) rfl (fun ls hl => ?_)
      refine lv_aload_n hx hb d_Mo_dot_51 rfl (lv_at hl 1 rfl) ?_
      refine lv_iload hx hb d_Mo_dot_52 (lv_at hl 0 rfl) ?_
      refine zz_if_ne (tgt := 61) hx hb d_Mo_dot_54 (by decide) (by omega) (fun c54 => False.elim (by omega)) (fun c54 => ?_)
      refine lv_iconst (v := iZ (1)) hx hb d_Mo_dot_57 (by decide +kernel) ?_
      refine lv_goto (tgt := 71) hx hb d_Mo_dot_58 (by decide) ?_
      refine cv (n := 1) (wr := []) (w1 := (fun (u : Int) => [(mo, .inr (8, [.int (iZ 1), .int (iZ (np : Int)), .ref ow, .ref om, .ref ok_, .ref oK, .ref og, .ref on_, .ref oh, .ref ox, .int qn, .int qf, .ref op_, .int ql]))])) (As := [.int (iZ 1)]) (rest := []) K hP hD hK hS hA hl.1 (c_Mo_refuses l D mo qc np ow om ok_ oK og on_ oh ox qn qf op_ ql 1 H.size (by omega)) [0] [] [] rfl rfl rfl (by decide) (by decide) (by decide) 0 rfl rfl (big_in mw_1176 rfl) (big_in mw_10 rfl) (big_in mw_1173 rfl) (big_in mw_1175 rfl) (big_in sp_18 rfl) rfl rfl (by decide +kernel) ⟨by rw [hR]; exact Nat.le_of_ble_eq_true rfl, by rw [hR]; exact Nat.le_of_ble_eq_true rfl⟩ rfl (Nat.le_of_ble_eq_true rfl) d_Mo_dot_71 ⟨by rw [hR]; exact Nat.le_of_ble_eq_true rfl, by rw [hR]; exact Nat.le_of_ble_eq_true rfl⟩ rfl (fun v u H locs hp4 hP hD hS _ => ?_)
      obtain ⟨rf, rfl⟩ : ∃ z, z = u := ⟨_, rfl⟩
      obtain ⟨rfl, prf⟩ := hp4
      have hP : va_P D cls0 [(mo, .inr (8, [.int (iZ 1), .int (iZ (np : Int)), .ref ow, .ref om, .ref ok_, .ref oK, .ref og, .ref on_, .ref oh, .ref ox, .int qn, .int qf, .ref op_, .int ql]))] H := hP
      have hD : va_D A [(mo, .inr (8, [.int (iZ 1), .int (iZ (np : Int)), .ref ow, .ref om, .ref ok_, .ref oK, .ref og, .ref on_, .ref oh, .ref ox, .int qn, .int qf, .ref op_, .int ql]))] := hD
      show W p l e R s m args below meth c H locs _ _ Q (F0 m 74 ls [.int (iZ rf)])
      refine zz_if_eq (tgt := 79) hx hb d_Mo_dot_74 (by decide) (by omega) (fun c74 => False.elim (by omega)) (fun c74 => ?_)
      refine lv_iconst (v := iZ (0)) hx hb d_Mo_dot_77 (by decide +kernel) ?_
      have hP9 : va_P D cls0 [(mo, .inr (8, [.int (iZ 1), .int (iZ (np : Int)), .ref ow, .ref om, .ref ok_, .ref oK, .ref og, .ref on_, .ref oh, .ref ox, .int qn, .int qf, .ref op_, .int ql]))] H := hP.sub [0] rfl
      have hD9 : va_D A [(mo, .inr (8, [.int (iZ 1), .int (iZ (np : Int)), .ref ow, .ref om, .ref ok_, .ref oK, .ref og, .ref on_, .ref oh, .ref ox, .int qn, .int qf, .ref op_, .int ql]))] := hD.sub [0] (by decide) rfl
      rw [hQ, ← hAe]
      refine r_i (v := (iZ 0)) K () hS d_Mo_dot_78 ?_ (fun t ht hv => ?_)
      · exact rfl
      · exact ⟨by rw [ht]; exact hP9, va_K.moved hv hK, by rw [← hAe]; exact hD9⟩
    · refine lv_iload_n hx hb d_Mo_dot_14 rfl (lv_at hl 3 rfl) ?_
      refine cs (n := 1) (wr := [(mo, .inr (8, [.int qc, .int (iZ (np : Int)), .ref ow, .ref om, .ref ok_, .ref oK, .ref og, .ref on_, .ref oh, .ref ox, .int qn, .int qf, .ref op_, .int ql]))]) (w1 := (fun (u : Int) => [])) (As := [.int (iZ zb)]) (rest := []) K hP hD hK hS hA hl.1 (c_Mo_isRegister l D zb H.size (by omega)) [] [0] [] rfl rfl rfl (by decide) (by decide) (by decide) (big_in mw_1172 rfl) (big_in mw_10 rfl) (big_in mw_1170 rfl) (big_in mw_1171 rfl) rfl rfl (by decide +kernel) ⟨by rw [hR]; exact Nat.le_of_ble_eq_true rfl, by rw [hR]; exact Nat.le_of_ble_eq_true rfl⟩ rfl (Nat.le_of_ble_eq_true rfl) d_Mo_dot_15 ⟨by rw [hR]; exact Nat.le_of_ble_eq_true rfl, by rw [hR]; exact Nat.le_of_ble_eq_true rfl⟩ rfl (fun v u H locs hp5 hP hD hS _ => ?_)
      obtain ⟨r15, rfl⟩ : ∃ z, z = u := ⟨_, rfl⟩
      obtain ⟨rfl, p15⟩ := hp5
      have hP : va_P D cls0 [(mo, .inr (8, [.int qc, .int (iZ (np : Int)), .ref ow, .ref om, .ref ok_, .ref oK, .ref og, .ref on_, .ref oh, .ref ox, .int qn, .int qf, .ref op_, .int ql]))] H := hP
      have hD : va_D A [(mo, .inr (8, [.int qc, .int (iZ (np : Int)), .ref ow, .ref om, .ref ok_, .ref oK, .ref og, .ref on_, .ref oh, .ref ox, .int qn, .int qf, .ref op_, .int ql]))] := hD
      show W p l e R s m args below meth c H locs _ _ Q (F0 m 18 ls [.int (iZ r15)])
      have b15 : 0 ≤ r15 ∧ r15 ≤ 1 := by omega
      refine zz_if_eq (tgt := 48) hx hb d_Mo_dot_18 (by decide) (by omega) (fun c18 => ?_) (fun c18 => ?_)
      · refine lv_iconst (v := iZ (0)) hx hb d_Mo_dot_48 (by decide +kernel) ?_
        refine lv_istore (lv' := [(5, .int (iZ 0)), (0, .ref mo), (1, .int (iZ zt)), (2, .int (iZ za)), (3, .int (iZ zb)), (4, .int (iZ zn))]) hx hb d_Mo_dot_49 hl (by decide) rfl (fun ls hl => ?_)
        refine lv_aload_n hx hb d_Mo_dot_51 rfl (lv_at hl 1 rfl) ?_
        refine lv_iload hx hb d_Mo_dot_52 (lv_at hl 0 rfl) ?_
        refine zz_if_ne (tgt := 61) hx hb d_Mo_dot_54 (by decide) (by omega) (fun c54 => False.elim (by omega)) (fun c54 => ?_)
        refine lv_iconst (v := iZ (1)) hx hb d_Mo_dot_57 (by decide +kernel) ?_
        refine lv_goto (tgt := 71) hx hb d_Mo_dot_58 (by decide) ?_
        refine cv (n := 1) (wr := []) (w1 := (fun (u : Int) => [(mo, .inr (8, [.int (iZ 1), .int (iZ (np : Int)), .ref ow, .ref om, .ref ok_, .ref oK, .ref og, .ref on_, .ref oh, .ref ox, .int qn, .int qf, .ref op_, .int ql]))])) (As := [.int (iZ 1)]) (rest := []) K hP hD hK hS hA hl.1 (c_Mo_refuses l D mo qc np ow om ok_ oK og on_ oh ox qn qf op_ ql 1 H.size (by omega)) [0] [] [] rfl rfl rfl (by decide) (by decide) (by decide) 0 rfl rfl (big_in mw_1176 rfl) (big_in mw_10 rfl) (big_in mw_1173 rfl) (big_in mw_1175 rfl) (big_in sp_18 rfl) rfl rfl (by decide +kernel) ⟨by rw [hR]; exact Nat.le_of_ble_eq_true rfl, by rw [hR]; exact Nat.le_of_ble_eq_true rfl⟩ rfl (Nat.le_of_ble_eq_true rfl) d_Mo_dot_71 ⟨by rw [hR]; exact Nat.le_of_ble_eq_true rfl, by rw [hR]; exact Nat.le_of_ble_eq_true rfl⟩ rfl (fun v u H locs hp6 hP hD hS _ => ?_)
        obtain ⟨rf, rfl⟩ : ∃ z, z = u := ⟨_, rfl⟩
        obtain ⟨rfl, prf⟩ := hp6
        have hP : va_P D cls0 [(mo, .inr (8, [.int (iZ 1), .int (iZ (np : Int)), .ref ow, .ref om, .ref ok_, .ref oK, .ref og, .ref on_, .ref oh, .ref ox, .int qn, .int qf, .ref op_, .int ql]))] H := hP
        have hD : va_D A [(mo, .inr (8, [.int (iZ 1), .int (iZ (np : Int)), .ref ow, .ref om, .ref ok_, .ref oK, .ref og, .ref on_, .ref oh, .ref ox, .int qn, .int qf, .ref op_, .int ql]))] := hD
        show W p l e R s m args below meth c H locs _ _ Q (F0 m 74 ls [.int (iZ rf)])
        refine zz_if_eq (tgt := 79) hx hb d_Mo_dot_74 (by decide) (by omega) (fun c74 => False.elim (by omega)) (fun c74 => ?_)
        refine lv_iconst (v := iZ (0)) hx hb d_Mo_dot_77 (by decide +kernel) ?_
        have hP9 : va_P D cls0 [(mo, .inr (8, [.int (iZ 1), .int (iZ (np : Int)), .ref ow, .ref om, .ref ok_, .ref oK, .ref og, .ref on_, .ref oh, .ref ox, .int qn, .int qf, .ref op_, .int ql]))] H := hP.sub [0] rfl
        have hD9 : va_D A [(mo, .inr (8, [.int (iZ 1), .int (iZ (np : Int)), .ref ow, .ref om, .ref ok_, .ref oK, .ref og, .ref on_, .ref oh, .ref ox, .int qn, .int qf, .ref op_, .int ql]))] := hD.sub [0] (by decide) rfl
        rw [hQ, ← hAe]
        refine r_i (v := (iZ 0)) K () hS d_Mo_dot_78 ?_ (fun t ht hv => ?_)
        · exact rfl
        · exact ⟨by rw [ht]; exact hP9, va_K.moved hv hK, by rw [← hAe]; exact hD9⟩
      · refine lv_iload hx hb d_Mo_dot_21 (lv_at hl 4 rfl) ?_
        refine zz_if_le (tgt := 44) hx hb d_Mo_dot_23 (by decide) (by omega) (fun c23 => ?_) (fun c23 => ?_)
        · refine lv_iconst (v := iZ (1)) hx hb d_Mo_dot_44 (by decide +kernel) ?_
          refine lv_goto (tgt := 49) hx hb d_Mo_dot_45 (by decide) ?_
          refine lv_istore (lv' := [(5, .int (iZ 1)), (0, .ref mo), (1, .int (iZ zt)), (2, .int (iZ za)), (3, .int (iZ zb)), (4, .int (iZ zn))]) hx hb d_Mo_dot_49 hl (by decide) rfl (fun ls hl => ?_)
          refine lv_aload_n hx hb d_Mo_dot_51 rfl (lv_at hl 1 rfl) ?_
          refine lv_iload hx hb d_Mo_dot_52 (lv_at hl 0 rfl) ?_
          refine zz_if_ne (tgt := 61) hx hb d_Mo_dot_54 (by decide) (by omega) (fun c54 => ?_) (fun c54 => False.elim (by omega))
          refine lv_iload hx hb d_Mo_dot_61 (lv_at hl 5 rfl) ?_
          refine zz_if_ge (tgt := 70) hx hb d_Mo_dot_63 (by decide) (by omega) (fun c63 => ?_) (fun c63 => ?_)
          · refine lv_iconst (v := iZ (0)) hx hb d_Mo_dot_70 (by decide +kernel) ?_
            exfalso
            omega
          · refine lv_iconst (v := iZ (2)) hx hb d_Mo_dot_66 (by decide +kernel) ?_
            refine lv_goto (tgt := 71) hx hb d_Mo_dot_67 (by decide) ?_
            exfalso
            omega
        · refine lv_iload hx hb d_Mo_dot_26 (lv_at hl 4 rfl) ?_
          refine lv_bipush (v := iZ (32)) hx hb d_Mo_dot_28 (by decide +kernel) ?_
          refine lv_iload_n hx hb d_Mo_dot_30 rfl (lv_at hl 2 rfl) ?_
          refine zz_isub hx hb d_Mo_dot_31 ?_
          refine zz_icmp_gt (tgt := 48) hx hb d_Mo_dot_32 (by decide) (by omega) (by omega) (fun c32 => ?_) (fun c32 => ?_)
          · refine lv_iconst (v := iZ (0)) hx hb d_Mo_dot_48 (by decide +kernel) ?_
            refine lv_istore (lv' := [(5, .int (iZ 0)), (0, .ref mo), (1, .int (iZ zt)), (2, .int (iZ za)), (3, .int (iZ zb)), (4, .int (iZ zn))]) hx hb d_Mo_dot_49 hl (by decide) rfl (fun ls hl => ?_)
            refine lv_aload_n hx hb d_Mo_dot_51 rfl (lv_at hl 1 rfl) ?_
            refine lv_iload hx hb d_Mo_dot_52 (lv_at hl 0 rfl) ?_
            refine zz_if_ne (tgt := 61) hx hb d_Mo_dot_54 (by decide) (by omega) (fun c54 => False.elim (by omega)) (fun c54 => ?_)
            refine lv_iconst (v := iZ (1)) hx hb d_Mo_dot_57 (by decide +kernel) ?_
            refine lv_goto (tgt := 71) hx hb d_Mo_dot_58 (by decide) ?_
            refine cv (n := 1) (wr := []) (w1 := (fun (u : Int) => [(mo, .inr (8, [.int (iZ 1), .int (iZ (np : Int)), .ref ow, .ref om, .ref ok_, .ref oK, .ref og, .ref on_, .ref oh, .ref ox, .int qn, .int qf, .ref op_, .int ql]))])) (As := [.int (iZ 1)]) (rest := []) K hP hD hK hS hA hl.1 (c_Mo_refuses l D mo qc np ow om ok_ oK og on_ oh ox qn qf op_ ql 1 H.size (by omega)) [0] [] [] rfl rfl rfl (by decide) (by decide) (by decide) 0 rfl rfl (big_in mw_1176 rfl) (big_in mw_10 rfl) (big_in mw_1173 rfl) (big_in mw_1175 rfl) (big_in sp_18 rfl) rfl rfl (by decide +kernel) ⟨by rw [hR]; exact Nat.le_of_ble_eq_true rfl, by rw [hR]; exact Nat.le_of_ble_eq_true rfl⟩ rfl (Nat.le_of_ble_eq_true rfl) d_Mo_dot_71 ⟨by rw [hR]; exact Nat.le_of_ble_eq_true rfl, by rw [hR]; exact Nat.le_of_ble_eq_true rfl⟩ rfl (fun v u H locs hp7 hP hD hS _ => ?_)
            obtain ⟨rf, rfl⟩ : ∃ z, z = u := ⟨_, rfl⟩
            obtain ⟨rfl, prf⟩ := hp7
            have hP : va_P D cls0 [(mo, .inr (8, [.int (iZ 1), .int (iZ (np : Int)), .ref ow, .ref om, .ref ok_, .ref oK, .ref og, .ref on_, .ref oh, .ref ox, .int qn, .int qf, .ref op_, .int ql]))] H := hP
            have hD : va_D A [(mo, .inr (8, [.int (iZ 1), .int (iZ (np : Int)), .ref ow, .ref om, .ref ok_, .ref oK, .ref og, .ref on_, .ref oh, .ref ox, .int qn, .int qf, .ref op_, .int ql]))] := hD
            show W p l e R s m args below meth c H locs _ _ Q (F0 m 74 ls [.int (iZ rf)])
            refine zz_if_eq (tgt := 79) hx hb d_Mo_dot_74 (by decide) (by omega) (fun c74 => False.elim (by omega)) (fun c74 => ?_)
            refine lv_iconst (v := iZ (0)) hx hb d_Mo_dot_77 (by decide +kernel) ?_
            have hP9 : va_P D cls0 [(mo, .inr (8, [.int (iZ 1), .int (iZ (np : Int)), .ref ow, .ref om, .ref ok_, .ref oK, .ref og, .ref on_, .ref oh, .ref ox, .int qn, .int qf, .ref op_, .int ql]))] H := hP.sub [0] rfl
            have hD9 : va_D A [(mo, .inr (8, [.int (iZ 1), .int (iZ (np : Int)), .ref ow, .ref om, .ref ok_, .ref oK, .ref og, .ref on_, .ref oh, .ref ox, .int qn, .int qf, .ref op_, .int ql]))] := hD.sub [0] (by decide) rfl
            rw [hQ, ← hAe]
            refine r_i (v := (iZ 0)) K () hS d_Mo_dot_78 ?_ (fun t ht hv => ?_)
            · exact rfl
            · exact ⟨by rw [ht]; exact hP9, va_K.moved hv hK, by rw [← hAe]; exact hD9⟩
          · refine lv_iload hx hb d_Mo_dot_35 (lv_at hl 4 rfl) ?_
            refine lv_bipush (v := iZ (32)) hx hb d_Mo_dot_37 (by decide +kernel) ?_
            refine lv_iload_n hx hb d_Mo_dot_39 rfl (lv_at hl 3 rfl) ?_
            refine zz_isub hx hb d_Mo_dot_40 ?_
            refine zz_icmp_gt (tgt := 48) hx hb d_Mo_dot_41 (by decide) (by omega) (by omega) (fun c41 => ?_) (fun c41 => ?_)
            · refine lv_iconst (v := iZ (0)) hx hb d_Mo_dot_48 (by decide +kernel) ?_
              refine lv_istore (lv' := [(5, .int (iZ 0)), (0, .ref mo), (1, .int (iZ zt)), (2, .int (iZ za)), (3, .int (iZ zb)), (4, .int (iZ zn))]) hx hb d_Mo_dot_49 hl (by decide) rfl (fun ls hl => ?_)
              refine lv_aload_n hx hb d_Mo_dot_51 rfl (lv_at hl 1 rfl) ?_
              refine lv_iload hx hb d_Mo_dot_52 (lv_at hl 0 rfl) ?_
              refine zz_if_ne (tgt := 61) hx hb d_Mo_dot_54 (by decide) (by omega) (fun c54 => False.elim (by omega)) (fun c54 => ?_)
              refine lv_iconst (v := iZ (1)) hx hb d_Mo_dot_57 (by decide +kernel) ?_
              refine lv_goto (tgt := 71) hx hb d_Mo_dot_58 (by decide) ?_
              refine cv (n := 1) (wr := []) (w1 := (fun (u : Int) => [(mo, .inr (8, [.int (iZ 1), .int (iZ (np : Int)), .ref ow, .ref om, .ref ok_, .ref oK, .ref og, .ref on_, .ref oh, .ref ox, .int qn, .int qf, .ref op_, .int ql]))])) (As := [.int (iZ 1)]) (rest := []) K hP hD hK hS hA hl.1 (c_Mo_refuses l D mo qc np ow om ok_ oK og on_ oh ox qn qf op_ ql 1 H.size (by omega)) [0] [] [] rfl rfl rfl (by decide) (by decide) (by decide) 0 rfl rfl (big_in mw_1176 rfl) (big_in mw_10 rfl) (big_in mw_1173 rfl) (big_in mw_1175 rfl) (big_in sp_18 rfl) rfl rfl (by decide +kernel) ⟨by rw [hR]; exact Nat.le_of_ble_eq_true rfl, by rw [hR]; exact Nat.le_of_ble_eq_true rfl⟩ rfl (Nat.le_of_ble_eq_true rfl) d_Mo_dot_71 ⟨by rw [hR]; exact Nat.le_of_ble_eq_true rfl, by rw [hR]; exact Nat.le_of_ble_eq_true rfl⟩ rfl (fun v u H locs hp8 hP hD hS _ => ?_)
              obtain ⟨rf, rfl⟩ : ∃ z, z = u := ⟨_, rfl⟩
              obtain ⟨rfl, prf⟩ := hp8
              have hP : va_P D cls0 [(mo, .inr (8, [.int (iZ 1), .int (iZ (np : Int)), .ref ow, .ref om, .ref ok_, .ref oK, .ref og, .ref on_, .ref oh, .ref ox, .int qn, .int qf, .ref op_, .int ql]))] H := hP
              have hD : va_D A [(mo, .inr (8, [.int (iZ 1), .int (iZ (np : Int)), .ref ow, .ref om, .ref ok_, .ref oK, .ref og, .ref on_, .ref oh, .ref ox, .int qn, .int qf, .ref op_, .int ql]))] := hD
              show W p l e R s m args below meth c H locs _ _ Q (F0 m 74 ls [.int (iZ rf)])
              refine zz_if_eq (tgt := 79) hx hb d_Mo_dot_74 (by decide) (by omega) (fun c74 => False.elim (by omega)) (fun c74 => ?_)
              refine lv_iconst (v := iZ (0)) hx hb d_Mo_dot_77 (by decide +kernel) ?_
              have hP9 : va_P D cls0 [(mo, .inr (8, [.int (iZ 1), .int (iZ (np : Int)), .ref ow, .ref om, .ref ok_, .ref oK, .ref og, .ref on_, .ref oh, .ref ox, .int qn, .int qf, .ref op_, .int ql]))] H := hP.sub [0] rfl
              have hD9 : va_D A [(mo, .inr (8, [.int (iZ 1), .int (iZ (np : Int)), .ref ow, .ref om, .ref ok_, .ref oK, .ref og, .ref on_, .ref oh, .ref ox, .int qn, .int qf, .ref op_, .int ql]))] := hD.sub [0] (by decide) rfl
              rw [hQ, ← hAe]
              refine r_i (v := (iZ 0)) K () hS d_Mo_dot_78 ?_ (fun t ht hv => ?_)
              · exact rfl
              · exact ⟨by rw [ht]; exact hP9, va_K.moved hv hK, by rw [← hAe]; exact hD9⟩
            · refine lv_iconst (v := iZ (1)) hx hb d_Mo_dot_44 (by decide +kernel) ?_
              refine lv_goto (tgt := 49) hx hb d_Mo_dot_45 (by decide) ?_
              refine lv_istore (lv' := [(5, .int (iZ 1)), (0, .ref mo), (1, .int (iZ zt)), (2, .int (iZ za)), (3, .int (iZ zb)), (4, .int (iZ zn))]) hx hb d_Mo_dot_49 hl (by decide) rfl (fun ls hl => ?_)
              refine lv_aload_n hx hb d_Mo_dot_51 rfl (lv_at hl 1 rfl) ?_
              refine lv_iload hx hb d_Mo_dot_52 (lv_at hl 0 rfl) ?_
              refine zz_if_ne (tgt := 61) hx hb d_Mo_dot_54 (by decide) (by omega) (fun c54 => ?_) (fun c54 => False.elim (by omega))
              refine lv_iload hx hb d_Mo_dot_61 (lv_at hl 5 rfl) ?_
              refine zz_if_ge (tgt := 70) hx hb d_Mo_dot_63 (by decide) (by omega) (fun c63 => ?_) (fun c63 => ?_)
              · refine lv_iconst (v := iZ (0)) hx hb d_Mo_dot_70 (by decide +kernel) ?_
                exfalso
                omega
              · refine lv_iconst (v := iZ (2)) hx hb d_Mo_dot_66 (by decide +kernel) ?_
                refine lv_goto (tgt := 71) hx hb d_Mo_dot_67 (by decide) ?_
                exfalso
                omega
set_option maxHeartbeats 4000000 in
set_option maxRecDepth 100000 in
/-- Mo_dot refused with 2 -/
theorem r2_Mo_dot (l : Launch) (D : va_G) (mo : Nat) (qc : Int32) (np : Nat) (ow : Nat) (om : Nat) (ok_ : Nat) (oK : Nat) (og : Nat) (on_ : Nat) (oh : Nat) (ox : Nat) (qn : Int32) (qf : Int32) (op_ : Nat) (ql : Int32) (to : Nat) (a : Nat) (b_ : Nat) (zn : Int) (sz : Nat) (t1 : to < 32) (t2 : a < 32) (t3_ : b_ < 32) (hzn : zn < 0 ∧ -2147483648 ≤ zn) : Met l y_Mo_dot (wsB y_Mo_dot b_Mo_dot 8 (some .int)) ({ frames := 1, cells := 0, slots := 0, locals := 21 }) (va_Pc [.ref mo, .int (iZ (to : Int)), .int (iZ (a : Int)), .int (iZ (b_ : Int)), .int (iZ zn)] (wPre D [] [(mo, .inr (8, [.int qc, .int (iZ (np : Int)), .ref ow, .ref om, .ref ok_, .ref oK, .ref og, .ref on_, .ref oh, .ref ox, .int qn, .int qf, .ref op_, .int ql]))] sz)) (va_QV (fun (v_9 : Option Value) (u_9 : Unit) => v_9 = some (.int (iZ 0))) (fun u_9 => wPost D [] [(mo, .inr (8, [.int qc, .int (iZ (np : Int)), .ref ow, .ref om, .ref ok_, .ref oK, .ref og, .ref on_, .ref oh, .ref ox, .int qn, .int qf, .ref op_, .int ql]))] [(mo, .inr (8, [.int (iZ 2), .int (iZ (np : Int)), .ref ow, .ref om, .ref ok_, .ref oK, .ref og, .ref on_, .ref oh, .ref ox, .int qn, .int qf, .ref op_, .int ql]))] sz) (va_A [(mo, .inr (8, [.int qc, .int (iZ (np : Int)), .ref ow, .ref om, .ref ok_, .ref oK, .ref og, .ref on_, .ref oh, .ref ox, .int qn, .int qf, .ref op_, .int ql]))] sz)) 0 0 (va_A [(mo, .inr (8, [.int qc, .int (iZ (np : Int)), .ref ow, .ref om, .ref ok_, .ref oK, .ref og, .ref on_, .ref oh, .ref ox, .int qn, .int qf, .ref op_, .int ql]))] sz) := by
  refine met_enter (by decide +kernel) (Nat.le_of_ble_eq_true rfl) ?_
  intro p e s m args below meth c ls A R Q H locs K hin hAe hA hR hQ hP hK hD hS hl
  obtain ⟨hx, hb, hml, hrt, hlk, hts, hown, hno⟩ := id K
  have hl : lv_has ls 8 [(0, .ref mo), (1, .int (iZ (to : Int))), (2, .int (iZ (a : Int))), (3, .int (iZ (b_ : Int))), (4, .int (iZ zn))] := hl
  refine lv_iload_n hx hb d_Mo_dot_0 rfl (lv_at hl 1 rfl) ?_
  refine cs (n := 1) (wr := [(mo, .inr (8, [.int qc, .int (iZ (np : Int)), .ref ow, .ref om, .ref ok_, .ref oK, .ref og, .ref on_, .ref oh, .ref ox, .int qn, .int qf, .ref op_, .int ql]))]) (w1 := (fun (u : Int) => [])) (As := [.int (iZ (to : Int))]) (rest := []) K hP hD hK hS hA hl.1 (c_Mo_isRegister l D (to : Int) H.size (by omega)) [] [0] [] rfl rfl rfl (by decide) (by decide) (by decide) (big_in mw_1172 rfl) (big_in mw_10 rfl) (big_in mw_1170 rfl) (big_in mw_1171 rfl) rfl rfl (by decide +kernel) ⟨by rw [hR]; exact Nat.le_of_ble_eq_true rfl, by rw [hR]; exact Nat.le_of_ble_eq_true rfl⟩ rfl (Nat.le_of_ble_eq_true rfl) d_Mo_dot_1 ⟨by rw [hR]; exact Nat.le_of_ble_eq_true rfl, by rw [hR]; exact Nat.le_of_ble_eq_true rfl⟩ rfl (fun v u H locs hp1 hP hD hS _ => ?_)
  obtain ⟨r1, rfl⟩ : ∃ z, z = u := ⟨_, rfl⟩
  obtain ⟨rfl, p1⟩ := hp1
  have hP : va_P D cls0 [(mo, .inr (8, [.int qc, .int (iZ (np : Int)), .ref ow, .ref om, .ref ok_, .ref oK, .ref og, .ref on_, .ref oh, .ref ox, .int qn, .int qf, .ref op_, .int ql]))] H := hP
  have hD : va_D A [(mo, .inr (8, [.int qc, .int (iZ (np : Int)), .ref ow, .ref om, .ref ok_, .ref oK, .ref og, .ref on_, .ref oh, .ref ox, .int qn, .int qf, .ref op_, .int ql]))] := hD
  show W p l e R s m args below meth c H locs _ _ Q (F0 m 4 ls [.int (iZ r1)])
  have b1 : 0 ≤ r1 ∧ r1 ≤ 1 := by omega
  refine zz_if_eq (tgt := 48) hx hb d_Mo_dot_4 (by decide) (by omega) (fun c4 => ?_) (fun c4 => ?_)
  · refine lv_iconst (v := iZ (0)) hx hb d_Mo_dot_48 (by decide +kernel) ?_
    refine lv_istore (lv' := [(5, .int (iZ 0)), (0, .ref mo), (1, .int (iZ (to : Int))), (2, .int (iZ (a : Int))), (3, .int (iZ (b_ : Int))), (4, .int (iZ zn))]) hx hb d_Mo_dot_49 hl (by decide) rfl (fun ls hl => ?_)
    refine lv_aload_n hx hb d_Mo_dot_51 rfl (lv_at hl 1 rfl) ?_
    refine lv_iload hx hb d_Mo_dot_52 (lv_at hl 0 rfl) ?_
    refine zz_if_ne (tgt := 61) hx hb d_Mo_dot_54 (by decide) (by omega) (fun c54 => False.elim (by omega)) (fun c54 => ?_)
    refine lv_iconst (v := iZ (1)) hx hb d_Mo_dot_57 (by decide +kernel) ?_
    refine lv_goto (tgt := 71) hx hb d_Mo_dot_58 (by decide) ?_
    exfalso
    omega
  · refine lv_iload_n hx hb d_Mo_dot_7 rfl (lv_at hl 2 rfl) ?_
    refine cs (n := 1) (wr := [(mo, .inr (8, [.int qc, .int (iZ (np : Int)), .ref ow, .ref om, .ref ok_, .ref oK, .ref og, .ref on_, .ref oh, .ref ox, .int qn, .int qf, .ref op_, .int ql]))]) (w1 := (fun (u : Int) => [])) (As := [.int (iZ (a : Int))]) (rest := []) K hP hD hK hS hA hl.1 (c_Mo_isRegister l D (a : Int) H.size (by omega)) [] [0] [] rfl rfl rfl (by decide) (by decide) (by decide) (big_in mw_1172 rfl) (big_in mw_10 rfl) (big_in mw_1170 rfl) (big_in mw_1171 rfl) rfl rfl (by decide +kernel) ⟨by rw [hR]; exact Nat.le_of_ble_eq_true rfl, by rw [hR]; exact Nat.le_of_ble_eq_true rfl⟩ rfl (Nat.le_of_ble_eq_true rfl) d_Mo_dot_8 ⟨by rw [hR]; exact Nat.le_of_ble_eq_true rfl, by rw [hR]; exact Nat.le_of_ble_eq_true rfl⟩ rfl (fun v u H locs hp2 hP hD hS _ => ?_)
    obtain ⟨r8, rfl⟩ : ∃ z, z = u := ⟨_, rfl⟩
    obtain ⟨rfl, p8⟩ := hp2
    have hP : va_P D cls0 [(mo, .inr (8, [.int qc, .int (iZ (np : Int)), .ref ow, .ref om, .ref ok_, .ref oK, .ref og, .ref on_, .ref oh, .ref ox, .int qn, .int qf, .ref op_, .int ql]))] H := hP
    have hD : va_D A [(mo, .inr (8, [.int qc, .int (iZ (np : Int)), .ref ow, .ref om, .ref ok_, .ref oK, .ref og, .ref on_, .ref oh, .ref ox, .int qn, .int qf, .ref op_, .int ql]))] := hD
    show W p l e R s m args below meth c H locs _ _ Q (F0 m 11 ls [.int (iZ r8)])
    have b8 : 0 ≤ r8 ∧ r8 ≤ 1 := by omega
    refine zz_if_eq (tgt := 48) hx hb d_Mo_dot_11 (by decide) (by omega) (fun c11 => ?_) (fun c11 => ?_)
    · refine lv_iconst (v := iZ (0)) hx hb d_Mo_dot_48 (by decide +kernel) ?_
      refine lv_istore (lv' := [(5, .int (iZ 0)), (0, .ref mo), (1, .int (iZ (to : Int))), (2, .int (iZ (a : Int))), (3, .int (iZ (b_ : Int))), (4, .int (iZ zn))]) hx hb d_Mo_dot_49 hl (by decide) rfl (fun ls hl => ?_)
      refine lv_aload_n hx hb d_Mo_dot_51 rfl (lv_at hl 1 rfl) ?_
      refine lv_iload hx hb d_Mo_dot_52 (lv_at hl 0 rfl) ?_
      refine zz_if_ne (tgt := 61) hx hb d_Mo_dot_54 (by decide) (by omega) (fun c54 => False.elim (by omega)) (fun c54 => ?_)
      refine lv_iconst (v := iZ (1)) hx hb d_Mo_dot_57 (by decide +kernel) ?_
      refine lv_goto (tgt := 71) hx hb d_Mo_dot_58 (by decide) ?_
      exfalso
      omega
    · refine lv_iload_n hx hb d_Mo_dot_14 rfl (lv_at hl 3 rfl) ?_
      refine cs (n := 1) (wr := [(mo, .inr (8, [.int qc, .int (iZ (np : Int)), .ref ow, .ref om, .ref ok_, .ref oK, .ref og, .ref on_, .ref oh, .ref ox, .int qn, .int qf, .ref op_, .int ql]))]) (w1 := (fun (u : Int) => [])) (As := [.int (iZ (b_ : Int))]) (rest := []) K hP hD hK hS hA hl.1 (c_Mo_isRegister l D (b_ : Int) H.size (by omega)) [] [0] [] rfl rfl rfl (by decide) (by decide) (by decide) (big_in mw_1172 rfl) (big_in mw_10 rfl) (big_in mw_1170 rfl) (big_in mw_1171 rfl) rfl rfl (by decide +kernel) ⟨by rw [hR]; exact Nat.le_of_ble_eq_true rfl, by rw [hR]; exact Nat.le_of_ble_eq_true rfl⟩ rfl (Nat.le_of_ble_eq_true rfl) d_Mo_dot_15 ⟨by rw [hR]; exact Nat.le_of_ble_eq_true rfl, by rw [hR]; exact Nat.le_of_ble_eq_true rfl⟩ rfl (fun v u H locs hp3 hP hD hS _ => ?_)
      obtain ⟨r15, rfl⟩ : ∃ z, z = u := ⟨_, rfl⟩
      obtain ⟨rfl, p15⟩ := hp3
      have hP : va_P D cls0 [(mo, .inr (8, [.int qc, .int (iZ (np : Int)), .ref ow, .ref om, .ref ok_, .ref oK, .ref og, .ref on_, .ref oh, .ref ox, .int qn, .int qf, .ref op_, .int ql]))] H := hP
      have hD : va_D A [(mo, .inr (8, [.int qc, .int (iZ (np : Int)), .ref ow, .ref om, .ref ok_, .ref oK, .ref og, .ref on_, .ref oh, .ref ox, .int qn, .int qf, .ref op_, .int ql]))] := hD
      show W p l e R s m args below meth c H locs _ _ Q (F0 m 18 ls [.int (iZ r15)])
      have b15 : 0 ≤ r15 ∧ r15 ≤ 1 := by omega
      refine zz_if_eq (tgt := 48) hx hb d_Mo_dot_18 (by decide) (by omega) (fun c18 => ?_) (fun c18 => ?_)
      · refine lv_iconst (v := iZ (0)) hx hb d_Mo_dot_48 (by decide +kernel) ?_
        refine lv_istore (lv' := [(5, .int (iZ 0)), (0, .ref mo), (1, .int (iZ (to : Int))), (2, .int (iZ (a : Int))), (3, .int (iZ (b_ : Int))), (4, .int (iZ zn))]) hx hb d_Mo_dot_49 hl (by decide) rfl (fun ls hl => ?_)
        refine lv_aload_n hx hb d_Mo_dot_51 rfl (lv_at hl 1 rfl) ?_
        refine lv_iload hx hb d_Mo_dot_52 (lv_at hl 0 rfl) ?_
        refine zz_if_ne (tgt := 61) hx hb d_Mo_dot_54 (by decide) (by omega) (fun c54 => False.elim (by omega)) (fun c54 => ?_)
        refine lv_iconst (v := iZ (1)) hx hb d_Mo_dot_57 (by decide +kernel) ?_
        refine lv_goto (tgt := 71) hx hb d_Mo_dot_58 (by decide) ?_
        exfalso
        omega
      · refine lv_iload hx hb d_Mo_dot_21 (lv_at hl 4 rfl) ?_
        refine zz_if_le (tgt := 44) hx hb d_Mo_dot_23 (by decide) (by omega) (fun c23 => ?_) (fun c23 => ?_)
        · refine lv_iconst (v := iZ (1)) hx hb d_Mo_dot_44 (by decide +kernel) ?_
          refine lv_goto (tgt := 49) hx hb d_Mo_dot_45 (by decide) ?_
          refine lv_istore (lv' := [(5, .int (iZ 1)), (0, .ref mo), (1, .int (iZ (to : Int))), (2, .int (iZ (a : Int))), (3, .int (iZ (b_ : Int))), (4, .int (iZ zn))]) hx hb d_Mo_dot_49 hl (by decide) rfl (fun ls hl => ?_)
          refine lv_aload_n hx hb d_Mo_dot_51 rfl (lv_at hl 1 rfl) ?_
          refine lv_iload hx hb d_Mo_dot_52 (lv_at hl 0 rfl) ?_
          refine zz_if_ne (tgt := 61) hx hb d_Mo_dot_54 (by decide) (by omega) (fun c54 => ?_) (fun c54 => False.elim (by omega))
          refine lv_iload hx hb d_Mo_dot_61 (lv_at hl 5 rfl) ?_
          refine zz_if_ge (tgt := 70) hx hb d_Mo_dot_63 (by decide) (by omega) (fun c63 => ?_) (fun c63 => ?_)
          · refine lv_iconst (v := iZ (0)) hx hb d_Mo_dot_70 (by decide +kernel) ?_
            exfalso
            omega
          · refine lv_iconst (v := iZ (2)) hx hb d_Mo_dot_66 (by decide +kernel) ?_
            refine lv_goto (tgt := 71) hx hb d_Mo_dot_67 (by decide) ?_
            refine cv (n := 1) (wr := []) (w1 := (fun (u : Int) => [(mo, .inr (8, [.int (iZ 2), .int (iZ (np : Int)), .ref ow, .ref om, .ref ok_, .ref oK, .ref og, .ref on_, .ref oh, .ref ox, .int qn, .int qf, .ref op_, .int ql]))])) (As := [.int (iZ 2)]) (rest := []) K hP hD hK hS hA hl.1 (c_Mo_refuses l D mo qc np ow om ok_ oK og on_ oh ox qn qf op_ ql 2 H.size (by omega)) [0] [] [] rfl rfl rfl (by decide) (by decide) (by decide) 0 rfl rfl (big_in mw_1176 rfl) (big_in mw_10 rfl) (big_in mw_1173 rfl) (big_in mw_1175 rfl) (big_in sp_18 rfl) rfl rfl (by decide +kernel) ⟨by rw [hR]; exact Nat.le_of_ble_eq_true rfl, by rw [hR]; exact Nat.le_of_ble_eq_true rfl⟩ rfl (Nat.le_of_ble_eq_true rfl) d_Mo_dot_71 ⟨by rw [hR]; exact Nat.le_of_ble_eq_true rfl, by rw [hR]; exact Nat.le_of_ble_eq_true rfl⟩ rfl (fun v u H locs hp4 hP hD hS _ => ?_)
            obtain ⟨rf, rfl⟩ : ∃ z, z = u := ⟨_, rfl⟩
            obtain ⟨rfl, prf⟩ := hp4
            have hP : va_P D cls0 [(mo, .inr (8, [.int (iZ 2), .int (iZ (np : Int)), .ref ow, .ref om, .ref ok_, .ref oK, .ref og, .ref on_, .ref oh, .ref ox, .int qn, .int qf, .ref op_, .int ql]))] H := hP
            have hD : va_D A [(mo, .inr (8, [.int (iZ 2), .int (iZ (np : Int)), .ref ow, .ref om, .ref ok_, .ref oK, .ref og, .ref on_, .ref oh, .ref ox, .int qn, .int qf, .ref op_, .int ql]))] := hD
            show W p l e R s m args below meth c H locs _ _ Q (F0 m 74 ls [.int (iZ rf)])
            refine zz_if_eq (tgt := 79) hx hb d_Mo_dot_74 (by decide) (by omega) (fun c74 => False.elim (by omega)) (fun c74 => ?_)
            refine lv_iconst (v := iZ (0)) hx hb d_Mo_dot_77 (by decide +kernel) ?_
            have hP9 : va_P D cls0 [(mo, .inr (8, [.int (iZ 2), .int (iZ (np : Int)), .ref ow, .ref om, .ref ok_, .ref oK, .ref og, .ref on_, .ref oh, .ref ox, .int qn, .int qf, .ref op_, .int ql]))] H := hP.sub [0] rfl
            have hD9 : va_D A [(mo, .inr (8, [.int (iZ 2), .int (iZ (np : Int)), .ref ow, .ref om, .ref ok_, .ref oK, .ref og, .ref on_, .ref oh, .ref ox, .int qn, .int qf, .ref op_, .int ql]))] := hD.sub [0] (by decide) rfl
            rw [hQ, ← hAe]
            refine r_i (v := (iZ 0)) K () hS d_Mo_dot_78 ?_ (fun t ht hv => ?_)
            · exact rfl
            · exact ⟨by rw [ht]; exact hP9, va_K.moved hv hK, by rw [← hAe]; exact hD9⟩
        · refine lv_iload hx hb d_Mo_dot_26 (lv_at hl 4 rfl) ?_
          refine lv_bipush (v := iZ (32)) hx hb d_Mo_dot_28 (by decide +kernel) ?_
          refine lv_iload_n hx hb d_Mo_dot_30 rfl (lv_at hl 2 rfl) ?_
          refine zz_isub hx hb d_Mo_dot_31 ?_
          refine zz_icmp_gt (tgt := 48) hx hb d_Mo_dot_32 (by decide) (by omega) (by omega) (fun c32 => ?_) (fun c32 => ?_)
          · refine lv_iconst (v := iZ (0)) hx hb d_Mo_dot_48 (by decide +kernel) ?_
            refine lv_istore (lv' := [(5, .int (iZ 0)), (0, .ref mo), (1, .int (iZ (to : Int))), (2, .int (iZ (a : Int))), (3, .int (iZ (b_ : Int))), (4, .int (iZ zn))]) hx hb d_Mo_dot_49 hl (by decide) rfl (fun ls hl => ?_)
            refine lv_aload_n hx hb d_Mo_dot_51 rfl (lv_at hl 1 rfl) ?_
            refine lv_iload hx hb d_Mo_dot_52 (lv_at hl 0 rfl) ?_
            refine zz_if_ne (tgt := 61) hx hb d_Mo_dot_54 (by decide) (by omega) (fun c54 => False.elim (by omega)) (fun c54 => ?_)
            refine lv_iconst (v := iZ (1)) hx hb d_Mo_dot_57 (by decide +kernel) ?_
            refine lv_goto (tgt := 71) hx hb d_Mo_dot_58 (by decide) ?_
            exfalso
            omega
          · refine lv_iload hx hb d_Mo_dot_35 (lv_at hl 4 rfl) ?_
            refine lv_bipush (v := iZ (32)) hx hb d_Mo_dot_37 (by decide +kernel) ?_
            refine lv_iload_n hx hb d_Mo_dot_39 rfl (lv_at hl 3 rfl) ?_
            refine zz_isub hx hb d_Mo_dot_40 ?_
            refine zz_icmp_gt (tgt := 48) hx hb d_Mo_dot_41 (by decide) (by omega) (by omega) (fun c41 => ?_) (fun c41 => ?_)
            · refine lv_iconst (v := iZ (0)) hx hb d_Mo_dot_48 (by decide +kernel) ?_
              refine lv_istore (lv' := [(5, .int (iZ 0)), (0, .ref mo), (1, .int (iZ (to : Int))), (2, .int (iZ (a : Int))), (3, .int (iZ (b_ : Int))), (4, .int (iZ zn))]) hx hb d_Mo_dot_49 hl (by decide) rfl (fun ls hl => ?_)
              refine lv_aload_n hx hb d_Mo_dot_51 rfl (lv_at hl 1 rfl) ?_
              refine lv_iload hx hb d_Mo_dot_52 (lv_at hl 0 rfl) ?_
              refine zz_if_ne (tgt := 61) hx hb d_Mo_dot_54 (by decide) (by omega) (fun c54 => False.elim (by omega)) (fun c54 => ?_)
              refine lv_iconst (v := iZ (1)) hx hb d_Mo_dot_57 (by decide +kernel) ?_
              refine lv_goto (tgt := 71) hx hb d_Mo_dot_58 (by decide) ?_
              exfalso
              omega
            · refine lv_iconst (v := iZ (1)) hx hb d_Mo_dot_44 (by decide +kernel) ?_
              refine lv_goto (tgt := 49) hx hb d_Mo_dot_45 (by decide) ?_
              refine lv_istore (lv' := [(5, .int (iZ 1)), (0, .ref mo), (1, .int (iZ (to : Int))), (2, .int (iZ (a : Int))), (3, .int (iZ (b_ : Int))), (4, .int (iZ zn))]) hx hb d_Mo_dot_49 hl (by decide) rfl (fun ls hl => ?_)
              refine lv_aload_n hx hb d_Mo_dot_51 rfl (lv_at hl 1 rfl) ?_
              refine lv_iload hx hb d_Mo_dot_52 (lv_at hl 0 rfl) ?_
              refine zz_if_ne (tgt := 61) hx hb d_Mo_dot_54 (by decide) (by omega) (fun c54 => ?_) (fun c54 => False.elim (by omega))
              refine lv_iload hx hb d_Mo_dot_61 (lv_at hl 5 rfl) ?_
              refine zz_if_ge (tgt := 70) hx hb d_Mo_dot_63 (by decide) (by omega) (fun c63 => ?_) (fun c63 => ?_)
              · refine lv_iconst (v := iZ (0)) hx hb d_Mo_dot_70 (by decide +kernel) ?_
                exfalso
                omega
              · refine lv_iconst (v := iZ (2)) hx hb d_Mo_dot_66 (by decide +kernel) ?_
                refine lv_goto (tgt := 71) hx hb d_Mo_dot_67 (by decide) ?_
                refine cv (n := 1) (wr := []) (w1 := (fun (u : Int) => [(mo, .inr (8, [.int (iZ 2), .int (iZ (np : Int)), .ref ow, .ref om, .ref ok_, .ref oK, .ref og, .ref on_, .ref oh, .ref ox, .int qn, .int qf, .ref op_, .int ql]))])) (As := [.int (iZ 2)]) (rest := []) K hP hD hK hS hA hl.1 (c_Mo_refuses l D mo qc np ow om ok_ oK og on_ oh ox qn qf op_ ql 2 H.size (by omega)) [0] [] [] rfl rfl rfl (by decide) (by decide) (by decide) 0 rfl rfl (big_in mw_1176 rfl) (big_in mw_10 rfl) (big_in mw_1173 rfl) (big_in mw_1175 rfl) (big_in sp_18 rfl) rfl rfl (by decide +kernel) ⟨by rw [hR]; exact Nat.le_of_ble_eq_true rfl, by rw [hR]; exact Nat.le_of_ble_eq_true rfl⟩ rfl (Nat.le_of_ble_eq_true rfl) d_Mo_dot_71 ⟨by rw [hR]; exact Nat.le_of_ble_eq_true rfl, by rw [hR]; exact Nat.le_of_ble_eq_true rfl⟩ rfl (fun v u H locs hp5 hP hD hS _ => ?_)
                obtain ⟨rf, rfl⟩ : ∃ z, z = u := ⟨_, rfl⟩
                obtain ⟨rfl, prf⟩ := hp5
                have hP : va_P D cls0 [(mo, .inr (8, [.int (iZ 2), .int (iZ (np : Int)), .ref ow, .ref om, .ref ok_, .ref oK, .ref og, .ref on_, .ref oh, .ref ox, .int qn, .int qf, .ref op_, .int ql]))] H := hP
                have hD : va_D A [(mo, .inr (8, [.int (iZ 2), .int (iZ (np : Int)), .ref ow, .ref om, .ref ok_, .ref oK, .ref og, .ref on_, .ref oh, .ref ox, .int qn, .int qf, .ref op_, .int ql]))] := hD
                show W p l e R s m args below meth c H locs _ _ Q (F0 m 74 ls [.int (iZ rf)])
                refine zz_if_eq (tgt := 79) hx hb d_Mo_dot_74 (by decide) (by omega) (fun c74 => False.elim (by omega)) (fun c74 => ?_)
                refine lv_iconst (v := iZ (0)) hx hb d_Mo_dot_77 (by decide +kernel) ?_
                have hP9 : va_P D cls0 [(mo, .inr (8, [.int (iZ 2), .int (iZ (np : Int)), .ref ow, .ref om, .ref ok_, .ref oK, .ref og, .ref on_, .ref oh, .ref ox, .int qn, .int qf, .ref op_, .int ql]))] H := hP.sub [0] rfl
                have hD9 : va_D A [(mo, .inr (8, [.int (iZ 2), .int (iZ (np : Int)), .ref ow, .ref om, .ref ok_, .ref oK, .ref og, .ref on_, .ref oh, .ref ox, .int qn, .int qf, .ref op_, .int ql]))] := hD.sub [0] (by decide) rfl
                rw [hQ, ← hAe]
                refine r_i (v := (iZ 0)) K () hS d_Mo_dot_78 ?_ (fun t ht hv => ?_)
                · exact rfl
                · exact ⟨by rw [ht]; exact hP9, va_K.moved hv hK, by rw [← hAe]; exact hD9⟩
