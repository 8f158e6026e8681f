/-- the law's end -/
theorem lw_end {p : Program} {l : Launch} {e : Env} {R : Room} {s : State} {m : MethodId} {args : Array Value} {below : List Frame} {meth : Method} {c : Code} {Q : State → Prop} {A : Nat → Prop} {H : Heap} {locs : List Loc} {cells slots bs : Nat} {ls : Array Slot} (K : WKH p s m args meth c "FractionPoolLaw" code 7 ret) (hAi : ∀ q : Nat, A q → s.heap.size ≤ q) (hR : R = room_1) (ha : args = #[Value.ref bs]) (hQ : Q = lw_Z below args s) (hS : va_S A s.heap H locs) (h1 : cells ≤ 601024) (h2 : slots ≤ 7293000) : W p l e R s m args below meth c H locs cells slots Q (F0 m 1682 ls []) := by
  obtain ⟨hx, hb, hml, hrt, hlk, hts, hown⟩ := id K
  subst hR
  subst hQ
  subst ha
  refine lv_iconst (v := 1) hx hb d_law_1682 (by decide) ?_
  refine va_forget (fun q hq => hAi _ (hS.2.2 q hq)) ?_
  refine W.widen (k := 601024) (n := 7293000) h1 h2 ?_
  exact lw_ret hx hb hrt hlk d_law_1683
/-- is there another call? -/
theorem lw_head {p : Program} {l : Launch} {e : Env} {R : Room} {s : State} {m : MethodId} {args : Array Value} {below : List Frame} {meth : Method} {c : Code} {Q : State → Prop} {A : Nat → Prop} {H : Heap} {locs : List Loc} {cells slots bs Ls i xF mo oo : Nat} {ls : Array Slot} {sc : Nat → Int32} (K : WKH p s m args meth c "FractionPoolLaw" code 7 ret) (hX : va_X bs Ls sc s s.heap) (hbl : bs < s.heap.size) (hbA : ¬ A bs) (hS : va_S A s.heap H locs) (hLs : Ls ≤ 3073) (hi : i ≤ 3073) (hl : lv_has ls 7 [(0, .ref bs), (1, .ref xF), (2, .ref mo), (3, .ref oo), (4, .int (iZ (i : Int)))])
    (kt : W p l e R s m args below meth c H locs cells slots Q (F0 m 1682 ls [])) (kf : i + 6 ≤ Ls → W p l e R s m args below meth c H locs cells slots Q (F0 m 43 ls [])) : W p l e R s m args below meth c H locs cells slots Q (F0 m 33 ls []) := by
  obtain ⟨hx, hb, hml, hrt, hlk, hts, hown⟩ := id K
  refine lv_iload hx hb d_law_33 (lv_at hl 4 rfl) ?_
  refine lv_aload_n hx hb d_law_35 rfl (lv_at hl 0 rfl) ?_
  refine zz_slen hx hb hX hbl hbA hS d_law_36 ?_
  refine lv_bipush (v := iZ 6) hx hb d_law_37 (by decide +kernel) ?_
  refine zz_isub hx hb d_law_39 ?_
  exact zz_icmp_gt (tgt := 1682) hx hb d_law_40 (by decide) (by omega) (by omega) (fun _ => kt) (fun q => kf (by omega))
/-- which call? -/
theorem lw_sw {p : Program} {l : Launch} {e : Env} {R : Room} {s : State} {m : MethodId} {args : Array Value} {below : List Frame} {meth : Method} {c : Code} {Q : State → Prop} {A : Nat → Prop} {H : Heap} {locs : List Loc} {cells slots bs Ls i xF mo oo : Nat} {ls : Array Slot} {sc : Nat → Int32} (K : WKH p s m args meth c "FractionPoolLaw" code 7 ret) (hX : va_X bs Ls sc s s.heap) (hbl : bs < s.heap.size) (hbA : ¬ A bs) (hS : va_S A s.heap H locs) (hLs : Ls ≤ 3073) (hi : i + 6 ≤ Ls) (hl : lv_has ls 7 [(0, .ref bs), (1, .ref xF), (2, .ref mo), (3, .ref oo), (4, .int (iZ (i : Int)))])
    (kk : ∀ q : Nat, q ∈ [152, 296, 364, 432, 512, 592, 672, 752, 832, 924, 992, 1072, 1152, 1220, 1276, 1360, 1456, 1469, 1526, 1582, 1595, 1651, 1676] → W p l e R s m args below meth c H locs cells slots Q (F0 m q ls [])) : W p l e R s m args below meth c H locs cells slots Q (F0 m 43 ls []) := by
  obtain ⟨hx, hb, hml, hrt, hlk, hts, hown⟩ := id K
  obtain ⟨z, hz, hzr⟩ := i32Z (sc i)
  refine lv_aload_n hx hb d_law_43 rfl (lv_at hl 0 rfl) ?_
  refine lv_iload hx hb d_law_44 (lv_at hl 4 rfl) ?_
  refine zz_sld hx hb hX hbl hbA hS i rfl (by omega) hLs d_law_46 ?_
  rw [hz]
  refine lv_bipush (v := iZ 31) hx hb d_law_47 (by decide +kernel) ?_
  refine zz_iand31x hx hb d_law_49 ?_
  obtain ⟨r, hr⟩ : ∃ r : Int, r = z % 32 := ⟨_, rfl⟩
  rw [← hr]
  have hr2 : 0 ≤ r ∧ r < 32 := by omega
  rcases (show r = 0 ∨ r = 1 ∨ r = 2 ∨ r = 3 ∨ r = 4 ∨ r = 5 ∨ r = 6 ∨ r = 7 ∨ r = 8 ∨ r = 9 ∨ r = 10 ∨ r = 11 ∨ r = 12 ∨ r = 13 ∨ r = 14 ∨ r = 15 ∨ r = 16 ∨ r = 17 ∨ r = 18 ∨ r = 19 ∨ r = 20 ∨ r = 21 ∨ 22 ≤ r by omega) with h | h | h | h | h | h | h | h | h | h | h | h | h | h | h | h | h | h | h | h | h | h | h
  · exact zz_tsIn (q := 0) (off := 102) (tgt := 152) hx hb d_law_50 (by omega) (by omega) (by omega) rfl (by decide) (kk 152 (by decide))
  · exact zz_tsIn (q := 1) (off := 246) (tgt := 296) hx hb d_law_50 (by omega) (by omega) (by omega) rfl (by decide) (kk 296 (by decide))
  · exact zz_tsIn (q := 2) (off := 314) (tgt := 364) hx hb d_law_50 (by omega) (by omega) (by omega) rfl (by decide) (kk 364 (by decide))
  · exact zz_tsIn (q := 3) (off := 382) (tgt := 432) hx hb d_law_50 (by omega) (by omega) (by omega) rfl (by decide) (kk 432 (by decide))
  · exact zz_tsIn (q := 4) (off := 462) (tgt := 512) hx hb d_law_50 (by omega) (by omega) (by omega) rfl (by decide) (kk 512 (by decide))
  · exact zz_tsIn (q := 5) (off := 542) (tgt := 592) hx hb d_law_50 (by omega) (by omega) (by omega) rfl (by decide) (kk 592 (by decide))
  · exact zz_tsIn (q := 6) (off := 622) (tgt := 672) hx hb d_law_50 (by omega) (by omega) (by omega) rfl (by decide) (kk 672 (by decide))
  · exact zz_tsIn (q := 7) (off := 702) (tgt := 752) hx hb d_law_50 (by omega) (by omega) (by omega) rfl (by decide) (kk 752 (by decide))
  · exact zz_tsIn (q := 8) (off := 782) (tgt := 832) hx hb d_law_50 (by omega) (by omega) (by omega) rfl (by decide) (kk 832 (by decide))
  · exact zz_tsIn (q := 9) (off := 874) (tgt := 924) hx hb d_law_50 (by omega) (by omega) (by omega) rfl (by decide) (kk 924 (by decide))
  · exact zz_tsIn (q := 10) (off := 942) (tgt := 992) hx hb d_law_50 (by omega) (by omega) (by omega) rfl (by decide) (kk 992 (by decide))
  · exact zz_tsIn (q := 11) (off := 1022) (tgt := 1072) hx hb d_law_50 (by omega) (by omega) (by omega) rfl (by decide) (kk 1072 (by decide))
  · exact zz_tsIn (q := 12) (off := 1102) (tgt := 1152) hx hb d_law_50 (by omega) (by omega) (by omega) rfl (by decide) (kk 1152 (by decide))
  · exact zz_tsIn (q := 13) (off := 1170) (tgt := 1220) hx hb d_law_50 (by omega) (by omega) (by omega) rfl (by decide) (kk 1220 (by decide))
  · exact zz_tsIn (q := 14) (off := 1226) (tgt := 1276) hx hb d_law_50 (by omega) (by omega) (by omega) rfl (by decide) (kk 1276 (by decide))
  · exact zz_tsIn (q := 15) (off := 1310) (tgt := 1360) hx hb d_law_50 (by omega) (by omega) (by omega) rfl (by decide) (kk 1360 (by decide))
  · exact zz_tsIn (q := 16) (off := 1406) (tgt := 1456) hx hb d_law_50 (by omega) (by omega) (by omega) rfl (by decide) (kk 1456 (by decide))
  · exact zz_tsIn (q := 17) (off := 1419) (tgt := 1469) hx hb d_law_50 (by omega) (by omega) (by omega) rfl (by decide) (kk 1469 (by decide))
  · exact zz_tsIn (q := 18) (off := 1476) (tgt := 1526) hx hb d_law_50 (by omega) (by omega) (by omega) rfl (by decide) (kk 1526 (by decide))
  · exact zz_tsIn (q := 19) (off := 1532) (tgt := 1582) hx hb d_law_50 (by omega) (by omega) (by omega) rfl (by decide) (kk 1582 (by decide))
  · exact zz_tsIn (q := 20) (off := 1545) (tgt := 1595) hx hb d_law_50 (by omega) (by omega) (by omega) rfl (by decide) (kk 1595 (by decide))
  · exact zz_tsIn (q := 21) (off := 1601) (tgt := 1651) hx hb d_law_50 (by omega) (by omega) (by omega) rfl (by decide) (kk 1651 (by decide))
  · exact zz_tsOut (tgt := 1676) hx hb d_law_50 (by decide) (by omega) (by omega) (kk 1676 (by decide))
set_option maxHeartbeats 4000000 in
set_option maxRecDepth 100000 in
/-- THE LAW'S LOOP -/
theorem lw_loop {p : Program} {l : Launch} {e : Env} {R : Room} {s : State} {m : MethodId} {args : Array Value} {below : List Frame} {meth : Method} {c : Code} {Q : State → Prop} {A : Nat → Prop} {D : va_G} {cI cC cJ : ClassId} {xF hB hy hp_ xl xr xs hg ap af aT aB aS hc hm hz hw h3 a3 am az aw ay aq nq np n mo ow om ok_ oK og on_ oh ox op_ oo : Nat} {bs Ls : Nat} {sc : Nat → Int32} (K : WKH p s m args meth c "FractionPoolLaw" code 7 ret) (hth : TH s) (hNC : NC s) (hnS : nSt A s.heap) (htr : l.stackTraces = false) (hX : va_X bs Ls sc s s.heap) (hbl : bs < s.heap.size) (hbA : ¬ A bs) (hA : ∀ q : Nat, s.heap.size ≤ q → A q) (hAi : ∀ q : Nat, A q → s.heap.size ≤ q) (hR : R = room_1) (ha : args = #[Value.ref bs]) (hQ : Q = lw_Z below args s) (hK : va_K D cls0 [(cI, .int), (cC, .char), (cJ, .long)] s) (hLs : Ls ≤ 3073) (hnp : 64 ≤ np ∧ np ≤ 1024) (hnn : n = 2 * np + 192) (hnq : nq = 10 * np + 2) :
    ∀ (N i cells slots : Nat) (fp : Nat → Int32) (ff : Nat → Int32) (ft : Nat → Int32) (fb : Nat → Int32) (fs : Nat → Int32) (tk : Nat) (F : Nat → Nat) (tv : Nat → Nat) (bv : Nat → Nat) (sg : Nat → Int) (B : BeS) (L : RaS) (M : RaS) (S : RaS) (T : RaS) (U : RaS) (xt : Nat) (xn : Nat) (cn : Nat) (fy : Nat → Int32) (qj : Int32) (ql : Int32) (tx : Nat → Nat) (fr : Nat) (fq : Nat → Int32) (li : List Nat) (qc : Int32) (fw : Nat → Int32) (fm : Nat → Int32) (fh : Nat → Int32) (fk : Nat → Int32) (fK : Nat → Int32) (ms : Nat → Int32) (fn : Nat → Int32) (val : Nat → Nat) (mt : Nat → Int32) (mp : Nat → Int32) (fo : Nat → Int64) (H : Heap) (locs : List Loc) (ls : Array Slot), Ls < i + N → i ≤ 3073 → cells + N ≤ 601024 → slots + 6 * N ≤ 7293000 → (RgI fp ff ft fb fs tk np F tv bv sg) → (RgC tv bv sg) → (WB fw fm val) → (MoR fk fK ms fn tv bv sg) → (cn ≤ 400) → (∀ j, j < cn → fy j = iZ (tx j : Int) ∧ tx j < 65536) → (∀ j, j < cn → mt j = iZ (tx j : Int) ∧ tx j < 65536) → (TX fq fr nq li) → (PX mp li) → (∀ j, j < li.length → li.getD j 0 < 65536) → (li.length ≤ 22000) → va_P D cls0 (LWD cI cC cJ xF hB hy hp_ xl xr xs hg ap af aT aB aS hc hm hz hw h3 a3 am az aw ay aq nq np n mo ow om ok_ oK og on_ oh ox op_ oo fp ff ft fb fs tk F tv bv sg B L M S T U xt xn cn fy qj ql tx fr fq li qc fw fm fh fk fK ms fn val mt mp fo) H → va_D A (LWD cI cC cJ xF hB hy hp_ xl xr xs hg ap af aT aB aS hc hm hz hw h3 a3 am az aw ay aq nq np n mo ow om ok_ oK og on_ oh ox op_ oo fp ff ft fb fs tk F tv bv sg B L M S T U xt xn cn fy qj ql tx fr fq li qc fw fm fh fk fK ms fn val mt mp fo) → va_S A s.heap H locs → lv_has ls 7 [(0, .ref bs), (1, .ref xF), (2, .ref mo), (3, .ref oo), (4, .int (iZ (i : Int)))] → W p l e R s m args below meth c H locs cells slots Q (F0 m 33 ls []) := by
  obtain ⟨hx, hb, hml, hrt, hlk, hts, hown⟩ := id K
  intro N
  induction N with
  | zero =>
    intro i cells slots fp ff ft fb fs tk F tv bv sg B L M S T U xt xn cn fy qj ql tx fr fq li qc fw fm fh fk fK ms fn val mt mp fo H locs ls g1 g2 g3 g4 I J hW hMR hcn htx hmt hTX hPX hli hll hP hD hS hl
    exact lw_head K hX hbl hbA hS hLs g2 hl (lw_end K hAi hR ha hQ hS (by omega) (by omega)) (fun q => absurd q (by omega))
  | succ N ih =>
    intro i cells slots fp ff ft fb fs tk F tv bv sg B L M S T U xt xn cn fy qj ql tx fr fq li qc fw fm fh fk fK ms fn val mt mp fo H locs ls g1 g2 g3 g4 I J hW hMR hcn htx hmt hTX hPX hli hll hP hD hS hl
    refine lw_head K hX hbl hbA hS hLs g2 hl (lw_end K hAi hR ha hQ hS (by omega) (by omega)) (fun hi => ?_)
    have hcs : cells + 1 ≤ R.cells ∧ slots + 6 ≤ R.slots := by
      subst hR
      exact ⟨show cells + 1 ≤ 601024 by omega, show slots + 6 ≤ 7293000 by omega⟩
    have kk : ∀ (fp : Nat → Int32) (ff : Nat → Int32) (ft : Nat → Int32) (fb : Nat → Int32) (fs : Nat → Int32) (tk : Nat) (F : Nat → Nat) (tv : Nat → Nat) (bv : Nat → Nat) (sg : Nat → Int) (B : BeS) (L : RaS) (M : RaS) (S : RaS) (T : RaS) (U : RaS) (xt : Nat) (xn : Nat) (cn : Nat) (fy : Nat → Int32) (qj : Int32) (ql : Int32) (tx : Nat → Nat) (fr : Nat) (fq : Nat → Int32) (li : List Nat) (qc : Int32) (fw : Nat → Int32) (fm : Nat → Int32) (fh : Nat → Int32) (fk : Nat → Int32) (fK : Nat → Int32) (ms : Nat → Int32) (fn : Nat → Int32) (val : Nat → Nat) (mt : Nat → Int32) (mp : Nat → Int32) (fo : Nat → Int64) (H : Heap) (locs : List Loc) (ls : Array Slot), (RgI fp ff ft fb fs tk np F tv bv sg) → (RgC tv bv sg) → (WB fw fm val) → (MoR fk fK ms fn tv bv sg) → (cn ≤ 400) → (∀ j, j < cn → fy j = iZ (tx j : Int) ∧ tx j < 65536) → (∀ j, j < cn → mt j = iZ (tx j : Int) ∧ tx j < 65536) → (TX fq fr nq li) → (PX mp li) → (∀ j, j < li.length → li.getD j 0 < 65536) → (li.length ≤ 22000) → va_P D cls0 (LWD cI cC cJ xF hB hy hp_ xl xr xs hg ap af aT aB aS hc hm hz hw h3 a3 am az aw ay aq nq np n mo ow om ok_ oK og on_ oh ox op_ oo fp ff ft fb fs tk F tv bv sg B L M S T U xt xn cn fy qj ql tx fr fq li qc fw fm fh fk fK ms fn val mt mp fo) H → va_D A (LWD cI cC cJ xF hB hy hp_ xl xr xs hg ap af aT aB aS hc hm hz hw h3 a3 am az aw ay aq nq np n mo ow om ok_ oK og on_ oh ox op_ oo fp ff ft fb fs tk F tv bv sg B L M S T U xt xn cn fy qj ql tx fr fq li qc fw fm fh fk fK ms fn val mt mp fo) → va_S A s.heap H locs → lv_has ls 7 [(0, .ref bs), (1, .ref xF), (2, .ref mo), (3, .ref oo), (4, .int (iZ (i : Int)))] → W p l e R s m args below meth c H locs (cells + 1) (slots + 6) Q (F0 m 1676 ls []) := by
      intro fp ff ft fb fs tk F tv bv sg B L M S T U xt xn cn fy qj ql tx fr fq li qc fw fm fh fk fK ms fn val mt mp fo H locs ls I J hW hMR hcn htx hmt hTX hPX hli hll hP hD hS hl
      refine lv_iinc (v := iZ ((i : Int) + 6)) (lv' := [(4, .int (iZ ((i : Int) + 6))), (0, .ref bs), (1, .ref xF), (2, .ref mo), (3, .ref oo)]) hx hb d_law_1676 hl (k := 4) rfl (iZ_add _ _) (by decide) rfl (fun ls hl => ?_)
      refine lv_goto (tgt := 33) hx hb d_law_1679 (by decide) ?_
      exact ih (i + 6) (cells + 1) (slots + 6) fp ff ft fb fs tk F tv bv sg B L M S T U xt xn cn fy qj ql tx fr fq li qc fw fm fh fk fK ms fn val mt mp fo H locs ls (by omega) (by omega) (by omega) (by omega) I J hW hMR hcn htx hmt hTX hPX hli hll hP hD hS (lv_sub hl [1, 2, 3, 4, 0] rfl)
    refine lw_sw K hX hbl hbA hS hLs hi hl (fun q hq => ?_)
    simp only [List.mem_cons, List.not_mem_nil, or_false] at hq
    rcases hq with rfl | rfl | rfl | rfl | rfl | rfl | rfl | rfl | rfl | rfl | rfl | rfl | rfl | rfl | rfl | rfl | rfl | rfl | rfl | rfl | rfl | rfl | rfl
    · exact lw_0 K hth hNC hnS htr hX hbl hbA hA hR hK hcs hi hLs hnp hnn hnq I J hW hMR hcn htx hmt hTX hPX hli hll hP hD hS hl kk
    · exact lw_1 K hth hNC hnS htr hX hbl hbA hA hR hK hcs hi hLs hnp hnn hnq I J hW hMR hcn htx hmt hTX hPX hli hll hP hD hS hl kk
    · exact lw_2 K hth hNC hnS htr hX hbl hbA hA hR hK hcs hi hLs hnp hnn hnq I J hW hMR hcn htx hmt hTX hPX hli hll hP hD hS hl kk
    · exact lw_3 K hth hNC hnS htr hX hbl hbA hA hR hK hcs hi hLs hnp hnn hnq I J hW hMR hcn htx hmt hTX hPX hli hll hP hD hS hl kk
    · exact lw_4 K hth hNC hnS htr hX hbl hbA hA hR hK hcs hi hLs hnp hnn hnq I J hW hMR hcn htx hmt hTX hPX hli hll hP hD hS hl kk
    · exact lw_5 K hth hNC hnS htr hX hbl hbA hA hR hK hcs hi hLs hnp hnn hnq I J hW hMR hcn htx hmt hTX hPX hli hll hP hD hS hl kk
    · exact lw_6 K hth hNC hnS htr hX hbl hbA hA hR hK hcs hi hLs hnp hnn hnq I J hW hMR hcn htx hmt hTX hPX hli hll hP hD hS hl kk
    · exact lw_7 K hth hNC hnS htr hX hbl hbA hA hR hK hcs hi hLs hnp hnn hnq I J hW hMR hcn htx hmt hTX hPX hli hll hP hD hS hl kk
    · exact lw_8 K hth hNC hnS htr hX hbl hbA hA hR hK hcs hi hLs hnp hnn hnq I J hW hMR hcn htx hmt hTX hPX hli hll hP hD hS hl kk
    · exact lw_9 K hth hNC hnS htr hX hbl hbA hA hR hK hcs hi hLs hnp hnn hnq I J hW hMR hcn htx hmt hTX hPX hli hll hP hD hS hl kk
    · exact lw_10 K hth hNC hnS htr hX hbl hbA hA hR hK hcs hi hLs hnp hnn hnq I J hW hMR hcn htx hmt hTX hPX hli hll hP hD hS hl kk
    · exact lw_11 K hth hNC hnS htr hX hbl hbA hA hR hK hcs hi hLs hnp hnn hnq I J hW hMR hcn htx hmt hTX hPX hli hll hP hD hS hl kk
    · exact lw_12 K hth hNC hnS htr hX hbl hbA hA hR hK hcs hi hLs hnp hnn hnq I J hW hMR hcn htx hmt hTX hPX hli hll hP hD hS hl kk
    · exact lw_13 K hth hNC hnS htr hX hbl hbA hA hR hK hcs hi hLs hnp hnn hnq I J hW hMR hcn htx hmt hTX hPX hli hll hP hD hS hl kk
    · exact lw_14 K hth hNC hnS htr hX hbl hbA hA hR hK hcs hi hLs hnp hnn hnq I J hW hMR hcn htx hmt hTX hPX hli hll hP hD hS hl kk
    · exact lw_15 K hth hNC hnS htr hX hbl hbA hA hR hK hcs hi hLs hnp hnn hnq I J hW hMR hcn htx hmt hTX hPX hli hll hP hD hS hl kk
    · exact lw_16 K hth hNC hnS htr hX hbl hbA hA hR hK hcs hi hLs hnp hnn hnq I J hW hMR hcn htx hmt hTX hPX hli hll hP hD hS hl kk
    · exact lw_17 K hth hNC hnS htr hX hbl hbA hA hR hK hcs hi hLs hnp hnn hnq I J hW hMR hcn htx hmt hTX hPX hli hll hP hD hS hl kk
    · exact lw_18 K hth hNC hnS htr hX hbl hbA hA hR hK hcs hi hLs hnp hnn hnq I J hW hMR hcn htx hmt hTX hPX hli hll hP hD hS hl kk
    · exact lw_19 K hth hNC hnS htr hX hbl hbA hA hR hK hcs hi hLs hnp hnn hnq I J hW hMR hcn htx hmt hTX hPX hli hll hP hD hS hl kk
    · exact lw_20 K hth hNC hnS htr hX hbl hbA hA hR hK hcs hi hLs hnp hnn hnq I J hW hMR hcn htx hmt hTX hPX hli hll hP hD hS hl kk
    · exact lw_21 K hth hNC hnS htr hX hbl hbA hA hR hK hcs hi hLs hnp hnn hnq I J hW hMR hcn htx hmt hTX hPX hli hll hP hD hS hl kk
    · exact W.widen (k := cells + 1) (n := slots + 6) (by omega) (by omega) (kk fp ff ft fb fs tk F tv bv sg B L M S T U xt xn cn fy qj ql tx fr fq li qc fw fm fh fk fK ms fn val mt mp fo H locs ls I J hW hMR hcn htx hmt hTX hPX hli hll hP hD hS hl)
