set_option maxHeartbeats 4000000 in
set_option maxRecDepth 100000 in
/-- THE LAW, from its entry -/
theorem whole_start {p : Program} {e : Env} {s : State} {m : MethodId} {below : List Frame} {meth : Method} {c : Code} (l : Launch) (htr : l.stackTraces = false) {b L : Nat} {xs : Nat → Int32} (hL : L ≤ 3073) (C0 : lw_At p s m meth c b L xs) : W p l e room_1 s m #[Value.ref b] below meth c s.heap [] 0 0 (lw_Z below #[Value.ref b] s) (entryFrame m ([Value.ref b] : List Value).toArray 7) := by
  obtain ⟨hx, hb, hr, hml, hown, hts, hX, hbl, hlocks, hgv⟩ := id C0
  have hbig : ∀ w ∈ big, w.before #[Value.ref b] s = true := fun w h => hts w (List.mem_filter.mp h).1
  have K : WKH p s m #[Value.ref b] meth c "FractionPoolLaw" code 7 ret := ⟨hx, hb, hml, hr, hlocks, hbig, hown⟩
  have hA : ∀ q : Nat, s.heap.size ≤ q → (fun q : Nat => s.heap.size ≤ q) q := fun _ h => h
  have hAi : ∀ q : Nat, (fun q : Nat => s.heap.size ≤ q) q → s.heap.size ≤ q := fun _ h => h
  have hbA : ¬ (fun q : Nat => s.heap.size ≤ q) b := Nat.not_le.mpr hbl
  have hnS : nSt (fun q : Nat => s.heap.size ≤ q) s.heap := fun q cell h1 h2 => absurd (Array.getElem?_eq_some_iff.mp h2).1 (Nat.not_lt.mpr h1)
  have hs := flat_of_before _ hgv
  have hNC : NC s := NC_of (b := b) (fun q hq => hs _ (lw_nc q hq))
  have hth : TH s := TH_of (b := b) (fun w hw => by
    simp only [thW, List.mem_cons, List.not_mem_nil, or_false] at hw
    rcases hw with rfl | rfl | rfl | rfl
    · exact hts _ lw_ls1
    · exact hts _ lw_ls2
    · exact hs _ lw_rf1
    · exact hs _ lw_rf2)
  obtain ⟨c0, iS0, hKn0⟩ := u_known (C := R_Wh) (T := F_Wh) (N := 2) (n := 2) hbig i_Wh (hbig _ (big_in mw_84 rfl))
  obtain ⟨c1, iS1, hKn1⟩ := u_known (C := R_Ra) (T := F_Ra) (N := 3) (n := 3) hbig i_Ra (hbig _ (big_in mw_179 rfl))
  obtain ⟨c2, iS2, hKn2⟩ := u_known (C := R_Cd) (T := F_Cd) (N := 7) (n := 7) hbig i_Cd (hbig _ (big_in mw_78 rfl))
  obtain ⟨c3, iS3, hKn3⟩ := u_known (C := R_Be) (T := F_Be) (N := 4) (n := 4) hbig i_Be (hbig _ (big_in mw_72 rfl))
  obtain ⟨c4, iS4, hKn4⟩ := u_known (C := R_Rg) (T := F_Rg) (N := 6) (n := 6) hbig i_Rg (hbig _ (big_in mw_42 rfl))
  obtain ⟨c5, iS5, hKn5⟩ := u_known (C := R_Ty) (T := F_Ty) (N := 4) (n := 4) hbig i_Ty (hbig _ (big_in mw_144 rfl))
  obtain ⟨c6, iS6, hKn6⟩ := u_known (C := R_Pr) (T := F_Pr) (N := 2) (n := 2) hbig i_Pr (hbig _ (big_in mw_165 rfl))
  obtain ⟨c7, iS7, hKn7⟩ := u_known (C := R_Fp) (T := F_Fp) (N := 10) (n := 10) hbig i_Fp (hbig _ (big_in mw_31 rfl))
  obtain ⟨c8, iS8, hKn8⟩ := u_known (C := R_Mo) (T := F_Mo) (N := 14) (n := 14) hbig i_Mo (hbig _ (big_in mw_1108 rfl))
  obtain ⟨dC, dI, hKc⟩ : ∃ (dC : Nat → ClassId) (dI : Nat → Nat → Nat), ∀ (k : Nat) (q : vw_C), cls0[k]? = some q → u_Kn s q.1 q.2.1 q.2.2 (dC k) (dI k) := by
    refine ⟨fun k => if k = 0 then c0 else if k = 1 then c1 else if k = 2 then c2 else if k = 3 then c3 else if k = 4 then c4 else if k = 5 then c5 else if k = 6 then c6 else if k = 7 then c7 else c8, fun k => if k = 0 then iS0 else if k = 1 then iS1 else if k = 2 then iS2 else if k = 3 then iS3 else if k = 4 then iS4 else if k = 5 then iS5 else if k = 6 then iS6 else if k = 7 then iS7 else iS8, ?_⟩
    intro k q hq
    match k, hq with
    | 0, hq => cases hq; exact hKn0
    | 1, hq => cases hq; exact hKn1
    | 2, hq => cases hq; exact hKn2
    | 3, hq => cases hq; exact hKn3
    | 4, hq => cases hq; exact hKn4
    | 5, hq => cases hq; exact hKn5
    | 6, hq => cases hq; exact hKn6
    | 7, hq => cases hq; exact hKn7
    | 8, hq => cases hq; exact hKn8
    | k + 9, hq => simp [cls0] at hq
  obtain ⟨cI, eI, fI⟩ := ary_int (hbig _ (big_in mw_70 rfl))
  obtain ⟨cC, eC, fC⟩ := ary_char (hbig _ (big_in mw_163 rfl))
  obtain ⟨cJ, eJ, fJ⟩ := ary_long (hbig _ (big_in mw_1402 rfl))
  have hK : va_K (dC, dI) cls0 [(cI, .int), (cC, .char), (cJ, .long)] s := ⟨hKc, fun k q hq => by
    match k, hq with
    | 0, hq => cases hq; exact ⟨eI, fI⟩
    | 1, hq => cases hq; exact ⟨eC, fC⟩
    | 2, hq => cases hq; exact ⟨eJ, fJ⟩
    | k + 3, hq => simp at hq⟩
  have hl := lv_entry ([.ref b]) (n := 7) (Nat.le_of_ble_eq_true rfl)
  rw [lg_entry_eq]
  generalize (lg_sl ([.ref b]) ++ List.replicate (7 - (lg_sl ([.ref b])).length) Slot.unset).toArray = ls at hl ⊢
  have hl : lv_has ls 7 [(0, .ref b)] := hl
  obtain ⟨z, hcz, hzr⟩ := i32Z (if 0 < L then xs 0 else iZ 0)
  rcases Classical.em (64 ≤ z ∧ z ≤ 1024) with hq | hq
  · obtain ⟨np, hnp⟩ : ∃ k : Nat, z = (k : Int) := ⟨z.toNat, by omega⟩
    subst hnp
    exact lw_go (z := 0) K hth hNC hnS htr hX hbl hbA hA hAi rfl rfl rfl hK hL hcz (by omega) hl
  · exact lw_goX (np := 1024) K hth hNC hnS htr hX hbl hbA hA hAi rfl rfl rfl hK hL hcz rfl ⟨by omega, hzr.1, hzr.2⟩ hl
