/-! MORE ROWS OVER iZ AND lZ -/
theorem iZ_and255 (z : Int) : (iZ z &&& iZ 255) = iZ (z % 256) := by
  apply uw_inj
  have h := Int.emod_nonneg z (show (256 : Int) ≠ 0 by decide)
  rw [uw_iZ]
  show ((iZ z).toBitVec &&& 255#32).toNat = _
  rw [BitVec.toNat_and, show (255#32).toNat = 2 ^ 8 - 1 from by decide, Nat.and_two_pow_sub_one_eq_mod]
  have : (iZ z).toBitVec.toNat = (z % 4294967296).toNat := by show uw (iZ z) = _; exact uw_iZ z
  rw [this]; omega
theorem iZ_and31' (z : Int) : (iZ z &&& iZ 31) = iZ (z % 32) := by
  apply uw_inj
  rw [uw_iZ]
  show ((iZ z).toBitVec &&& 31#32).toNat = _
  rw [BitVec.toNat_and, show (31#32).toNat = 2 ^ 5 - 1 from by decide, Nat.and_two_pow_sub_one_eq_mod]
  have : (iZ z).toBitVec.toNat = (z % 4294967296).toNat := by show uw (iZ z) = _; exact uw_iZ z
  rw [this]; omega
theorem iZ_char {z : Int} (h : 0 ≤ z ∧ z < 65536) : ((iZ z).toUInt32 % 65536).toInt32 = iZ z := by
  apply uw_inj
  obtain ⟨n, rfl⟩ := Int.eq_ofNat_of_zero_le h.1
  have h1 : uw (iZ (n : Int)) = n := uw_of_nat (by omega)
  show ((iZ (n : Int)).toUInt32 % 65536).toBitVec.toNat = _
  rw [UInt32.toBitVec_mod, BitVec.toNat_umod]
  have h2 : (iZ (n : Int)).toUInt32.toBitVec.toNat = n := h1
  rw [h2, h1]
  show n % 65536 = n
  omega
theorem iZ_div {a b : Int} (ha : 0 ≤ a ∧ a < 2147483648) (hb : 0 < b ∧ b < 2147483648) : iZ a / iZ b = iZ (a / b) := by
  have e := Int32.ofInt_tdiv (a := a) (b := b) (by show -2147483648 ≤ a; omega) (by show a ≤ 2147483647; omega) (by show -2147483648 ≤ b; omega) (by show b ≤ 2147483647; omega)
  rw [Int.tdiv_eq_ediv_of_nonneg ha.1] at e
  exact e.symm
theorem iZ_tdiv {a b : Int} (ha : -2147483648 ≤ a ∧ a < 2147483648) (hb : 0 < b ∧ b < 2147483648) : iZ a / iZ b = iZ (a.tdiv b) :=
  (Int32.ofInt_tdiv (a := a) (b := b) (by show -2147483648 ≤ a; omega) (by show a ≤ 2147483647; omega) (by show -2147483648 ≤ b; omega) (by show b ≤ 2147483647; omega)).symm
theorem lZ_tdiv {a b : Int} (ha : -9223372036854775808 ≤ a ∧ a < 9223372036854775808) (hb : 0 < b ∧ b < 9223372036854775808) : lZ a / lZ b = lZ (a.tdiv b) :=
  (Int64.ofInt_tdiv (a := a) (b := b) (by show -9223372036854775808 ≤ a; omega) (by show a ≤ 9223372036854775807; omega) (by show -9223372036854775808 ≤ b; omega) (by show b ≤ 9223372036854775807; omega)).symm
theorem iZ_ne0 {b : Int} (h : b ≠ 0) (hb : -2147483648 ≤ b ∧ b < 2147483648) : ¬ iZ b = 0 := fun e => h ((iZ_eq hb (by omega)).mp (e.trans (show (0 : Int32) = iZ 0 from rfl)))
theorem rem_e (a b : Int) : a - a / b * b = a % b := by have := Int.mul_ediv_add_emod a b; rw [Int.mul_comm]; omega
theorem rem_t (a b : Int) : a - a.tdiv b * b = a.tmod b := by have := Int.mul_tdiv_add_tmod a b; rw [Int.mul_comm]; omega
section ZZ2
variable {p : Program} {l : Launch} {e : Env} {R : Room} {s : State} {m : MethodId} {args : Array Value} {below : List Frame} {meth : Method} {c : Code} {H : Heap} {locs : List Loc} {cells slots : Nat} {Q : State → Prop}
variable {cc : ByteArray} {pc : Nat} {ls : Array Slot} {rest : List Value} {a b z : Int} {off : Int} {tgt : Nat}
theorem zz_iand255 (hexec : p.tables.exec = Jvm.exec) (hb : c.code = cc) (hdg : decode cc pc = .ok (.iand, 1)) (k : W p l e R s m args below meth c H locs cells slots Q (F0 m (pc + 1) ls (.int (iZ (z % 256)) :: rest))) : W p l e R s m args below meth c H locs cells slots Q (F0 m pc ls (.int (iZ 255) :: .int (iZ z) :: rest)) := lv_iand hexec hb hdg (by rw [iZ_and255]; exact k)
theorem zz_iand31x (hexec : p.tables.exec = Jvm.exec) (hb : c.code = cc) (hdg : decode cc pc = .ok (.iand, 1)) (k : W p l e R s m args below meth c H locs cells slots Q (F0 m (pc + 1) ls (.int (iZ (z % 32)) :: rest))) : W p l e R s m args below meth c H locs cells slots Q (F0 m pc ls (.int (iZ 31) :: .int (iZ z) :: rest)) := lv_iand hexec hb hdg (by rw [iZ_and31']; exact k)
theorem zz_i2c (hexec : p.tables.exec = Jvm.exec) (hb : c.code = cc) (hdg : decode cc pc = .ok (.i2c, 1)) (h : 0 ≤ z ∧ z < 65536) (k : W p l e R s m args below meth c H locs cells slots Q (F0 m (pc + 1) ls (.int (iZ z) :: rest))) : W p l e R s m args below meth c H locs cells slots Q (F0 m pc ls (.int (iZ z) :: rest)) := lv_i2c hexec hb hdg (iZ_char h) k
theorem zz_idiv (hexec : p.tables.exec = Jvm.exec) (hb : c.code = cc) (hdg : decode cc pc = .ok (.idiv, 1)) (ha : 0 ≤ a ∧ a < 2147483648) (h : 0 < b ∧ b < 2147483648) (k : W p l e R s m args below meth c H locs cells slots Q (F0 m (pc + 1) ls (.int (iZ (a / b)) :: rest))) : W p l e R s m args below meth c H locs cells slots Q (F0 m pc ls (.int (iZ b) :: .int (iZ a) :: rest)) := lv_idiv hexec hb hdg (iZ_ne0 (by omega) (by omega)) (by rw [iZ_div ha h]; exact k)
theorem zz_irem (hexec : p.tables.exec = Jvm.exec) (hb : c.code = cc) (hdg : decode cc pc = .ok (.irem, 1)) (ha : 0 ≤ a ∧ a < 2147483648) (h : 0 < b ∧ b < 2147483648) (k : W p l e R s m args below meth c H locs cells slots Q (F0 m (pc + 1) ls (.int (iZ (a % b)) :: rest))) : W p l e R s m args below meth c H locs cells slots Q (F0 m pc ls (.int (iZ b) :: .int (iZ a) :: rest)) := lv_irem hexec hb hdg (iZ_ne0 (by omega) (by omega)) (by rw [iZ_div ha h, iZ_mul, iZ_sub, rem_e]; exact k)
theorem zz_iremT (hexec : p.tables.exec = Jvm.exec) (hb : c.code = cc) (hdg : decode cc pc = .ok (.irem, 1)) (ha : -2147483648 ≤ a ∧ a < 2147483648) (h : 0 < b ∧ b < 2147483648) (k : W p l e R s m args below meth c H locs cells slots Q (F0 m (pc + 1) ls (.int (iZ (a.tmod b)) :: rest))) : W p l e R s m args below meth c H locs cells slots Q (F0 m pc ls (.int (iZ b) :: .int (iZ a) :: rest)) := lv_irem hexec hb hdg (iZ_ne0 (by omega) (by omega)) (by rw [iZ_tdiv ha h, iZ_mul, iZ_sub, rem_t]; exact k)
theorem zz_lrem (hexec : p.tables.exec = Jvm.exec) (hb : c.code = cc) (hdg : decode cc pc = .ok (.lrem, 1)) (ha : 0 ≤ a ∧ a < 9223372036854775808) (h : 0 < b ∧ b < 9223372036854775808) (k : W p l e R s m args below meth c H locs cells slots Q (F0 m (pc + 1) ls (.long (lZ (a % b)) :: rest))) : W p l e R s m args below meth c H locs cells slots Q (F0 m pc ls (.long (lZ b) :: .long (lZ a) :: rest)) := lv_lrem hexec hb hdg (lZ_ne0 (by omega) (by omega)) (by rw [lZ_div ha h, lZ_mul, lZ_sub, rem_e]; exact k)
theorem zz_lremT (hexec : p.tables.exec = Jvm.exec) (hb : c.code = cc) (hdg : decode cc pc = .ok (.lrem, 1)) (ha : -9223372036854775808 ≤ a ∧ a < 9223372036854775808) (h : 0 < b ∧ b < 9223372036854775808) (k : W p l e R s m args below meth c H locs cells slots Q (F0 m (pc + 1) ls (.long (lZ (a.tmod b)) :: rest))) : W p l e R s m args below meth c H locs cells slots Q (F0 m pc ls (.long (lZ b) :: .long (lZ a) :: rest)) := lv_lrem hexec hb hdg (lZ_ne0 (by omega) (by omega)) (by rw [lZ_tdiv ha h, lZ_mul, lZ_sub, rem_t]; exact k)
theorem zz_ldivT (hexec : p.tables.exec = Jvm.exec) (hb : c.code = cc) (hdg : decode cc pc = .ok (.ldiv, 1)) (ha : -9223372036854775808 ≤ a ∧ a < 9223372036854775808) (h : 0 < b ∧ b < 9223372036854775808) (k : W p l e R s m args below meth c H locs cells slots Q (F0 m (pc + 1) ls (.long (lZ (a.tdiv b)) :: rest))) : W p l e R s m args below meth c H locs cells slots Q (F0 m pc ls (.long (lZ b) :: .long (lZ a) :: rest)) := lv_ldiv hexec hb hdg (lZ_ne0 (by omega) (by omega)) (by rw [lZ_tdiv ha h]; exact k)
variable {D : va_G} {cl : List vw_C} {A : Nat → Prop} {ad : Nat} {tys : List (ClassId × FieldType)} {ws : va_W} {H0 : Heap}
theorem zz_cast (hexec : p.tables.exec = Jvm.exec) (hb : c.code = cc) (hK : va_K D cl tys s) (hP : va_P D cl ws H) (hD : va_D A ws) (hS : va_S A H0 H locs) (q0 t0 : Nat) {cA : ClassId} {n : Nat} {f : Nat → Int32} (ha : ws[q0]? = some (ad, .inl (cA, n, .inl f))) (ht : tys[t0]? = some (cA, .char)) {z x : Int} (i : Nat) (hz : z = i) (hi : i < n) (hn : n < 2147483648) (hx : 0 ≤ x ∧ x < 65536) (hdg : decode cc pc = .ok (.castore, 1))
    (kk : ∀ (H1 : Heap) (locs1 : List Loc), va_P D cl (ws.set q0 (ad, .inl (cA, n, .inl (upd f i (iZ x))))) H1 → va_D A (ws.set q0 (ad, .inl (cA, n, .inl (upd f i (iZ x))))) → va_S A H0 H1 locs1 → W p l e R s m args below meth c H1 locs1 cells slots Q (F0 m (pc + 1) ls (rest))) : W p l e R s m args below meth c H locs cells slots Q (F0 m pc ls (.int (iZ x) :: .int (iZ z) :: .ref ad :: rest)) := by
  have e : (iZ z).toNatClampNeg = i := iZ_cl hz (by omega)
  have ev : vp_nar .char (iZ x) = iZ x := iZ_char hx
  exact va_cast hexec hb hK hP hD hS q0 t0 ha ht (iZ_in (by omega) (by omega) hn) hdg (by rw [e, ev]; exact kk)
theorem zz_tsOut {dflt lo hi : Int} {offs : Array Int} {len : Nat} (hexec : p.tables.exec = Jvm.exec) (hb : c.code = cc) (hdg : decode cc pc = .ok (.tableswitch dflt lo hi offs, len)) (ht : (pc : Int) + dflt = (tgt : Int)) (hz : -2147483648 ≤ z ∧ z < 2147483648) (h : z < lo ∨ hi < z) (k : W p l e R s m args below meth c H locs cells slots Q (F0 m tgt ls (rest))) : W p l e R s m args below meth c H locs cells slots Q (F0 m pc ls (.int (iZ z) :: rest)) :=
  lv_tableOut hexec hb hdg (by rw [iZ_toInt hz.1 hz.2]; exact h) ht k
theorem zz_tsIn {dflt lo hi : Int} {offs : Array Int} {len : Nat} (hexec : p.tables.exec = Jvm.exec) (hb : c.code = cc) (hdg : decode cc pc = .ok (.tableswitch dflt lo hi offs, len)) {q : Nat} (hq : z = lo + q) (hz : -2147483648 ≤ z ∧ z < 2147483648) (h : lo ≤ z ∧ z ≤ hi) (ho : offs[q]? = some off) (ht : (pc : Int) + off = (tgt : Int)) (k : W p l e R s m args below meth c H locs cells slots Q (F0 m tgt ls (rest))) : W p l e R s m args below meth c H locs cells slots Q (F0 m pc ls (.int (iZ z) :: rest)) :=
  lv_tableIn hexec hb hdg (by rw [iZ_toInt hz.1 hz.2]; omega) (by rw [iZ_toInt hz.1 hz.2]; omega) (by rw [iZ_toInt hz.1 hz.2, show (z - lo).toNat = q by omega]; exact ho) ht k
end ZZ2
