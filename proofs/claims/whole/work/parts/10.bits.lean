/-! NUMBERS OF THE MACHINE AS INTEGERS: iZ z, lZ z (an int and a long by an integer), uw x (an int without sign) -/
def iZ (z : Int) : Int32 := Int32.ofInt z
def lZ (z : Int) : Int64 := Int64.ofInt z
def uw (x : Int32) : Nat := x.toBitVec.toNat
theorem uw_lt (x : Int32) : uw x < 4294967296 := x.toBitVec.isLt
theorem uw_inj {x y : Int32} (h : uw x = uw y) : x = y := Int32.toBitVec_inj.mp (BitVec.eq_of_toNat_eq h)
theorem nI_iZ (n : Nat) : nI n = iZ n := (Int32.ofInt_eq_ofNat).symm
theorem lN_lZ (n : Nat) : lN n = lZ n := (Int64.ofInt_eq_ofNat).symm
theorem iZ_add (a b : Int) : iZ a + iZ b = iZ (a + b) := (Int32.ofInt_add a b).symm
theorem iZ_sub (a b : Int) : iZ a - iZ b = iZ (a - b) := (Int32.ofInt_sub a b).symm
theorem iZ_mul (a b : Int) : iZ a * iZ b = iZ (a * b) := (Int32.ofInt_mul a b).symm
theorem iZ_neg (a : Int) : -iZ a = iZ (-a) := (Int32.ofInt_neg a).symm
theorem lZ_add (a b : Int) : lZ a + lZ b = lZ (a + b) := (Int64.ofInt_add a b).symm
theorem lZ_sub (a b : Int) : lZ a - lZ b = lZ (a - b) := (Int64.ofInt_sub a b).symm
theorem lZ_mul (a b : Int) : lZ a * lZ b = lZ (a * b) := (Int64.ofInt_mul a b).symm
theorem lZ_neg (a : Int) : -lZ a = lZ (-a) := (Int64.ofInt_neg a).symm
theorem iZ_toInt {z : Int} (h1 : -2147483648 ≤ z) (h2 : z < 2147483648) : (iZ z).toInt = z := Int32.toInt_ofInt_of_le h1 h2
theorem lZ_toInt {z : Int} (h1 : -9223372036854775808 ≤ z) (h2 : z < 9223372036854775808) : (lZ z).toInt = z := Int64.toInt_ofInt_of_le h1 h2
theorem iZ_self (x : Int32) : iZ x.toInt = x := Int32.ofInt_toInt x
theorem lZ_self (x : Int64) : lZ x.toInt = x := Int64.ofInt_toInt x
/-- in the range of an int -/
def i32 (z : Int) : Prop := -2147483648 ≤ z ∧ z < 2147483648
def i64 (z : Int) : Prop := -9223372036854775808 ≤ z ∧ z < 9223372036854775808
theorem iZ_lt {a b : Int} (ha : -2147483648 ≤ a ∧ a < 2147483648) (hb : -2147483648 ≤ b ∧ b < 2147483648) : iZ a < iZ b ↔ a < b := by
  rw [Int32.lt_iff_toInt_lt, iZ_toInt ha.1 ha.2, iZ_toInt hb.1 hb.2]
theorem iZ_le {a b : Int} (ha : -2147483648 ≤ a ∧ a < 2147483648) (hb : -2147483648 ≤ b ∧ b < 2147483648) : iZ a ≤ iZ b ↔ a ≤ b := by
  rw [Int32.le_iff_toInt_le, iZ_toInt ha.1 ha.2, iZ_toInt hb.1 hb.2]
theorem iZ_eq {a b : Int} (ha : -2147483648 ≤ a ∧ a < 2147483648) (hb : -2147483648 ≤ b ∧ b < 2147483648) : iZ a = iZ b ↔ a = b := by
  rw [← Int32.toInt_inj, iZ_toInt ha.1 ha.2, iZ_toInt hb.1 hb.2]
theorem lZ_lt {a b : Int} (ha : -9223372036854775808 ≤ a ∧ a < 9223372036854775808) (hb : -9223372036854775808 ≤ b ∧ b < 9223372036854775808) : lZ a < lZ b ↔ a < b := by
  rw [Int64.lt_iff_toInt_lt, lZ_toInt ha.1 ha.2, lZ_toInt hb.1 hb.2]
theorem lZ_le {a b : Int} (ha : -9223372036854775808 ≤ a ∧ a < 9223372036854775808) (hb : -9223372036854775808 ≤ b ∧ b < 9223372036854775808) : lZ a ≤ lZ b ↔ a ≤ b := by
  rw [Int64.le_iff_toInt_le, lZ_toInt ha.1 ha.2, lZ_toInt hb.1 hb.2]
theorem lZ_eq {a b : Int} (ha : -9223372036854775808 ≤ a ∧ a < 9223372036854775808) (hb : -9223372036854775808 ≤ b ∧ b < 9223372036854775808) : lZ a = lZ b ↔ a = b := by
  rw [← Int64.toInt_inj, lZ_toInt ha.1 ha.2, lZ_toInt hb.1 hb.2]
theorem lZ_i (z : Int) : (lZ z).toInt32 = iZ z := Int64.toInt32_ofInt
theorem iZ_l {z : Int} (h : -2147483648 ≤ z ∧ z < 2147483648) : (iZ z).toInt64 = lZ z :=
  Int64.toInt_inj.mp (by rw [Int32.toInt_toInt64, iZ_toInt h.1 h.2, lZ_toInt (by omega) (by omega)])
theorem iZ_bv (z : Int) : (iZ z).toBitVec = BitVec.ofInt 32 z := rfl
theorem lZ_bv (z : Int) : (lZ z).toBitVec = BitVec.ofInt 64 z := rfl
theorem uw_iZ (z : Int) : uw (iZ z) = (z % 4294967296).toNat := by
  show (BitVec.ofInt 32 z).toNat = _
  rw [BitVec.toNat_ofInt]; rfl
theorem uw_of_nat {n : Nat} (h : n < 4294967296) : uw (iZ n) = n := by rw [uw_iZ]; omega
theorem uw_zero : uw 0 = 0 := rfl
theorem uw_eq0 {x : Int32} : uw x = 0 ↔ x = 0 := ⟨fun h => uw_inj (h.trans uw_zero.symm), fun h => by rw [h]; rfl⟩
theorem iZ_uw (x : Int32) : iZ (uw x) = x := uw_inj (by rw [uw_iZ]; have := uw_lt x; omega)
/-- a long below 2^64 read without sign -/
theorem lZ_nat {z : Int} (h0 : 0 ≤ z) (h1 : z < 18446744073709551616) : (lZ z).toBitVec.toNat = z.toNat := by
  rw [lZ_bv, BitVec.toNat_ofInt]
  show (z % 18446744073709551616).toNat = _
  rw [Int.emod_eq_of_lt h0 h1]
theorem lZ_mod (z : Int) : lZ z = lZ (z % 18446744073709551616) := Int64.toBitVec_inj.mp (by
  rw [lZ_bv, lZ_bv]; apply BitVec.eq_of_toNat_eq; rw [BitVec.toNat_ofInt, BitVec.toNat_ofInt]
  show (z % 18446744073709551616).toNat = (z % 18446744073709551616 % 18446744073709551616).toNat
  rw [Int.emod_emod_of_dvd _ (Int.dvd_refl _)])
theorem lZ_mask (x : Int32) : (x.toInt64 &&& 4294967295) = lZ (uw x) := by
  apply Int64.toBitVec_inj.mp
  apply BitVec.eq_of_toNat_eq
  rw [lZ_nat (by omega) (by have := uw_lt x; omega)]
  show (x.toBitVec.signExtend 64 &&& 4294967295#64).toNat = _
  rw [BitVec.toNat_and, show (4294967295#64).toNat = 2 ^ 32 - 1 from by decide, Nat.and_two_pow_sub_one_eq_mod, BitVec.toNat_signExtend]
  have h := x.toBitVec.isLt
  have e : (BitVec.setWidth 64 x.toBitVec).toNat = x.toBitVec.toNat := by rw [BitVec.toNat_setWidth]; omega
  rw [e]
  show _ = ((x.toBitVec.toNat : Nat) : Int).toNat
  rw [Int.toNat_natCast]
  split <;> omega
theorem lZ_lo {z : Int} (h0 : 0 ≤ z) (h1 : z < 18446744073709551616) : (lZ z &&& 4294967295) = lZ (z % 4294967296) := by
  apply Int64.toBitVec_inj.mp
  apply BitVec.eq_of_toNat_eq
  rw [lZ_nat (by omega) (by omega)]
  show ((lZ z).toBitVec &&& 4294967295#64).toNat = _
  rw [BitVec.toNat_and, show (4294967295#64).toNat = 2 ^ 32 - 1 from by decide, Nat.and_two_pow_sub_one_eq_mod, lZ_nat h0 h1]
  omega
theorem sh_c : ∀ k : Nat, k < 64 → ((iZ k).toInt64 &&& 63) = lZ k := by decide +kernel
theorem sh_cu : ∀ k : Nat, k < 64 → ((iZ k).toInt64.toUInt64 &&& Int64.toUInt64 63) = UInt64.ofNat k := by decide +kernel
theorem sh_sm : ∀ k : Nat, k < 64 → ((lZ k).toBitVec.smod 64).toNat = k := by decide +kernel
theorem sh_ci : ∀ k : Nat, k < 32 → ((iZ k &&& 31).toBitVec.smod 32).toNat = k := by decide +kernel
theorem sh_cui : ∀ k : Nat, k < 32 → (((iZ k).toUInt32 &&& Int32.toUInt32 31).toBitVec % 32).toNat = k := by decide +kernel
theorem lZ_ushr {z : Int} {k : Nat} (h0 : 0 ≤ z) (h1 : z < 18446744073709551616) (hk : k < 64) : ((lZ z).toUInt64 >>> ((iZ k).toInt64.toUInt64 &&& Int64.toUInt64 63)).toInt64 = lZ (z / 2 ^ k) := by
  have hd : z / 2 ^ k ≤ z := Int.ediv_le_self _ h0
  have hd0 : 0 ≤ z / 2 ^ k := Int.ediv_nonneg h0 (Int.le_of_lt (Int.pow_pos (by decide)))
  rw [sh_cu k hk]
  apply Int64.toBitVec_inj.mp
  apply BitVec.eq_of_toNat_eq
  rw [lZ_nat hd0 (by omega)]
  show ((lZ z).toUInt64 >>> UInt64.ofNat k).toNat = _
  have h3 : (UInt64.ofNat k).toNat = k := by
    show (BitVec.ofNat 64 k).toNat = k
    rw [BitVec.toNat_ofNat, Nat.mod_eq_of_lt (by omega)]
  have h2 : (lZ z).toUInt64.toNat = z.toNat := lZ_nat h0 h1
  rw [UInt64.toNat_shiftRight, h3, h2, Nat.mod_eq_of_lt hk, Nat.shiftRight_eq_div_pow]
  obtain ⟨n, rfl⟩ := Int.eq_ofNat_of_zero_le h0
  have : ((n : Int) / 2 ^ k) = ((n / 2 ^ k : Nat) : Int) := by simp
  rw [this, Int.toNat_natCast, Int.toNat_natCast]
theorem lZ_shl (z : Int) {k : Nat} (hk : k < 64) : lZ z <<< ((iZ k).toInt64 &&& 63) = lZ (z * 2 ^ k) := by
  rw [sh_c k hk]
  apply Int64.toBitVec_inj.mp
  rw [Int64.toBitVec_shiftLeft, lZ_bv, lZ_bv (z * 2 ^ k)]
  show BitVec.ofInt 64 z <<< ((lZ k).toBitVec.smod 64) = _
  rw [BitVec.shiftLeft_eq', sh_sm k hk]
  apply BitVec.eq_of_toNat_eq
  rw [BitVec.toNat_shiftLeft, BitVec.toNat_ofInt, BitVec.toNat_ofInt, Nat.shiftLeft_eq]
  show (z % 18446744073709551616).toNat * 2 ^ k % 18446744073709551616 = (z * 2 ^ k % 18446744073709551616).toNat
  have hz : 0 ≤ z % 18446744073709551616 := Int.emod_nonneg _ (by decide)
  have e1 : ((z % 18446744073709551616).toNat : Int) = z % 18446744073709551616 := Int.toNat_of_nonneg hz
  apply Int.ofNat_inj.mp
  rw [Int.toNat_of_nonneg (Int.emod_nonneg _ (by decide))]
  show (((z % 18446744073709551616).toNat * 2 ^ k % 18446744073709551616 : Nat) : Int) = _
  rw [Int.natCast_emod, Int.natCast_mul, e1]
  have : ((2 ^ k : Nat) : Int) = (2 : Int) ^ k := by simp
  rw [this]
  show (z % 18446744073709551616) * 2 ^ k % 18446744073709551616 = z * 2 ^ k % 18446744073709551616
  rw [Int.mul_emod, Int.emod_emod_of_dvd _ (Int.dvd_refl _), ← Int.mul_emod]
theorem lZ_shr {z : Int} {k : Nat} (h : -9223372036854775808 ≤ z ∧ z < 9223372036854775808) (hk : k < 64) : lZ z >>> ((iZ k).toInt64 &&& 63) = lZ (z / 2 ^ k) := by
  rw [sh_c k hk]
  apply Int64.toInt_inj.mp
  have e : (lZ z >>> lZ k).toInt = (lZ z).toInt >>> ((lZ k).toBitVec.smod 64).toNat := BitVec.toInt_sshiftRight ..
  rw [sh_sm k hk] at e
  have hp : (0 : Int) < 2 ^ k := Int.pow_pos (by decide)
  have b1 : z / 2 ^ k < 9223372036854775808 := by
    rcases Int.le_total 0 z with h0 | h0
    · have := Int.ediv_le_self (2 ^ k) h0; omega
    · have : z / 2 ^ k ≤ 0 := by
        have := Int.ediv_le_ediv hp h0
        rw [Int.zero_ediv] at this; exact this
      omega
  have b2 : -9223372036854775808 ≤ z / 2 ^ k := by
    have h1 : (1 : Int) ≤ 2 ^ k := by omega
    apply Int.le_ediv_of_mul_le hp
    have : (9223372036854775808 : Int) * 1 ≤ 9223372036854775808 * 2 ^ k := Int.mul_le_mul_of_nonneg_left h1 (by decide)
    rw [Int.neg_mul]
    omega
  rw [e, Int.shiftRight_eq_div_pow, lZ_toInt h.1 h.2, lZ_toInt b2 b1]
  rfl
theorem lZ_or {a b : Int} (ha : 0 ≤ a ∧ a < 4294967296) (hb : 0 ≤ b ∧ b < 4294967296) : (lZ (a * 4294967296) ||| lZ b) = lZ (a * 4294967296 + b) := by
  obtain ⟨x, rfl⟩ := Int.eq_ofNat_of_zero_le ha.1
  obtain ⟨y, rfl⟩ := Int.eq_ofNat_of_zero_le hb.1
  apply Int64.toBitVec_inj.mp
  apply BitVec.eq_of_toNat_eq
  rw [Int64.toBitVec_or, BitVec.toNat_or, lZ_nat (by omega) (by omega), lZ_nat (by omega) (by omega), lZ_nat (by omega) (by omega)]
  have e1 : ((x : Int) * 4294967296).toNat = x * 2 ^ 32 := by omega
  have e2 : ((y : Int)).toNat = y := by omega
  have e3 : ((x : Int) * 4294967296 + y).toNat = x * 2 ^ 32 + y := by omega
  rw [e1, e2, e3, ← Nat.shiftLeft_eq, Nat.shiftLeft_add_eq_or_of_lt (by omega)]
theorem lZ_or' {a b : Int} (ha : 0 ≤ a ∧ a < 4294967296) (hb : 0 ≤ b ∧ b < 4294967296) : (lZ b ||| lZ (a * 4294967296)) = lZ (b + a * 4294967296) := by
  rw [Int64.or_comm, lZ_or ha hb, Int.add_comm]
theorem iZ_and31 {z : Int} (h : 0 ≤ z ∧ z < 2147483648) : (iZ z &&& iZ 31) = iZ (z % 32) := by
  obtain ⟨n, rfl⟩ := Int.eq_ofNat_of_zero_le h.1
  apply uw_inj
  rw [uw_iZ]
  show ((iZ n).toBitVec &&& 31#32).toNat = _
  rw [BitVec.toNat_and, show (31#32).toNat = 2 ^ 5 - 1 from by decide, Nat.and_two_pow_sub_one_eq_mod]
  have : (iZ n).toBitVec.toNat = n := by show uw (iZ n) = n; exact uw_of_nat (by omega)
  rw [this]; omega
theorem iZ_and1 (x : Int32) : (x &&& iZ 1) = iZ (uw x % 2 : Nat) := by
  apply uw_inj
  rw [uw_of_nat (by omega)]
  show (x.toBitVec &&& 1#32).toNat = _
  rw [BitVec.toNat_and, show (1#32).toNat = 2 ^ 1 - 1 from by decide, Nat.and_two_pow_sub_one_eq_mod]
  rfl
theorem iZ_ushr {z : Int} {k : Nat} (h : 0 ≤ z ∧ z < 2147483648) (hk : k < 32) : ((iZ z).toUInt32 >>> ((iZ k).toUInt32 &&& Int32.toUInt32 31)).toInt32 = iZ (z / 2 ^ k) := by
  obtain ⟨n, rfl⟩ := Int.eq_ofNat_of_zero_le h.1
  apply uw_inj
  have h1 := pk_ushr (iZ n) (iZ k) k (sh_cui k hk)
  show ((iZ n).toUInt32 >>> ((iZ k).toUInt32 &&& Int32.toUInt32 31)).toInt32.toBitVec.toNat = _
  rw [h1]
  have e : (iZ n).toBitVec.toNat = n := by show uw (iZ n) = n; exact uw_of_nat (by omega)
  have e2 : ((n : Int) / 2 ^ k) = ((n / 2 ^ k : Nat) : Int) := by simp
  have e3 : n / 2 ^ k ≤ n := Nat.div_le_self _ _
  rw [e, e2, uw_of_nat (by omega)]
theorem iZ_in {z : Int} {n : Nat} (h0 : 0 ≤ z) (h1 : z < n) (hn : n < 2147483648) : vp_in (iZ z) n := by
  rw [vp_in_iff, iZ_toInt (by omega) (by omega)]; exact ⟨h0, h1⟩
theorem iZ_cl {z : Int} {k : Nat} (h : z = k) (hk : k < 2147483648) : (iZ z).toNatClampNeg = k := by
  show (iZ z).toInt.toNat = k
  rw [iZ_toInt (by omega) (by omega)]; omega
theorem lZ_div {a b : Int} (ha : 0 ≤ a ∧ a < 9223372036854775808) (hb : 0 < b ∧ b < 9223372036854775808) : lZ a / lZ b = lZ (a / b) := by
  have e := Int64.ofInt_tdiv (a := a) (b := b) (by show -9223372036854775808 ≤ a; omega) (by show a ≤ 9223372036854775807; omega) (by show -9223372036854775808 ≤ b; omega) (by show b ≤ 9223372036854775807; omega)
  rw [Int.tdiv_eq_ediv_of_nonneg ha.1] at e
  exact e.symm
theorem lZ_ne0 {b : Int} (h : b ≠ 0) (hb : -9223372036854775808 ≤ b ∧ b < 9223372036854775808) : ¬ lZ b = 0 := fun e => h ((lZ_eq hb (by omega)).mp (e.trans (show (0 : Int64) = lZ 0 from rfl)))
