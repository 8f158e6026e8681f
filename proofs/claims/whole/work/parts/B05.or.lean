theorem lZ_orS {a b : Int} (hb : 0 ≤ b ∧ b < 4294967296) : (lZ (a * 4294967296) ||| lZ b) = lZ (a * 4294967296 + b) := by
  rw [lZ_mod (a * 4294967296), lZ_mod (a * 4294967296 + b)]
  have e1 : a * 4294967296 % 18446744073709551616 = (a % 4294967296) * 4294967296 := by omega
  have e2 : (a * 4294967296 + b) % 18446744073709551616 = (a % 4294967296) * 4294967296 + b := by omega
  rw [e1, e2]
  exact lZ_or (by omega) hb
