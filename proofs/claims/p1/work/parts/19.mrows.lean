/-! my own: long numbers, truth values; for the model -/
-- long ones as whole numbers
theorem hw_i2l (x : Int32) : (Int32.toInt64 x).toInt = x.toInt := by simp
theorem hw_Lrng (x : Int64) : -9223372036854775808 ≤ x.toInt ∧ x.toInt ≤ 9223372036854775807 := ⟨by have := Int64.le_toInt x; omega, by have := Int64.toInt_lt x; omega⟩
theorem hw_ladd {x y : Int64} {a b : Int} (hx : x.toInt = a) (hy : y.toInt = b) (h1 : -9223372036854775808 ≤ a + b) (h2 : a + b ≤ 9223372036854775807) : (x + y).toInt = a + b := by
  rw [Int64.toInt_add, hx, hy, Int.bmod_def]
  omega
theorem hw_Llt {x y : Int64} (h : x < y) : x.toInt < y.toInt := Int64.lt_iff_toInt_lt.mp h
theorem hw_Lnlt {x y : Int64} (h : ¬ x < y) : y.toInt ≤ x.toInt := by
  have := mt Int64.lt_iff_toInt_lt.mpr h
  omega
theorem hw_Lle {x y : Int64} (h : x ≤ y) : x.toInt ≤ y.toInt := Int64.le_iff_toInt_le.mp h
theorem hw_Lnle {x y : Int64} (h : ¬ x ≤ y) : y.toInt < x.toInt := by
  have := mt Int64.le_iff_toInt_le.mpr h
  omega
theorem hw_Leq {x y : Int64} (h : x = y) : x.toInt = y.toInt := by rw [h]
theorem hw_Lne {x y : Int64} (h : ¬ x = y) : x.toInt ≠ y.toInt := fun e => h (Int64.toInt_inj.mp e)
theorem hw_tmodN {a b : Int} (h : b ≠ 0) : (a.tmod b).natAbs < b.natAbs := by
  rw [Int.natAbs_tmod]
  exact Nat.mod_lt _ (by omega)
theorem hw_rem2 {x y : Int32} (h : y.toInt ≠ 0) : (x - x / y * y).toInt.natAbs < y.toInt.natAbs := by
  rw [rem_toInt]
  exact hw_tmodN h
theorem hw_lrem_eq (x y : Int64) : x - (x / y) * y = x % y := by
  apply Int64.toInt_inj.mp
  have h1 := Int64.le_toInt (x % y)
  have h2 := Int64.toInt_lt (x % y)
  rw [Int64.toInt_mod] at h1 h2
  rw [Int64.toInt_sub, Int64.toInt_mul, Int64.toInt_div, Int.bmod_mul_bmod, Int.sub_bmod_bmod, Int.mul_comm (x.toInt.tdiv y.toInt), ← Int.tmod_def, Int64.toInt_mod]
  exact Int.bmod_eq_of_le_mul_two (by omega) (by omega)
theorem hw_lrem {x y : Int64} (h : ¬ y = 0) : (x - x / y * y).toInt.natAbs < y.toInt.natAbs := by
  rw [hw_lrem_eq, Int64.toInt_mod]
  exact hw_tmodN (hw_Lne h)
theorem hw_z01 {x : Int32} (h : x.toInt = 0 ∨ x.toInt = 1) : x = 0 ∨ x = 1 := h.elim (fun h => Or.inl (Int32.toInt_inj.mp h)) (fun h => Or.inr (Int32.toInt_inj.mp h))
theorem hw_zn {x : Int32} (h : x = 0 ∨ x = 1) : narrow .boolean (.int x) = .int x := by
  rcases h with rfl | rfl <;> rfl
theorem hw_zf {x : Int32} (h : x = 0 ∨ x = 1) : fits .boolean (.int x) = true := by
  rcases h with rfl | rfl <;> rfl
