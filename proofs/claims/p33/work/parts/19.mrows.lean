/-! my own: long numbers, truth values; for the model -/
-- long ones as whole numbers
theorem hw_i2l (x : Int32) : (Int32.toInt64 x).toInt = x.toInt := by simp
theorem hw_Lrng (x : Int64) : -9223372036854775808 ≤ x.toInt ∧ x.toInt ≤ 9223372036854775807 := ⟨by have := Int64.le_toInt x; omega, by have := Int64.toInt_lt x; omega⟩
theorem hw_ladd {x y : Int64} {a b : Int} (hx : x.toInt = a) (hy : y.toInt = b) (h1 : -9223372036854775808 ≤ a + b) (h2 : a + b ≤ 9223372036854775807) : (x + y).toInt = a + b := by
  rw [Int64.toInt_add, hx, hy, Int.bmod_def]
  omega
theorem hw_Llt {x y : Int64} (h : x < y) : x.toInt < y.toInt := Int64.lt_iff_toInt_lt.mp h
theorem hw_Lnlt {x y : Int64} (h : ¬ x < y) : y.toInt ≤ x.toInt := by
  have := mt Int64.lt_iff_toInt_lt.mpr h
  omega
theorem hw_Lle {x y : Int64} (h : x ≤ y) : x.toInt ≤ y.toInt := Int64.le_iff_toInt_le.mp h
theorem hw_Lnle {x y : Int64} (h : ¬ x ≤ y) : y.toInt < x.toInt := by
  have := mt Int64.le_iff_toInt_le.mpr h
  omega
theorem hw_Leq {x y : Int64} (h : x = y) : x.toInt = y.toInt := by rw [h]
theorem hw_Lne {x y : Int64} (h : ¬ x = y) : x.toInt ≠ y.toInt := fun e => h (Int64.toInt_inj.mp e)
theorem hw_tmodN {a b : Int} (h : b ≠ 0) : (a.tmod b).natAbs < b.natAbs := by
  rw [Int.natAbs_tmod]
  exact Nat.mod_lt _ (by omega)
theorem hw_rem2 {x y : Int32} (h : y.toInt ≠ 0) : (x - x / y * y).toInt.natAbs < y.toInt.natAbs := by
  rw [rem_toInt]
  exact hw_tmodN h
theorem hw_lrem_eq (x y : Int64) : x - (x / y) * y = x % y := by
  apply Int64.toInt_inj.mp
  have h1 := Int64.le_toInt (x % y)
  have h2 := Int64.toInt_lt (x % y)
  rw [Int64.toInt_mod] at h1 h2
  rw [Int64.toInt_sub, Int64.toInt_mul, Int64.toInt_div, Int.bmod_mul_bmod, Int.sub_bmod_bmod, Int.mul_comm (x.toInt.tdiv y.toInt), ← Int.tmod_def, Int64.toInt_mod]
  exact Int.bmod_eq_of_le_mul_two (by omega) (by omega)
theorem hw_lrem {x y : Int64} (h : ¬ y = 0) : (x - x / y * y).toInt.natAbs < y.toInt.natAbs := by
  rw [hw_lrem_eq, Int64.toInt_mod]
  exact hw_tmodN (hw_Lne h)
theorem hw_z01 {x : Int32} (h : x.toInt = 0 ∨ x.toInt = 1) : x = 0 ∨ x = 1 := h.elim (fun h => Or.inl (Int32.toInt_inj.mp h)) (fun h => Or.inr (Int32.toInt_inj.mp h))
theorem hw_zn {x : Int32} (h : x = 0 ∨ x = 1) : narrow .boolean (.int x) = .int x := by
  rcases h with rfl | rfl <;> rfl
theorem hw_zf {x : Int32} (h : x = 0 ∨ x = 1) : fits .boolean (.int x) = true := by
  rcases h with rfl | rfl <;> rfl
theorem hw_upd_or {f : Nat → Int32} {i v c : Int32} {j : Nat} (hv : v = c) (h : i.toNatClampNeg = j ∨ f j = c) : upd f i.toNatClampNeg v j = c := by
  unfold upd
  by_cases e : j = i.toNatClampNeg
  · rw [if_pos e]
    exact hv
  · rw [if_neg e]
    exact h.elim (fun h => absurd h.symm e) id
theorem hw_upd0 {f : Nat → Int32} {i v : Int32} (h : 1 ≤ i.toInt) : upd f i.toNatClampNeg v 0 = f 0 := by
  unfold upd
  rw [if_neg]
  have : i.toNatClampNeg = i.toInt.toNat := rfl
  omega
theorem hw_upd00 {f : Nat → Int32} {v : Int32} : upd f (0 : Int32).toNatClampNeg v 0 = v := rfl
theorem hw_cl0 {x : Int32} (h : x.toInt = 0) : x.toNatClampNeg = 0 := by
  show x.toInt.toNat = 0
  omega
theorem hw_z {x : Int32} (h : x.toInt = 0) : x = 0 := Int32.toInt_inj.mp h
def hw_ch (n : Int32) : Nat → Int32
  | 0 => 1
  | k + 1 => hw_ch n k * (n - nI k) / (nI k + 1)
theorem hw_ch_pos : ∀ i : Nat, i < 10 → ∀ k : Nat, k < 10 → k ≤ i → hw_ch (nI i) k ≠ 0 := by decide +kernel
theorem hw_chn {n m : Int32} (h0 : 0 ≤ n.toInt) (h1 : n.toInt ≤ 9) (h2 : 0 ≤ m.toInt) (h3 : m.toInt ≤ n.toInt) : hw_ch n m.toNatClampNeg ≠ 0 := by
  obtain ⟨i, hi, rfl⟩ := hw_ofr (n := 9) (by decide) h0 h1
  have e1 : m.toNatClampNeg = m.toInt.toNat := rfl
  have e2 := nI_toInt (n := i) (by omega)
  exact hw_ch_pos i hi _ (by omega) (by omega)
def hw_zr (f : Nat → Int32) (lo hi : Nat) : Prop := ∀ j, lo ≤ j → j < hi → f j = 0
theorem hw_tc (x : Int32) : x.toNatClampNeg = x.toInt.toNat := rfl
theorem hw_zr_up {f : Nat → Int32} {lo hi : Nat} {i v : Int32} (h : hw_zr f lo hi) (hv : v = 0) (hi2 : i.toNatClampNeg = hi) : hw_zr (upd f i.toNatClampNeg v) lo (hi + 1) := by
  intro j h1 h2
  unfold upd
  by_cases e : j = i.toNatClampNeg
  · rw [if_pos e]
    exact hv
  · rw [if_neg e]
    exact h j h1 (by omega)
theorem hw_zr_any {f : Nat → Int32} {lo hi : Nat} {i v : Int32} (h : hw_zr f lo hi) (hv : v = 0) : hw_zr (upd f i.toNatClampNeg v) lo hi := by
  intro j h1 h2
  unfold upd
  by_cases e : j = i.toNatClampNeg
  · rw [if_pos e]
    exact hv
  · rw [if_neg e]
    exact h j h1 h2
theorem hw_zr_eq {f : Nat → Int32} {a b a2 b2 : Nat} (h : hw_zr f a b) (e : a = a2) (e2 : b = b2) : hw_zr f a2 b2 := by
  subst e
  subst e2
  exact h
def hw_nv (f : Nat → Int32) (hi : Nat) : Prop := ∀ j, 1 ≤ j → j < hi → f j = 1000000
theorem hw_nv_up {f : Nat → Int32} {hi : Nat} {i : Int32} (h : hw_nv f hi) (hi2 : i.toNatClampNeg = hi) : hw_nv (upd f i.toNatClampNeg 1000000) (hi + 1) := by
  intro j h1 h2
  unfold upd
  by_cases e : j = i.toNatClampNeg
  · rw [if_pos e]
  · rw [if_neg e]
    exact h j h1 (by omega)
theorem hw_nv_1 (f : Nat → Int32) : hw_nv f 1 := by
  intro j h1 h2
  omega
theorem hw_Racks.grow {D : hw_D} {G G1 : Nat → Nat} {f : Nat → Option Nat} {la sz : Nat → Int32} {H H1 : Heap} (h : hw_Racks D G f la sz H) (oq : ∀ q : Nat, q < H.size → H1[q]? = H[q]?) (hm : ∀ a, G a ≠ 0 → G a < 100 → G1 a = G a) : hw_Racks D G1 f la sz H1 := by
  refine ⟨h.1, fun j hj => ?_⟩
  obtain ⟨a, r, h1, h2, h3, h4⟩ := h.2 j hj
  exact ⟨a, r, h1, hw_kg hm h2 (by decide) (by decide), hw_RK_mono hm h3, h4.kept (oq a h4.lt)⟩
theorem hw_Racks.q {D : hw_D} {G : Nat → Nat} {f : Nat → Option Nat} {la sz : Nat → Int32} {H : Heap} (h : hw_Racks D G f la sz H) : ∀ j, j < 4 → ∃ b, f j = some b ∧ G b = 6 := by
  intro j hj
  obtain ⟨a, r, h1, h2, -, -⟩ := h.2 j hj
  exact ⟨a, h1, h2⟩
