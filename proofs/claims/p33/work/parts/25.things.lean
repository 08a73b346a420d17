/-! my own: the racks with their things -/
def hw_RK3 (D : hw_D) (G : Nat → Nat) (f : Nat → Option Nat) (th : Nat → Nat) (la sz : Nat → Int32) (tt : Nat → Nat → Int64) (H : Heap) : Prop :=
  (∀ i j, i < 4 → j < 4 → f i = f j → i = j) ∧ (∀ i j, i < 4 → j < 4 → th i = th j → i = j) ∧ ∀ j, j < 4 → ∃ (a : Nat) (r : Nat → Nat), f j = some a ∧ G a = 6 ∧ hw_RK G r ∧ va_at D.1 vwCl (a, .inr (6, hw_LK r (la j) (sz j))) H ∧ r 0 = th j ∧ va_at D.1 vwCl (th j, .inl (D.2.1 1, 24, .inr (.inl (tt j)))) H
theorem hw_RK3.racks {D : hw_D} {G : Nat → Nat} {f : Nat → Option Nat} {th : Nat → Nat} {la sz : Nat → Int32} {tt : Nat → Nat → Int64} {H : Heap} (h : hw_RK3 D G f th la sz tt H) : hw_Racks D G f la sz H := by
  refine ⟨h.1, fun j hj => ?_⟩
  obtain ⟨a, r, h1, h2, h3, h4, -, -⟩ := h.2.2 j hj
  exact ⟨a, r, h1, h2, h3, h4⟩
theorem hw_RK3.q {D : hw_D} {G : Nat → Nat} {f : Nat → Option Nat} {th : Nat → Nat} {la sz : Nat → Int32} {tt : Nat → Nat → Int64} {H : Heap} (h : hw_RK3 D G f th la sz tt H) : ∀ j, j < 4 → ∃ b, f j = some b ∧ G b = 6 := by
  intro j hj
  obtain ⟨a, r, h1, h2, -, -, -, -⟩ := h.2.2 j hj
  exact ⟨a, h1, h2⟩
theorem hw_RK3.kept {D : hw_D} {G : Nat → Nat} {f : Nat → Option Nat} {th : Nat → Nat} {la sz : Nat → Int32} {tt : Nat → Nat → Int64} {H H1 : Heap} (h : hw_RK3 D G f th la sz tt H) (oq : ∀ q, G q = 6 ∨ G q = 19 → q < H.size → H1[q]? = H[q]?) : hw_RK3 D G f th la sz tt H1 := by
  refine ⟨h.1, h.2.1, fun j hj => ?_⟩
  obtain ⟨a, r, h1, h2, h3, h4, h5, h6⟩ := h.2.2 j hj
  exact ⟨a, r, h1, h2, h3, h4.kept (oq a (Or.inl h2) h4.lt), h5, h6.kept (oq _ (Or.inr (by rw [← h5]; exact hw_RK_0 h3)) h6.lt)⟩
theorem hw_RK3.grow {D : hw_D} {G G1 : Nat → Nat} {f : Nat → Option Nat} {th : Nat → Nat} {la sz : Nat → Int32} {tt : Nat → Nat → Int64} {H H1 : Heap} (h : hw_RK3 D G f th la sz tt H) (oq : ∀ q : Nat, q < H.size → H1[q]? = H[q]?) (hm : ∀ a, G a ≠ 0 → G a < 100 → G1 a = G a) : hw_RK3 D G1 f th la sz tt H1 := by
  refine ⟨h.1, h.2.1, fun j hj => ?_⟩
  obtain ⟨a, r, h1, h2, h3, h4, h5, h6⟩ := h.2.2 j hj
  exact ⟨a, r, h1, hw_kg hm h2 (by decide) (by decide), hw_RK_mono hm h3, h4.kept (oq a h4.lt), h5, h6.kept (oq _ h6.lt)⟩
/-- one row's own cell is written -/
theorem hw_RK3.setR {D : hw_D} {G : Nat → Nat} {f : Nat → Option Nat} {th : Nat → Nat} {la sz : Nat → Int32} {tt : Nat → Nat → Int64} {H H1 : Heap} {i b : Nat} {r : Nat → Nat} {u v : Int32} (h : hw_RK3 D G f th la sz tt H) (hi : i < 4) (hb : f i = some b) (hk : G b = 6) (hR : hw_RK G r) (e0 : r 0 = th i) (hv : va_at D.1 vwCl (b, .inr (6, hw_LK r u v)) H1) (oq : ∀ q, q ≠ b → (G q = 6 ∨ G q = 19) → q < H.size → H1[q]? = H[q]?) : hw_RK3 D G f th (va_up la i u) (va_up sz i v) tt H1 := by
  refine ⟨h.1, h.2.1, fun j hj => ?_⟩
  obtain ⟨a, r2, h1, h2, h3, h4, h5, h6⟩ := h.2.2 j hj
  have h19 : G (th j) = 19 := by rw [← h5]; exact hw_RK_0 h3
  have h6' := h6.kept (oq _ (fun e2 => by rw [show th j = b from e2, hk] at h19; cases h19) (Or.inr h19) h6.lt)
  by_cases e : j = i
  · subst e
    exact ⟨b, r, hb, hk, hR, by rw [va_up_self, va_up_self]; exact hv, e0, h6'⟩
  · refine ⟨a, r2, h1, h2, h3, ?_, h5, h6'⟩
    rw [va_up_ne la u e, va_up_ne sz v e]
    refine h4.kept (oq a (fun e2 => e (h.1 j i hj hi ?_)) (Or.inl h2) h4.lt)
    rw [h1, hb, e2]
/-- one row's own cell and its things are written -/
theorem hw_RK3.set {D : hw_D} {G : Nat → Nat} {f : Nat → Option Nat} {th : Nat → Nat} {la sz : Nat → Int32} {tt : Nat → Nat → Int64} {H H1 : Heap} {i b : Nat} {r : Nat → Nat} {u v : Int32} {t : Nat → Int64} (h : hw_RK3 D G f th la sz tt H) (hi : i < 4) (hb : f i = some b) (hk : G b = 6) (hR : hw_RK G r) (e0 : r 0 = th i) (hv : va_at D.1 vwCl (b, .inr (6, hw_LK r u v)) H1) (ht : va_at D.1 vwCl (r 0, .inl (D.2.1 1, 24, .inr (.inl t))) H1) (oq : ∀ q, q ≠ b → q ≠ r 0 → (G q = 6 ∨ G q = 19) → q < H.size → H1[q]? = H[q]?) : hw_RK3 D G f th (va_up la i u) (va_up sz i v) (va_up tt i t) H1 := by
  refine ⟨h.1, h.2.1, fun j hj => ?_⟩
  obtain ⟨a, r2, h1, h2, h3, h4, h5, h6⟩ := h.2.2 j hj
  have h19 : G (th j) = 19 := by rw [← h5]; exact hw_RK_0 h3
  have hr19 : G (r 0) = 19 := hw_RK_0 hR
  by_cases e : j = i
  · subst e
    refine ⟨b, r, hb, hk, hR, by rw [va_up_self, va_up_self]; exact hv, e0, ?_⟩
    rw [va_up_self, ← e0]
    exact ht
  · refine ⟨a, r2, h1, h2, h3, ?_, h5, ?_⟩
    · rw [va_up_ne la u e, va_up_ne sz v e]
      refine h4.kept (oq a (fun e2 => e (h.1 j i hj hi ?_)) (fun e2 => by rw [e2, hr19] at h2; cases h2) (Or.inl h2) h4.lt)
      rw [h1, hb, e2]
    · rw [va_up_ne tt t e]
      refine h6.kept (oq _ (fun e2 => by rw [show th j = b from e2, hk] at h19; cases h19) (fun e2 => e (h.2.1 j i hj hi ((show th j = r 0 from e2).trans e0))) (Or.inr h19) h6.lt)
theorem hw_G6_or {a t q : Nat} (h : hw_G6 a t q ≠ 0) : q = a ∨ q = t := by
  unfold hw_G6 at h
  split at h
  · exact Or.inl (by assumption)
  · split at h
    · exact Or.inr (by assumption)
    · exact absurd rfl h
theorem hw_RK3.setG6 {D : hw_D} {G : Nat → Nat} {f : Nat → Option Nat} {th : Nat → Nat} {la sz : Nat → Int32} {tt : Nat → Nat → Int64} {H H1 : Heap} {i b : Nat} {r : Nat → Nat} {u v : Int32} {t : Nat → Int64} {WR : List Nat} (h : hw_RK3 D G f th la sz tt H) (hi : i < 4) (hb : f i = some b) (hk : G b = 6) (hR : hw_RK G r) (e0 : r 0 = th i) (hv : va_at D.1 vwCl (b, .inr (6, hw_LK r u v)) H1) (ht : va_at D.1 vwCl (r 0, .inl (D.2.1 1, 24, .inr (.inl t))) H1) (oq : ∀ q : Nat, q < H.size → ¬ hw_AW (hw_G6 b (r 0)) WR H.size q → H1[q]? = H[q]?) (h0 : 0 ∉ WR := by decide) : hw_RK3 D G f th (va_up la i u) (va_up sz i v) (va_up tt i t) H1 := by
  refine h.set hi hb hk hR e0 hv ht (fun q h1 h2 _ h3 => oq q h3 ?_)
  intro z
  rcases z with z | z
  · have e : hw_G6 b (r 0) q ≠ 0 := fun e => by rw [e] at z; exact h0 z
    rcases hw_G6_or e with e | e
    · exact h1 e
    · exact h2 e
  · omega
theorem hw_upid {α : Type} (f : Nat → α) (k : Nat) : va_up f k (f k) = f := by
  funext j
  by_cases e : j = k
  · subst e
    rw [va_up_self]
  · rw [va_up_ne f _ e]
theorem hw_RK3.setG6T {D : hw_D} {G : Nat → Nat} {f : Nat → Option Nat} {th : Nat → Nat} {la sz : Nat → Int32} {tt : Nat → Nat → Int64} {H H1 : Heap} {i b : Nat} {r : Nat → Nat} {t : Nat → Int64} {WR : List Nat} (h : hw_RK3 D G f th la sz tt H) (hi : i < 4) (hb : f i = some b) (hk : G b = 6) (hR : hw_RK G r) (e0 : r 0 = th i) (hv : va_at D.1 vwCl (b, .inr (6, hw_LK r (la i) (sz i))) H1) (ht : va_at D.1 vwCl (r 0, .inl (D.2.1 1, 24, .inr (.inl t))) H1) (oq : ∀ q : Nat, q < H.size → ¬ hw_AW (hw_G6 b (r 0)) WR H.size q → H1[q]? = H[q]?) (h0 : 0 ∉ WR := by decide) : hw_RK3 D G f th la sz (va_up tt i t) H1 := by
  have h9 := h.setG6 hi hb hk hR e0 hv ht oq h0
  rw [hw_upid, hw_upid] at h9
  exact h9
-- sums, the greatest common part, shares
def hw_i32 (x : Int64) : Prop := -2147483648 ≤ x.toInt ∧ x.toInt ≤ 2147483647
theorem hw_i32_cut {x : Int64} (h : hw_i32 x) : x.toInt32.toInt64 = x := by
  apply Int64.toInt_inj.mp
  rw [Int32.toInt_toInt64, Int64.toInt_toInt32]
  obtain ⟨h1, h2⟩ := h
  rw [Int.bmod_eq_of_le (by omega) (by omega)]
theorem hw_i32_of (x : Int64) : hw_i32 x.toInt32.toInt64 := by
  unfold hw_i32
  rw [Int32.toInt_toInt64]
  have h1 := Int32.le_toInt x.toInt32
  have h2 := Int32.toInt_lt x.toInt32
  omega
theorem hw_i32_0 : hw_i32 0 := by unfold hw_i32; decide
def hw_lsum (f : Nat → Int64) : Nat → Int64
  | 0 => 0
  | n + 1 => hw_lsum f n + f n
theorem hw_lsum_eq {f g : Nat → Int64} : ∀ {n : Nat}, (∀ u, u < n → f u = g u) → hw_lsum f n = hw_lsum g n
  | 0, _ => rfl
  | n + 1, h => by
    show hw_lsum f n + f n = hw_lsum g n + g n
    rw [hw_lsum_eq (n := n) (fun u hu => h u (by omega)), h n (by omega)]
theorem hw_lsum_rng {f : Nat → Int64} : ∀ {n : Nat}, n ≤ 24 → (∀ u, u < n → hw_i32 (f u)) → -(2147483648 * (n : Int)) ≤ (hw_lsum f n).toInt ∧ (hw_lsum f n).toInt ≤ 2147483648 * (n : Int)
  | 0, _, _ => by show -(2147483648 * ((0 : Nat) : Int)) ≤ (0 : Int64).toInt ∧ (0 : Int64).toInt ≤ 2147483648 * ((0 : Nat) : Int); decide
  | n + 1, hn, h => by
    have h1 := hw_lsum_rng (n := n) (by omega) (fun u hu => h u (by omega))
    obtain ⟨h2, h3⟩ := h n (by omega)
    show _ ≤ (hw_lsum f n + f n).toInt ∧ (hw_lsum f n + f n).toInt ≤ _
    rw [hw_ladd rfl rfl (by omega) (by omega)]
    omega
def hw_low (a b : Int64) (part : Int32) : Int64 := if part.toInt = 0 then a / Int64.ofInt (Int.gcd a.toInt b.toInt) else b / Int64.ofInt (Int.gcd a.toInt b.toInt)
theorem hw_gcd_of {c a b : Int64} (h : c.toInt = (Int.gcd a.toInt b.toInt : Int)) : c = Int64.ofInt (Int.gcd a.toInt b.toInt) := by
  rw [← h, Int64.ofInt_toInt]
theorem hw_gcd_step {x y z : Int64} (hz : z = x % y) : Int.gcd y.toInt z.toInt = Int.gcd x.toInt y.toInt := by
  subst hz
  rw [Int64.toInt_mod]
  rw [Int.gcd_comm x.toInt y.toInt]
  unfold Int.gcd
  rw [Int.natAbs_tmod, Nat.gcd_comm y.toInt.natAbs (x.toInt.natAbs % y.toInt.natAbs), ← Nat.gcd_rec]
-- moves within and between rows
def hw_mv (f g : Nat → Int64) (i j n : Int) : Nat → Int64 := fun u => if j ≤ (u : Int) ∧ (u : Int) < j + n then f (i + u - j).toNat else g u
def hw_mvs (f g : Nat → Int64) (i j n s : Int) : Nat → Int64 := fun u => if (i < j ∧ j + n - s ≤ (u : Int) ∧ (u : Int) < j + n) ∨ (¬ i < j ∧ j ≤ (u : Int) ∧ (u : Int) < j + s) then f (i + u - j).toNat else g u
theorem hw_mvs_0 (f g : Nat → Int64) (i j n : Int) : ∀ u : Nat, hw_mvs f g i j n 0 u = g u := by
  intro u
  unfold hw_mvs
  rw [if_neg]
  omega
theorem hw_mvs_n (f g : Nat → Int64) (i j n : Int) : ∀ u : Nat, hw_mvs f g i j n n u = hw_mv f g i j n u := by
  intro u
  unfold hw_mvs hw_mv
  by_cases h2 : j ≤ (u : Int) ∧ (u : Int) < j + n
  · rw [if_pos h2, if_pos (by omega)]
  · rw [if_neg h2, if_neg (by omega)]
theorem hw_mvs_step {f g f9 g9 : Nat → Int64} {i j n s t : Int} {v : Int64} (hf : f9 = f ∨ (f9 = g9 ∧ f = g)) (h1 : ∀ u, u < 24 → g9 u = hw_mvs f g i j n s u) (hr : ∀ u, u < 24 → hw_i32 (f u)) (hi : 0 ≤ i) (hj : 0 ≤ j) (hs : 0 ≤ s) (hsn : s < n) (hin : i + n ≤ 24) (hjn : j + n ≤ 24) (ht : (i < j ∧ t = n - 1 - s) ∨ (¬ i < j ∧ t = s)) (hv : v = f9 (i + t).toNat) : ∀ u, u < 24 → vp_updL g9 (j + t).toNat v.toInt32.toInt64 u = hw_mvs f g i j n (s + 1) u := by
  have ht0 : 0 ≤ t ∧ t < n := by omega
  have hv2 : v = f (i + t).toNat := by
    rcases hf with e | ⟨e1, e2⟩
    · rw [hv, e]
    · rw [hv, e1, h1 _ (by omega), e2]
      unfold hw_mvs
      rw [if_neg]
      omega
  intro u hu
  have hc : v.toInt32.toInt64 = f (i + t).toNat := by rw [hv2]; exact hw_i32_cut (hr _ (by omega))
  rw [hc]
  unfold vp_updL
  by_cases e : u = (j + t).toNat
  · rw [if_pos e]
    unfold hw_mvs
    rw [if_pos (by omega)]
    congr 1; omega
  · rw [if_neg e, h1 u hu]
    unfold hw_mvs
    by_cases h2 : (i < j ∧ j + n - s ≤ (u : Int) ∧ (u : Int) < j + n) ∨ (¬ i < j ∧ j ≤ (u : Int) ∧ (u : Int) < j + s)
    · rw [if_pos h2, if_pos (by omega)]
    · rw [if_neg h2, if_neg (by omega)]
theorem hw_lz_up {f : Nat → Int64} {n k : Nat} (h : ∀ j, j < n → f j = 0) (e : k = n) : ∀ j, j < n + 1 → vp_updL f k 0 j = 0 := by
  intro j hj
  unfold vp_updL
  split
  · rfl
  · exact h j (by omega)
theorem hw_lrems {x y z : Int64} (hx : 0 ≤ x.toInt) (hy : 0 < y.toInt) (e : z = x % y) : 0 ≤ z.toInt ∧ z.toInt < y.toInt := by
  subst e
  rw [Int64.toInt_mod]
  exact ⟨Int.tmod_nonneg _ hx, Int.tmod_lt_of_pos _ hy⟩
theorem hw_gcd0 {x : Int} (h : 0 ≤ x) : (Int.gcd x 0 : Int) = x := by
  rw [Int.gcd_zero]
  omega
theorem hw_labs {x y : Int64} (e : y = if 0 < x then x else -x) (h : -1000000000000 ≤ x.toInt ∧ x.toInt ≤ 1000000000000) : 0 ≤ y.toInt ∧ Int.natAbs y.toInt = Int.natAbs x.toInt := by
  have h0 : (0 : Int64).toInt = 0 := rfl
  by_cases hp : 0 < x
  · rw [if_pos hp] at e
    have := Int64.lt_iff_toInt_lt.mp hp
    subst e
    omega
  · rw [if_neg hp] at e
    have h1 : ¬ (0 : Int64).toInt < x.toInt := fun z => hp (Int64.lt_iff_toInt_lt.mpr z)
    have h2 : y.toInt = -x.toInt := by
      rw [e, Int64.toInt_neg, Int.bmod_eq_of_le (by omega) (by omega)]
    omega
theorem hw_lowgcd {a b x c : Int64} (e : x = if 0 < a then a else -a) (h : -1000000000000 ≤ a.toInt ∧ a.toInt ≤ 1000000000000) (hb : 0 < b.toInt ∧ b.toInt ≤ 24) (hc : 0 ≤ x.toInt → 0 < b.toInt ∧ b.toInt ≤ 24 → c.toInt = (Int.gcd x.toInt b.toInt : Int)) : c = Int64.ofInt (Int.gcd a.toInt b.toInt) ∧ 0 < c.toInt := by
  obtain ⟨h1, h2⟩ := hw_labs e h
  have h3 := hc h1 hb
  have h4 : Int.gcd x.toInt b.toInt = Int.gcd a.toInt b.toInt := by unfold Int.gcd; rw [h2]
  rw [h4] at h3
  refine ⟨hw_gcd_of h3, ?_⟩
  rw [h3]
  have h5 : 0 < Int.gcd a.toInt b.toInt := Int.gcd_pos_of_ne_zero_right _ (by omega)
  omega
def hw_share (f : Nat → Int64) (sz part : Int32) : Int64 := if part.toInt = 0 then hw_low (hw_lsum f sz.toNatClampNeg) sz.toInt64 part + 100000000000 else hw_low (hw_lsum f sz.toNatClampNeg) sz.toInt64 part
theorem hw_sumrng {f : Nat → Int64} {sz : Int32} (h : ∀ u, u < 24 → hw_i32 (f u)) (h2 : 0 < sz.toInt ∧ sz.toInt ≤ 24) : -1000000000000 ≤ (hw_lsum f sz.toNatClampNeg).toInt ∧ (hw_lsum f sz.toNatClampNeg).toInt ≤ 1000000000000 := by
  have e : sz.toNatClampNeg = sz.toInt.toNat := rfl
  have h3 := hw_lsum_rng (f := f) (n := sz.toNatClampNeg) (by omega) (fun u hu => h u (by omega))
  omega
theorem hw_share_of {f : Nat → Int64} {sz part : Int32} {sm b told : Int64} (hsm : 0 ≤ sz.toInt ∧ sz.toInt ≤ 24 → sm = hw_lsum f sz.toNatClampNeg) (hsl : b = sz.toInt64) (hlw : -1000000000000 ≤ sm.toInt ∧ sm.toInt ≤ 1000000000000 → 0 < b.toInt ∧ b.toInt ≤ 24 → told = hw_low sm b part) (h : ∀ u, u < 24 → hw_i32 (f u)) (h2 : 0 < sz.toInt ∧ sz.toInt ≤ 24) : told = hw_low (hw_lsum f sz.toNatClampNeg) sz.toInt64 part := by
  have e := hsm (by omega)
  have h3 := hw_sumrng h h2
  have e2 : b.toInt = sz.toInt := by rw [hsl, Int32.toInt_toInt64]
  rw [hlw (by rw [e]; exact h3) (by omega), e, hsl]
theorem hw_tf {tt t9 : Nat → Nat → Int64} {a b : Nat} (h : ∀ j, j ≠ b → t9 j = tt j) : t9 a = tt a ∨ (t9 a = t9 b ∧ tt a = tt b) := by
  by_cases e : a = b
  · subst e
    exact Or.inr ⟨rfl, rfl⟩
  · exact Or.inl (h a e)
-- the model's side
def hw_zm (f : Nat → Int64) (a n : Int) : Nat → Int64 := fun u => if a ≤ (u : Int) ∧ (u : Int) < a + n then 0 else f u
theorem hw_zm_0 (f : Nat → Int64) (a : Int) : ∀ u : Nat, hw_zm f a 0 u = f u := by
  intro u
  unfold hw_zm
  rw [if_neg (by omega)]
theorem hw_zm_up {f g : Nat → Int64} {a n : Int} {k : Nat} (h : ∀ u, g u = hw_zm f a n u) (hk : k = (a + n).toNat) (h0 : 0 ≤ a) (h1 : 0 ≤ n) : ∀ u, vp_updL g k 0 u = hw_zm f a (n + 1) u := by
  intro u
  unfold vp_updL hw_zm
  by_cases e : u = k
  · rw [if_pos e, if_pos (by omega)]
  · rw [if_neg e, h u]
    unfold hw_zm
    by_cases h2 : a ≤ (u : Int) ∧ (u : Int) < a + n
    · rw [if_pos h2, if_pos (by omega)]
    · rw [if_neg h2, if_neg (by omega)]
theorem hw_updL_ne {f : Nat → Int64} {k u : Nat} (x : Int64) (h : u ≠ k) : vp_updL f k x u = f u := by
  unfold vp_updL
  rw [if_neg h]
theorem hw_held_up {g f : Nat → Int64} {a s : Int} {k : Nat} {x : Int64} (h : ∀ u : Nat, (u : Int) < s → g u = f (a + u).toNat) (hk : k = s.toNat) (hs : 0 ≤ s) (hx : x = f (a + s).toNat) : ∀ u : Nat, (u : Int) < s + 1 → vp_updL g k x u = f (a + u).toNat := by
  intro u hu
  unfold vp_updL
  by_cases e : u = k
  · rw [if_pos e, hx]
    congr 1; omega
  · rw [if_neg e]
    exact h u (by omega)
theorem hw_mv_0 (f : Nat → Int64) (a b : Int) : ∀ u : Nat, hw_mv f f a b 0 u = f u := by
  intro u
  unfold hw_mv
  rw [if_neg (by omega)]
theorem hw_mv_up {f g : Nat → Int64} {a b s : Int} {k : Nat} {x : Int64} (h : ∀ u, g u = hw_mv f f a b s u) (hk : k = (b + s).toNat) (hb : 0 ≤ b) (hs : 0 ≤ s) (hx : x = f (a + s).toNat) : ∀ u, vp_updL g k x u = hw_mv f f a b (s + 1) u := by
  intro u
  unfold vp_updL
  by_cases e : u = k
  · rw [if_pos e, hx]
    unfold hw_mv
    rw [if_pos (by omega)]
    congr 1; omega
  · rw [if_neg e, h u]
    unfold hw_mv
    by_cases h2 : b ≤ (u : Int) ∧ (u : Int) < b + s
    · rw [if_pos h2, if_pos (by omega)]
    · rw [if_neg h2, if_neg (by omega)]
theorem hw_hdv {f hd : Nat → Int64} {A n : Int} {y : Int32} (h : ∀ u : Nat, (u : Int) < n → hd u = f (A + u).toNat) (h0 : 0 ≤ y.toInt) (h1 : y.toInt < n) : hd y.toNatClampNeg = f (A + y.toInt).toNat := by
  have e : (y.toNatClampNeg : Int) = y.toInt := by show ((y.toInt.toNat : Nat) : Int) = _; omega
  rw [h _ (by omega), e]
theorem hw_frow {p : Int32} {j i : Nat} (hj : j ≠ p.toNatClampNeg) (h0 : 0 ≤ p.toInt) (hi : i < 24) : ((24 * j + i : Nat) : Int) < 24 * p.toInt ∨ 24 * p.toInt + 24 ≤ ((24 * j + i : Nat) : Int) := by
  have e : p.toNatClampNeg = p.toInt.toNat := rfl
  omega
theorem hw_sumrng2 {f : Nat → Int64} {sz : Int32} (h : ∀ u, u < sz.toNatClampNeg → hw_i32 (f u)) (h2 : 0 < sz.toInt ∧ sz.toInt ≤ 24) : -1000000000000 ≤ (hw_lsum f sz.toNatClampNeg).toInt ∧ (hw_lsum f sz.toNatClampNeg).toInt ≤ 1000000000000 := by
  have e : sz.toNatClampNeg = sz.toInt.toNat := rfl
  have h3 := hw_lsum_rng (f := f) (n := sz.toNatClampNeg) (by omega) h
  omega
theorem hw_lneg2 {x y : Int64} (e : y = -x) (h : x.toInt < 0) (hr : -1000000000000 ≤ x.toInt) : 0 ≤ y.toInt ∧ Int.natAbs y.toInt = Int.natAbs x.toInt := by
  have h2 : y.toInt = -x.toInt := by
    rw [e, Int64.toInt_neg, Int.bmod_eq_of_le (by omega) (by omega)]
  omega
theorem hw_gcdabs {x y b : Int} (h : Int.natAbs x = Int.natAbs y) : Int.gcd x b = Int.gcd y b := by
  unfold Int.gcd
  rw [h]
theorem hw_shareM {f : Nat → Int64} {sz part : Int32} {x above : Int64} (ha : above = hw_lsum f sz.toNatClampNeg) (hx : x.toInt = (Int.gcd above.toInt sz.toInt : Int)) : (part.toInt = 0 → above / x + 100000000000 = hw_share f sz part) ∧ (part.toInt = 1 → sz.toInt64 / x = hw_share f sz part) := by
  have e : x = Int64.ofInt (Int.gcd above.toInt sz.toInt64.toInt) := by
    rw [Int32.toInt_toInt64, ← hx, Int64.ofInt_toInt]
  constructor
  · intro h
    unfold hw_share hw_low
    rw [if_pos h, if_pos h, e, ha]
  · intro h
    unfold hw_share hw_low
    rw [if_neg (by omega), if_neg (by omega), e, ha]
-- both sides' things of the racks of ints are alike
def hw_relT (la sz9 : Nat → Int32) (tt : Nat → Nat → Int64) (g : Nat → Int64) : Prop := ∀ j, j < 4 → (la j).toInt = 2 → (sz9 j).toInt ≤ 24 ∧ (∀ u, u < 24 → hw_i32 (tt j u)) ∧ ∀ i : Nat, (i : Int) < (sz9 j).toInt → g (24 * j + i) = tt j i
theorem hw_relT_0 (tt : Nat → Nat → Int64) (g : Nat → Int64) : hw_relT (fun _ => -1) (fun _ => 0) tt g := by
  intro j _ h
  exact absurd (show (-1 : Int32).toInt = 2 from h) (by decide)
theorem hw_relT_rack {la sz9 : Nat → Int32} {tt tt2 : Nat → Nat → Int64} {g g2 : Nat → Int64} {p1 p2 p3 : Int32} (h : hw_relT la sz9 tt g) (h1 : 0 ≤ p1.toInt ∧ p1.toInt ≤ 3) (h3 : 0 ≤ p3.toInt ∧ p3.toInt ≤ 24) (hz : ∀ u, u < 24 → tt2 p1.toNatClampNeg u = 0) (ho : ∀ j, j ≠ p1.toNatClampNeg → tt2 j = tt j) (hm : ∀ u : Nat, g2 u = hw_zm g (24 * p1.toInt) p3.toInt u) : hw_relT (va_up la p1.toNatClampNeg p2) (va_up sz9 p1.toNatClampNeg p3) tt2 g2 := by
  have e1 : p1.toNatClampNeg = p1.toInt.toNat := rfl
  intro j hj hl
  by_cases e : j = p1.toNatClampNeg
  · subst e
    rw [va_up_self]
    refine ⟨h3.2, fun u hu => by rw [hz u hu]; exact hw_i32_0, fun i hi => ?_⟩
    rw [hm, hz i (by omega)]
    unfold hw_zm
    rw [if_pos (by omega)]
  · rw [va_up_ne la _ e] at hl
    obtain ⟨h4, h5, h6⟩ := h j hj hl
    rw [va_up_ne sz9 _ e, ho j e]
    refine ⟨h4, h5, fun i hi => ?_⟩
    rw [hm]
    unfold hw_zm
    rw [if_neg (by omega)]
    exact h6 i hi
theorem hw_relT_hang {la sz9 : Nat → Int32} {tt tt2 : Nat → Nat → Int64} {g g2 : Nat → Int64} {p1 p2 p3 : Int32} {v : Int64} (h : hw_relT la sz9 tt g) (h1 : 0 ≤ p1.toInt ∧ p1.toInt ≤ 3) (hl2 : (la p1.toNatClampNeg).toInt = p2.toInt) (hs : 0 ≤ p3.toInt ∧ p3.toInt + 1 ≤ (sz9 p1.toNatClampNeg).toInt) (hc : (la p1.toNatClampNeg).toInt = 2 → tt2 p1.toNatClampNeg = vp_updL (tt p1.toNatClampNeg) p3.toNatClampNeg v.toInt32.toInt64) (ho : ∀ j, j ≠ p1.toNatClampNeg → tt2 j = tt j) (hm : p2.toInt = 2 → g2 = vp_updL g (24 * p1.toInt + p3.toInt).toNat v.toInt32.toInt64) (hn : ∀ u : Nat, (u : Int) < 24 * p1.toInt ∨ 24 * p1.toInt + 24 ≤ (u : Int) → g2 u = g u) : hw_relT la sz9 tt2 g2 := by
  have e1 : p1.toNatClampNeg = p1.toInt.toNat := rfl
  have e3 : p3.toNatClampNeg = p3.toInt.toNat := rfl
  intro j hj hl
  obtain ⟨h4, h5, h6⟩ := h j hj hl
  refine ⟨h4, ?_⟩
  by_cases e : j = p1.toNatClampNeg
  · subst e
    rw [hc hl, hm (by omega)]
    refine ⟨fun u hu => ?_, fun i hi => ?_⟩
    · unfold vp_updL
      split
      · exact hw_i32_of _
      · exact h5 u hu
    · unfold vp_updL
      by_cases e2 : i = p3.toNatClampNeg
      · rw [if_pos e2, if_pos (by omega)]
      · rw [if_neg e2, if_neg (by omega)]
        exact h6 i hi
  · rw [ho j e]
    refine ⟨h5, fun i hi => ?_⟩
    rw [hn _ (by omega)]
    exact h6 i hi
theorem hw_relT_copy {la sz9 : Nat → Int32} {tt tt2 : Nat → Nat → Int64} {g g2 : Nat → Int64} {p1 p2 p3 p4 p5 : Int32} (h : hw_relT la sz9 tt g) (h24 : ∀ j, j < 4 → (la j).toInt ≠ -1 → 0 ≤ (sz9 j).toInt ∧ (sz9 j).toInt ≤ 24) (h1 : 0 ≤ p1.toInt ∧ p1.toInt ≤ 3) (h3 : 0 ≤ p3.toInt ∧ p3.toInt ≤ 3) (hl3 : (la p3.toNatClampNeg).toInt ≠ -1) (hll : (la p1.toNatClampNeg).toInt = (la p3.toNatClampNeg).toInt) (hs : 0 ≤ p5.toInt ∧ 0 ≤ p2.toInt ∧ 0 ≤ p4.toInt ∧ p2.toInt + p5.toInt ≤ (sz9 p1.toNatClampNeg).toInt ∧ p4.toInt + p5.toInt ≤ (sz9 p3.toNatClampNeg).toInt) (ho : ∀ j, j ≠ p3.toNatClampNeg → tt2 j = tt j) (hc : (la p3.toNatClampNeg).toInt = 2 → (∀ u, u < 24 → hw_i32 (tt p1.toNatClampNeg u)) → ∀ u, u < 24 → tt2 p3.toNatClampNeg u = hw_mv (tt p1.toNatClampNeg) (tt p3.toNatClampNeg) p2.toInt p4.toInt p5.toInt u) (hm : ∀ u : Nat, g2 u = hw_mv g g (24 * p1.toInt + p2.toInt) (24 * p3.toInt + p4.toInt) p5.toInt u) : hw_relT la sz9 tt2 g2 := by
  have e1 : p1.toNatClampNeg = p1.toInt.toNat := rfl
  have e3 : p3.toNatClampNeg = p3.toInt.toNat := rfl
  have hs3 := h24 _ (show p3.toNatClampNeg < 4 by omega) hl3
  have hs1 := h24 _ (show p1.toNatClampNeg < 4 by omega) (by omega)
  intro j hj hl
  obtain ⟨h4, h5, h6⟩ := h j hj hl
  refine ⟨h4, ?_⟩
  by_cases e : j = p3.toNatClampNeg
  · subst e
    obtain ⟨k4, k5, k6⟩ := h _ (show p1.toNatClampNeg < 4 by omega) (by omega)
    have hc2 := hc hl k5
    refine ⟨fun u hu => ?_, fun i hi => ?_⟩
    · rw [hc2 u hu]
      unfold hw_mv
      split
      · exact k5 _ (by omega)
      · exact h5 u hu
    · rw [hc2 i (by omega), hm]
      unfold hw_mv
      by_cases e2 : p4.toInt ≤ (i : Int) ∧ (i : Int) < p4.toInt + p5.toInt
      · rw [if_pos e2, if_pos (by omega)]
        rw [← k6 (p2.toInt + (i : Int) - p4.toInt).toNat (by omega)]
        congr 1; omega
      · rw [if_neg e2, if_neg (by omega)]
        exact h6 i hi
  · rw [ho j e]
    refine ⟨h5, fun i hi => ?_⟩
    rw [hm]
    unfold hw_mv
    rw [if_neg (by omega)]
    exact h6 i hi
theorem hw_relT_film {la sz9 fla : Nat → Int32} {tt tt2 : Nat → Nat → Int64} {g g2 : Nat → Int64} (h : hw_relT la sz9 tt g) (hf : ∀ j, j < 4 → (la j).toInt ≠ -1 → (fla j).toInt = (la j).toInt) (hc : ∀ j, j < 4 → (la j).toInt = 2 → tt2 j = tt j) (hm : ∀ j : Nat, j < 4 → (fla j).toInt = 2 → ∀ i : Nat, i < 24 → g2 (24 * j + i) = g (24 * j + i)) : hw_relT la sz9 tt2 g2 := by
  intro j hj hl
  obtain ⟨h4, h5, h6⟩ := h j hj hl
  have h7 := hf j hj (by omega)
  rw [hc j hj hl]
  refine ⟨h4, h5, fun i hi => ?_⟩
  rw [hm j hj (by omega) i (by omega)]
  exact h6 i hi
theorem hw_relT_drop {la sz9 : Nat → Int32} {tt : Nat → Nat → Int64} {g : Nat → Int64} {p : Nat} {v : Int32} (h : hw_relT la sz9 tt g) : hw_relT (va_up la p (-1)) (va_up sz9 p v) tt g := by
  intro j hj hl
  by_cases e : j = p
  · subst e
    rw [va_up_self] at hl
    exact absurd hl (by decide)
  · rw [va_up_ne la _ e] at hl
    rw [va_up_ne sz9 _ e]
    exact h j hj hl
theorem hw_share_sum {f f2 : Nat → Int64} {sz part : Int32} (h : hw_lsum f sz.toNatClampNeg = hw_lsum f2 sz.toNatClampNeg) : hw_share f sz part = hw_share f2 sz part := by
  unfold hw_share
  rw [h]
theorem hw_share_eq {la sz9 fsz : Nat → Int32} {tt : Nat → Nat → Int64} {g : Nat → Int64} {p1 p2 : Int32} {r r2 : Int64} (hrt : hw_relT la sz9 tt g) (hsz : (fsz p1.toNatClampNeg).toInt = (sz9 p1.toNatClampNeg).toInt) (h1 : 0 ≤ p1.toInt ∧ p1.toInt ≤ 3) (hl : (la p1.toNatClampNeg).toInt = 2) (hp : 0 < (fsz p1.toNatClampNeg).toInt) (hc : (∀ u, u < 24 → hw_i32 (tt p1.toNatClampNeg u)) → 0 < (sz9 p1.toNatClampNeg).toInt ∧ (sz9 p1.toNatClampNeg).toInt ≤ 24 → r = hw_share (tt p1.toNatClampNeg) (sz9 p1.toNatClampNeg) p2) (hm : (∀ u, u < (fsz p1.toNatClampNeg).toNatClampNeg → hw_i32 (g (24 * p1.toNatClampNeg + u))) → 0 < (fsz p1.toNatClampNeg).toInt → r2 = hw_share (fun u => g (24 * p1.toNatClampNeg + u)) (fsz p1.toNatClampNeg) p2) : r.toInt = r2.toInt := by
  have e1 : p1.toNatClampNeg = p1.toInt.toNat := rfl
  obtain ⟨h4, h5, h6⟩ := hrt _ (show p1.toNatClampNeg < 4 by omega) hl
  have e : fsz p1.toNatClampNeg = sz9 p1.toNatClampNeg := Int32.toInt_inj.mp hsz
  have ec : (sz9 p1.toNatClampNeg).toNatClampNeg = (sz9 p1.toNatClampNeg).toInt.toNat := rfl
  rw [e] at hm hp
  rw [hc h5 ⟨hp, h4⟩, hm (fun u hu => by rw [h6 u (by omega)]; exact h5 u (by omega)) hp]
  rw [hw_share_sum (hw_lsum_eq (fun u hu => (h6 u (by omega)).symm))]
theorem hw_hz24 {la sz9 fla fsz : Nat → Int32} (h : ∀ j, j < 4 → ((la j).toInt = -1 ↔ (fsz j).toInt < 0) ∧ ((la j).toInt ≠ -1 → (fla j).toInt = (la j).toInt ∧ (fsz j).toInt = (sz9 j).toInt)) (q : ∀ j, j < 4 → -1 ≤ (fsz j).toInt ∧ (fsz j).toInt ≤ 24) : ∀ j, j < 4 → (la j).toInt ≠ -1 → 0 ≤ (sz9 j).toInt ∧ (sz9 j).toInt ≤ 24 := by
  intro j hj hl
  obtain ⟨h1, h2⟩ := h j hj
  have h3 := q j hj
  have h4 := h2 hl
  omega
