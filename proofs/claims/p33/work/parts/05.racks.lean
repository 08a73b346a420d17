/-! my own: the racks, told by lanes and sizes; a call into one row alone -/
def hw_Racks (D : hw_D) (G : Nat → Nat) (f : Nat → Option Nat) (la sz : Nat → Int32) (H : Heap) : Prop :=
  (∀ i j, i < 4 → j < 4 → f i = f j → i = j) ∧ ∀ j, j < 4 → ∃ (a : Nat) (r : Nat → Nat), f j = some a ∧ G a = 6 ∧ hw_RK G r ∧ va_at D.1 vwCl (a, .inr (6, hw_LK r (la j) (sz j))) H
theorem hw_Racks.kept {D : hw_D} {G : Nat → Nat} {f : Nat → Option Nat} {la sz : Nat → Int32} {H H1 : Heap} (h : hw_Racks D G f la sz H) (oq : ∀ q, G q = 6 → q < H.size → H1[q]? = H[q]?) : hw_Racks D G f la sz H1 := by
  refine ⟨h.1, fun j hj => ?_⟩
  obtain ⟨a, r, h1, h2, h3, h4⟩ := h.2 j hj
  exact ⟨a, r, h1, h2, h3, h4.kept (oq a h2 h4.lt)⟩
theorem hw_Racks.set {D : hw_D} {G : Nat → Nat} {f : Nat → Option Nat} {la sz : Nat → Int32} {H H1 : Heap} {i b : Nat} {r : Nat → Nat} {u v : Int32} (h : hw_Racks D G f la sz H) (hi : i < 4) (hb : f i = some b) (hk : G b = 6) (hR : hw_RK G r) (hv : va_at D.1 vwCl (b, .inr (6, hw_LK r u v)) H1) (oq : ∀ q, q ≠ b → G q = 6 → q < H.size → H1[q]? = H[q]?) : hw_Racks D G f (va_up la i u) (va_up sz i v) H1 := by
  refine ⟨h.1, fun j hj => ?_⟩
  by_cases e : j = i
  · subst e
    exact ⟨b, r, hb, hk, hR, by rw [va_up_self, va_up_self]; exact hv⟩
  · obtain ⟨a, r2, h1, h2, h3, h4⟩ := h.2 j hj
    refine ⟨a, r2, h1, h2, h3, ?_⟩
    rw [va_up_ne la u e, va_up_ne sz v e]
    refine h4.kept (oq a (fun e2 => e (h.1 j i hj hi ?_)) h2 h4.lt)
    rw [h1, hb, e2]
/-- the kinds of one row and its things alone -/
def hw_G6 (a t : Nat) : Nat → Nat := fun q => if q = a then 6 else if q = t then 19 else 0
theorem hw_G6_a (a t : Nat) : hw_G6 a t a = 6 := if_pos rfl
theorem hw_G6_t {a t : Nat} (h : t ≠ a) : hw_G6 a t t = 19 := by unfold hw_G6; rw [if_neg h, if_pos rfl]
theorem hw_G6_R {G : Nat → Nat} {a : Nat} {r : Nat → Nat} (hk : G a = 6) (hR : hw_RK G r) : hw_RK (hw_G6 a (r 0)) r := by
  have h := hw_RK_0 hR
  exact hw_G6_t (fun e => by rw [e, hk] at h; cases h)
theorem hw_G6_sub {G : Nat → Nat} {a : Nat} {r : Nat → Nat} (hk : G a = 6) (hR : hw_RK G r) : ∀ q, hw_G6 a (r 0) q ≠ 0 → G q = hw_G6 a (r 0) q := by
  intro q hq
  unfold hw_G6 at hq ⊢
  split
  · rename_i e
    rw [e, hk]
  · split
    · rename_i e
      rw [e, hw_RK_0 hR]
    · rename_i h1 h2
      rw [if_neg h1, if_neg h2] at hq
      exact absurd rfl hq
theorem hw_G6_HT {D : hw_D} {G : Nat → Nat} {H : Heap} {a : Nat} {r : Nat → Nat} {u v : Int32} (h : hw_HT D G H) (hk : G a = 6) (hR : hw_RK G r) (hv : va_at D.1 vwCl (a, .inr (6, hw_LK r u v)) H) : hw_HT D (hw_G6 a (r 0)) H := by
  intro q hq
  have hs := hw_G6_sub hk hR q hq
  by_cases e : q = a
  · subst e
    refine ⟨_, ?_, hv⟩
    rw [hw_G6_a]
    exact ⟨r, u, v, rfl, hw_G6_R hk hR⟩
  · by_cases e2 : q = r 0
    · subst e2
      obtain ⟨f, hf⟩ := h.a19 (hw_RK_0 hR)
      refine ⟨_, ?_, hf⟩
      rw [hw_G6_t e]
      exact ⟨f, rfl⟩
    · unfold hw_G6 at hq
      rw [if_neg e, if_neg e2] at hq
      exact absurd rfl hq
/-- a heap of fewer kinds comes back into the whole one -/
theorem hw_HT.merge {D : hw_D} {G G1 : Nat → Nat} {WR : List Nat} {H H1 : Heap} (h : hw_HT D G H) (h1 : hw_HT D G1 H1) (hs : ∀ q, G1 q ≠ 0 → G q = G1 q) (oq : ∀ q : Nat, q < H.size → ¬ hw_AW G1 WR H.size q → H1[q]? = H[q]?) (h0 : 0 ∉ WR) : hw_HT D G H1 := by
  intro q hq
  by_cases e : G1 q = 0
  · obtain ⟨x, h2, h3⟩ := h q hq
    refine ⟨x, h2, h3.kept (oq q h3.lt ?_)⟩
    intro z
    rcases z with z | z
    · rw [e] at z
      exact h0 z
    · exact absurd h3.lt (Nat.not_lt.mpr z)
  · obtain ⟨x, h2, h3⟩ := h1 q e
    rw [hs q e]
    exact ⟨x, hw_ok_mono (fun q h _ => hs q h) _ x h2, h3⟩
theorem hw_AWsub2 {G G0 : Nat → Nat} {WR WR0 : List Nat} {sz sz1 : Nat} (hw : ∀ k ∈ WR, k ∈ WR0) (h0 : 0 ∉ WR) (hs : ∀ q, G q ≠ 0 → G0 q = G q) (hz : sz ≤ sz1) : ∀ q, hw_AW G WR sz1 q → hw_AW G0 WR0 sz q := by
  intro q h
  rcases h with h | h
  · exact Or.inl (by rw [hs q (fun e => h0 (by rw [← e]; exact h))]; exact hw _ h)
  · exact Or.inr (Nat.le_trans hz h)
theorem hw_i4 {x : Int32} (h : 0 ≤ x.toInt ∧ x.toInt ≤ 3) : x.toNatClampNeg < 4 := by
  have : x.toNatClampNeg = x.toInt.toNat := rfl
  omega
-- all sets below one, met and joined
def hw_orU : Nat → Int32
  | 0 => 0
  | n + 1 => hw_orU n ||| nI n
def hw_andU : Nat → Int32
  | 0 => 511
  | n + 1 => hw_andU n &&& nI n
theorem hw_orU_512 : hw_orU 512 = 511 := by decide +kernel
theorem hw_andU_512 : hw_andU 512 = 0 := by decide +kernel
theorem hw_nIc {x : Int32} (h : 0 ≤ x.toInt) (h2 : x.toInt < 600) : nI x.toNatClampNeg = x := by
  obtain ⟨j, hj, e⟩ := vp_in_of (n := 600) (hw_in h (by omega)) (by decide)
  rw [e, nI_clamp (by omega)]
theorem hw_cls {x y : Int32} (h0 : 0 ≤ x.toInt) (h : y.toInt = x.toInt + 1) : y.toNatClampNeg = x.toNatClampNeg + 1 := by
  have e1 : x.toNatClampNeg = x.toInt.toNat := rfl
  have e2 : y.toNatClampNeg = y.toInt.toNat := rfl
  omega
theorem hw_AWn2 {G G0 : Nat → Nat} {WR : List Nat} {sz q k : Nat} (hs : ∀ q, G q ≠ 0 → G0 q = G q) (h0 : 0 ∉ WR) (hk : G0 q = k) (hn : k ∉ WR) (hl : q < sz) : ¬ hw_AW G WR sz q := by
  intro h
  rcases h with h | h
  · have e := hs q (fun e => h0 (by rw [← e]; exact h))
    exact hn (by rw [← hk, e]; exact h)
  · omega
theorem hw_G6_six {a t q : Nat} (h : hw_G6 a t q = 6) : q = a := by
  unfold hw_G6 at h
  split at h
  · assumption
  · split at h
    · cases h
    · cases h
theorem hw_Racks.setG6 {D : hw_D} {G : Nat → Nat} {f : Nat → Option Nat} {la sz : Nat → Int32} {H H1 : Heap} {i b : Nat} {r : Nat → Nat} {u v : Int32} (h : hw_Racks D G f la sz H) (hi : i < 4) (hb : f i = some b) (hk : G b = 6) (hR : hw_RK G r) (hv : va_at D.1 vwCl (b, .inr (6, hw_LK r u v)) H1) (oq : ∀ q : Nat, q < H.size → ¬ hw_AW (hw_G6 b (r 0)) [6, 19] H.size q → H1[q]? = H[q]?) : hw_Racks D G f (va_up la i u) (va_up sz i v) H1 := by
  refine h.set hi hb hk hR hv (fun q h1 h2 h3 => oq q h3 ?_)
  intro z
  rcases z with z | z
  · have e : hw_G6 b (r 0) q ≠ 0 := fun e => by rw [e] at z; exact absurd z (by decide)
    have e2 := hw_G6_sub hk hR q e
    exact h1 (hw_G6_six (by rw [← e2, h2]))
  · omega
theorem hw_shr0 (x : Int32) : x >>> ((0 : Int32) &&& 31) = x := by simp
