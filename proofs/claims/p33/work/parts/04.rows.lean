/-! my own rows over the heap of kinds -/
def hw_AW (G : Nat → Nat) (WR : List Nat) (sz : Nat) : Nat → Prop := fun q => G q ∈ WR ∨ sz ≤ q
def hw_NG (G : Nat → Nat) (sz : Nat) : Nat → Prop := fun q => G q ≠ 0 ∨ sz ≤ q
theorem hw_AWn {G : Nat → Nat} {WR : List Nat} {sz q k : Nat} (hk : G q = k) (hn : k ∉ WR) (hl : q < sz) : ¬ hw_AW G WR sz q := by
  intro h
  rcases h with h | h
  · rw [hk] at h
    exact hn h
  · omega
theorem hw_AWi {G : Nat → Nat} {WR : List Nat} {sz q k : Nat} (hk : G q = k) (hn : k ∈ WR) : hw_AW G WR sz q := Or.inl (by rw [hk]; exact hn)
theorem hw_ne {G : Nat → Nat} {a b i j : Nat} (h1 : G a = i) (h2 : G b = j) (h : i ≠ j) : a ≠ b := fun e => h (by rw [← h1, ← h2, e])
theorem hw_lt {D : hw_D} {cl : List vw_C} {a : Nat} {e : va_E} {H : Heap} (h : va_at D.1 cl (a, e) H) : a < H.size := h.lt
theorem hw_1 {D : va_G} {cl : List vw_C} {q : Nat × va_E} {H : Heap} (h : va_at D cl q H) : va_P D cl [q] H := by
  intro k x hx
  have hz : k < 1 := (List.getElem?_eq_some_iff.mp hx).1
  rw [show k = 0 by omega] at hx
  cases hx
  exact h
theorem hw_HT.set {D : hw_D} {G : Nat → Nat} {H H1 : Heap} {a : Nat} {e : va_E} (h : hw_HT D G H) (oq : ∀ q, q ≠ a → H1[q]? = H[q]?) (hv : va_at D.1 vwCl (a, e) H1) (hok : G a ≠ 0 → hw_ok D.2.1 G (G a) e) : hw_HT D G H1 := by
  intro q hq
  by_cases e1 : q = a
  · subst e1
    exact ⟨e, hok hq, hv⟩
  · obtain ⟨x, h1, h2⟩ := h q hq
    exact ⟨x, h1, h2.kept (oq q e1)⟩
theorem hw_HT.lt {D : hw_D} {G : Nat → Nat} {H : Heap} {a : Nat} (h : hw_HT D G H) (hq : G a ≠ 0) : a < H.size := by
  obtain ⟨e, -, hv⟩ := h a hq
  exact hv.lt
theorem hw_HT.grow {D : hw_D} {G : Nat → Nat} {H H1 : Heap} (h : hw_HT D G H) (oq : ∀ q, q < H.size → H1[q]? = H[q]?) : hw_HT D G H1 := by
  intro q hq
  obtain ⟨x, h1, h2⟩ := h q hq
  exact ⟨x, h1, h2.kept (oq q h2.lt)⟩
/-- a cell comes among those of a kind -/
theorem hw_HT.add {D : hw_D} {G : Nat → Nat} {H : Heap} {a k : Nat} {e : va_E} (h : hw_HT D G H) (h0 : G a = 0) (hv : va_at D.1 vwCl (a, e) H) (hok : hw_ok D.2.1 G k e) : hw_HT D (va_up G a k) H ∧ ∀ q, G q ≠ 0 → va_up G a k q = G q := by
  have hm : ∀ q, G q ≠ 0 → va_up G a k q = G q := fun q hq => va_up_ne G k (fun e1 => hq (by rw [e1]; exact h0))
  refine ⟨fun q hq => ?_, hm⟩
  by_cases e1 : q = a
  · subst e1
    rw [va_up_self]
    exact ⟨e, hw_ok_mono (fun q h _ => hm q h) k e hok, hv⟩
  · rw [va_up_ne G k e1] at hq ⊢
    obtain ⟨x, h1, h2⟩ := h q hq
    exact ⟨x, hw_ok_mono (fun q h _ => hm q h) _ x h1, h2⟩
-- what the statics hold
def hw_tH : List Int32 := [-1, -1, -1, -1, 511, -1, -1, -1, 511, 9, -1, -1, 511, -1, -1, -1, 511, 9, -1, -1, 99, 511, 3, 30, 99, -1, -1, -1, 99, -1, -1, -1]
def hw_tW : List Int32 := [1, 0, 0, 0, 0, 0, 0, 0, 1, 1, 0, 0, 0, 0, 0, 0, 1, 2, 1, 0, 0, 0, 0, 0, 1, 3, 3, 1, 0, 0, 0, 0, 1, 4, 6, 4, 1, 0, 0, 0, 1, 5, 10, 10, 5, 1, 0, 0, 1, 6, 15, 20, 15, 6, 1, 0, 1, 7, 21, 35, 35, 21, 7, 1]
def hw_sl : List Nat := [4, 5, 5, 6, 5, 4, 6, 4]
def hw_sb : List (List Int32) := [[108, 97, 110, 100], [98, 114, 97, 115, 115], [114, 117, 115, 116, 121], [109, 97, 115, 116, 101, 114], [102, 105, 108, 101, 100], [108, 111, 99, 107], [119, 97, 108, 107, 101, 114], [100, 97, 114, 107]]
def hw_sp : List Nat := [101, 103, 105, 107, 109, 111, 113, 115]
def hw_sx : List String := ["land", "brass", "rusty", "master", "filed", "lock", "walker", "dark"]
/-- the tables' words that are no words of a method's own list -/
def hw_EX (U : State) : Prop := va_Nw (.methodLinkNest RX11 9 yX1_init "WardWalkers") U ∧ va_Nw (.methodLinkNest RX11 18 yX10_init "WardWalkers") U ∧ va_Nw (.methodLinkNest RX11 25 yX9_init "WardWalkers") U ∧ va_Nw (.methodLinkNest RX11 50 yX6_init "WardWalkers") U ∧ va_Nw (.methodLinkNest RX11 61 yX7_init "WardWalkers") U ∧ va_Nw (.methodLinkNest RX6 69 yX11_minutesBetween "WardWalkers") U ∧ va_Nw (.declares ⟨"WardWalkers$Key", "edge", "(I)I"⟩) U ∧ va_Nw (.declares ⟨"WardWalkers$Key", "room", "(I)I"⟩) U ∧ va_Nw (.declares ⟨"WardWalkers$Key", "kindNumber", "()I"⟩) U ∧ va_Nw (.castable RX0 RX3) U ∧ va_Nw (.castable RX2 RX3) U ∧ va_Nw (.castable RX5 RX3) U ∧ va_Nw (.castable RX8 RX3) U ∧ va_Nw (.castable RX8 RX0) U ∧ va_Nw (.castable RX5 RX0) U ∧ va_Nc RX2 RX0 U ∧ va_Nc RX0 RX8 U ∧ va_Nc RX5 RX8 U ∧ va_Nc RX2 RX8 U ∧ va_Nc RX0 RX5 U ∧ va_Nc RX8 RX5 U ∧ va_Nc RX2 RX5 U ∧ va_Nc RX0 RX2 U ∧ va_Nc RX5 RX2 U ∧ va_Nc RX8 RX2 U ∧ va_AO "WardWalkers$Key" U ∧ va_AO "WardWalkers$Lock" U ∧ va_AO "WardWalkers$Standing" U ∧ va_AO "WardWalkers$Text" U ∧ va_AO "WardWalkers$Rack" U
theorem hw_en9 {U : State} (h : hw_EX U) : va_Nw (.methodLinkNest RX11 9 yX1_init "WardWalkers") U := h.1
theorem hw_en18 {U : State} (h : hw_EX U) : va_Nw (.methodLinkNest RX11 18 yX10_init "WardWalkers") U := h.2.1
theorem hw_en25 {U : State} (h : hw_EX U) : va_Nw (.methodLinkNest RX11 25 yX9_init "WardWalkers") U := h.2.2.1
theorem hw_en50 {U : State} (h : hw_EX U) : va_Nw (.methodLinkNest RX11 50 yX6_init "WardWalkers") U := h.2.2.2.1
theorem hw_en61 {U : State} (h : hw_EX U) : va_Nw (.methodLinkNest RX11 61 yX7_init "WardWalkers") U := h.2.2.2.2.1
theorem hw_en69 {U : State} (h : hw_EX U) : va_Nw (.methodLinkNest RX6 69 yX11_minutesBetween "WardWalkers") U := h.2.2.2.2.2.1
theorem hw_ed_edge {U : State} (h : hw_EX U) : va_Nw (.declares ⟨"WardWalkers$Key", "edge", "(I)I"⟩) U := h.2.2.2.2.2.2.1
theorem hw_ed_room {U : State} (h : hw_EX U) : va_Nw (.declares ⟨"WardWalkers$Key", "room", "(I)I"⟩) U := h.2.2.2.2.2.2.2.1
theorem hw_ed_kindNumber {U : State} (h : hw_EX U) : va_Nw (.declares ⟨"WardWalkers$Key", "kindNumber", "()I"⟩) U := h.2.2.2.2.2.2.2.2.1
theorem hw_ec_X0_X3 {U : State} (h : hw_EX U) : va_Nw (.castable RX0 RX3) U := h.2.2.2.2.2.2.2.2.2.1
theorem hw_ec_X2_X3 {U : State} (h : hw_EX U) : va_Nw (.castable RX2 RX3) U := h.2.2.2.2.2.2.2.2.2.2.1
theorem hw_ec_X5_X3 {U : State} (h : hw_EX U) : va_Nw (.castable RX5 RX3) U := h.2.2.2.2.2.2.2.2.2.2.2.1
theorem hw_ec_X8_X3 {U : State} (h : hw_EX U) : va_Nw (.castable RX8 RX3) U := h.2.2.2.2.2.2.2.2.2.2.2.2.1
theorem hw_ec_X8_X0 {U : State} (h : hw_EX U) : va_Nw (.castable RX8 RX0) U := h.2.2.2.2.2.2.2.2.2.2.2.2.2.1
theorem hw_ec_X5_X0 {U : State} (h : hw_EX U) : va_Nw (.castable RX5 RX0) U := h.2.2.2.2.2.2.2.2.2.2.2.2.2.2.1
theorem hw_ex_X2_X0 {U : State} (h : hw_EX U) : va_Nc RX2 RX0 U := h.2.2.2.2.2.2.2.2.2.2.2.2.2.2.2.1
theorem hw_ex_X0_X8 {U : State} (h : hw_EX U) : va_Nc RX0 RX8 U := h.2.2.2.2.2.2.2.2.2.2.2.2.2.2.2.2.1
theorem hw_ex_X5_X8 {U : State} (h : hw_EX U) : va_Nc RX5 RX8 U := h.2.2.2.2.2.2.2.2.2.2.2.2.2.2.2.2.2.1
theorem hw_ex_X2_X8 {U : State} (h : hw_EX U) : va_Nc RX2 RX8 U := h.2.2.2.2.2.2.2.2.2.2.2.2.2.2.2.2.2.2.1
theorem hw_ex_X0_X5 {U : State} (h : hw_EX U) : va_Nc RX0 RX5 U := h.2.2.2.2.2.2.2.2.2.2.2.2.2.2.2.2.2.2.2.1
theorem hw_ex_X8_X5 {U : State} (h : hw_EX U) : va_Nc RX8 RX5 U := h.2.2.2.2.2.2.2.2.2.2.2.2.2.2.2.2.2.2.2.2.1
theorem hw_ex_X2_X5 {U : State} (h : hw_EX U) : va_Nc RX2 RX5 U := h.2.2.2.2.2.2.2.2.2.2.2.2.2.2.2.2.2.2.2.2.2.1
theorem hw_ex_X0_X2 {U : State} (h : hw_EX U) : va_Nc RX0 RX2 U := h.2.2.2.2.2.2.2.2.2.2.2.2.2.2.2.2.2.2.2.2.2.2.1
theorem hw_ex_X5_X2 {U : State} (h : hw_EX U) : va_Nc RX5 RX2 U := h.2.2.2.2.2.2.2.2.2.2.2.2.2.2.2.2.2.2.2.2.2.2.2.1
theorem hw_ex_X8_X2 {U : State} (h : hw_EX U) : va_Nc RX8 RX2 U := h.2.2.2.2.2.2.2.2.2.2.2.2.2.2.2.2.2.2.2.2.2.2.2.2.1
theorem hw_eo_Key {U : State} (h : hw_EX U) : va_AO "WardWalkers$Key" U := h.2.2.2.2.2.2.2.2.2.2.2.2.2.2.2.2.2.2.2.2.2.2.2.2.2.1
theorem hw_eo_Lock {U : State} (h : hw_EX U) : va_AO "WardWalkers$Lock" U := h.2.2.2.2.2.2.2.2.2.2.2.2.2.2.2.2.2.2.2.2.2.2.2.2.2.2.1
theorem hw_eo_Standing {U : State} (h : hw_EX U) : va_AO "WardWalkers$Standing" U := h.2.2.2.2.2.2.2.2.2.2.2.2.2.2.2.2.2.2.2.2.2.2.2.2.2.2.2.1
theorem hw_eo_Text {U : State} (h : hw_EX U) : va_AO "WardWalkers$Text" U := h.2.2.2.2.2.2.2.2.2.2.2.2.2.2.2.2.2.2.2.2.2.2.2.2.2.2.2.2.1
theorem hw_eo_Rack {U : State} (h : hw_EX U) : va_AO "WardWalkers$Rack" U := h.2.2.2.2.2.2.2.2.2.2.2.2.2.2.2.2.2.2.2.2.2.2.2.2.2.2.2.2.2
theorem hw_EX.warm {s U : State} (hW : s.WarmedH U.vm) (h : hw_EX s) : hw_EX U := ⟨va_Nw.warmM hW (hw_en9 h), va_Nw.warmM hW (hw_en18 h), va_Nw.warmM hW (hw_en25 h), va_Nw.warmM hW (hw_en50 h), va_Nw.warmM hW (hw_en61 h), va_Nw.warmM hW (hw_en69 h), va_Nw.warmD hW (hw_ed_edge h), va_Nw.warmD hW (hw_ed_room h), va_Nw.warmD hW (hw_ed_kindNumber h), va_Nw.warmC hW (hw_ec_X0_X3 h), va_Nw.warmC hW (hw_ec_X2_X3 h), va_Nw.warmC hW (hw_ec_X5_X3 h), va_Nw.warmC hW (hw_ec_X8_X3 h), va_Nw.warmC hW (hw_ec_X8_X0 h), va_Nw.warmC hW (hw_ec_X5_X0 h), va_Nc.moved hW.alike (hw_ex_X2_X0 h), va_Nc.moved hW.alike (hw_ex_X0_X8 h), va_Nc.moved hW.alike (hw_ex_X5_X8 h), va_Nc.moved hW.alike (hw_ex_X2_X8 h), va_Nc.moved hW.alike (hw_ex_X0_X5 h), va_Nc.moved hW.alike (hw_ex_X8_X5 h), va_Nc.moved hW.alike (hw_ex_X2_X5 h), va_Nc.moved hW.alike (hw_ex_X0_X2 h), va_Nc.moved hW.alike (hw_ex_X5_X2 h), va_Nc.moved hW.alike (hw_ex_X8_X2 h), va_AO.moved hW.alike (hw_eo_Key h), va_AO.moved hW.alike (hw_eo_Lock h), va_AO.moved hW.alike (hw_eo_Standing h), va_AO.moved hW.alike (hw_eo_Text h), va_AO.moved hW.alike (hw_eo_Rack h)⟩
theorem hw_EX.blind {U : State} (h : hw_EX U) (g : JFrame) (mk : MethodId) (a : Array Value) : hw_EX (U.calling g mk a) := ⟨va_Nw.same rfl rfl (hw_en9 h), va_Nw.same rfl rfl (hw_en18 h), va_Nw.same rfl rfl (hw_en25 h), va_Nw.same rfl rfl (hw_en50 h), va_Nw.same rfl rfl (hw_en61 h), va_Nw.same rfl rfl (hw_en69 h), va_Nw.same rfl rfl (hw_ed_edge h), va_Nw.same rfl rfl (hw_ed_room h), va_Nw.same rfl rfl (hw_ed_kindNumber h), va_Nw.same rfl rfl (hw_ec_X0_X3 h), va_Nw.same rfl rfl (hw_ec_X2_X3 h), va_Nw.same rfl rfl (hw_ec_X5_X3 h), va_Nw.same rfl rfl (hw_ec_X8_X3 h), va_Nw.same rfl rfl (hw_ec_X8_X0 h), va_Nw.same rfl rfl (hw_ec_X5_X0 h), va_Nc.moved (u := U) (U := U.calling g mk a) (Vm.Alike.refl U.vm) (hw_ex_X2_X0 h), va_Nc.moved (u := U) (U := U.calling g mk a) (Vm.Alike.refl U.vm) (hw_ex_X0_X8 h), va_Nc.moved (u := U) (U := U.calling g mk a) (Vm.Alike.refl U.vm) (hw_ex_X5_X8 h), va_Nc.moved (u := U) (U := U.calling g mk a) (Vm.Alike.refl U.vm) (hw_ex_X2_X8 h), va_Nc.moved (u := U) (U := U.calling g mk a) (Vm.Alike.refl U.vm) (hw_ex_X0_X5 h), va_Nc.moved (u := U) (U := U.calling g mk a) (Vm.Alike.refl U.vm) (hw_ex_X8_X5 h), va_Nc.moved (u := U) (U := U.calling g mk a) (Vm.Alike.refl U.vm) (hw_ex_X2_X5 h), va_Nc.moved (u := U) (U := U.calling g mk a) (Vm.Alike.refl U.vm) (hw_ex_X0_X2 h), va_Nc.moved (u := U) (U := U.calling g mk a) (Vm.Alike.refl U.vm) (hw_ex_X5_X2 h), va_Nc.moved (u := U) (U := U.calling g mk a) (Vm.Alike.refl U.vm) (hw_ex_X8_X2 h), va_AO.moved (u := U) (U := U.calling g mk a) (Vm.Alike.refl U.vm) (hw_eo_Key h), va_AO.moved (u := U) (U := U.calling g mk a) (Vm.Alike.refl U.vm) (hw_eo_Lock h), va_AO.moved (u := U) (U := U.calling g mk a) (Vm.Alike.refl U.vm) (hw_eo_Standing h), va_AO.moved (u := U) (U := U.calling g mk a) (Vm.Alike.refl U.vm) (hw_eo_Text h), va_AO.moved (u := U) (U := U.calling g mk a) (Vm.Alike.refl U.vm) (hw_eo_Rack h)⟩
def hw_ST (d : Nat → Nat) (G : Nat → Nat) (sz : Nat) (U : State) : Prop :=
  va_Z "WardWalkers$Text" "HIGHEST" "[I" (.ref (d 0)) (hw_NG G sz) U U.heap ∧ va_T .int (d 0) 32 (fun j => .int (hw_tH.getD j 0)) (hw_NG G sz) U U.heap ∧
  va_Z "WardWalkers" "WAYS" "[I" (.ref (d 1)) (hw_NG G sz) U U.heap ∧ va_T .int (d 1) 64 (fun j => .int (hw_tW.getD j 0)) (hw_NG G sz) U U.heap ∧
  va_Z "java/lang/String" "COMPACT_STRINGS" "Z" (.int 1) (hw_NG G sz) U U.heap ∧ va_Zq "jdk/internal/util/Preconditions" "SIOOBE_FORMATTER" "Ljava/util/function/BiFunction;" (hw_NG G sz) U U.heap ∧
  vk_S 8 hw_sl hw_sb (fun i => d (2 + i)) (fun i => d (10 + i)) (hw_NG G sz) U U.heap ∧ (∀ i, i < 8 → vk_R "WardWalkers$Text" (hw_sp.getD i 0) (hw_sx.getD i "") (d (2 + i)) U) ∧ hw_EX U
theorem hw_NGsub {G0 : Nat → Nat} {WR : List Nat} {sz : Nat} (h0 : 0 ∉ WR) : ∀ q, hw_AW G0 WR sz q → hw_NG G0 sz q := by
  intro q h
  rcases h with h | h
  · exact Or.inl (fun e => h0 (by rw [← e]; exact h))
  · exact Or.inr h
theorem hw_ST.ex {d : Nat → Nat} {G : Nat → Nat} {sz : Nat} {U : State} (h : hw_ST d G sz U) : hw_EX U := h.2.2.2.2.2.2.2.2
theorem hw_ST.go {d : Nat → Nat} {G G0 : Nat → Nat} {WR : List Nat} {s U : State} {H : Heap} {locs : List Loc} (h : hw_ST d G0 s.heap.size s) (hS : va_S (hw_AW G0 WR s.heap.size) s.heap H locs) (h0 : 0 ∉ WR) (hG : ∀ q, G q ≠ 0 → hw_NG G0 s.heap.size q) (hU : U.heap = H) (hW : s.WarmedH U.vm) : hw_ST d G H.size U := by
  obtain ⟨h1, h2, h3, h4, h5, h6, h7, h8, h9⟩ := h
  have hk : ∀ a : Nat, a < s.heap.size → ¬ hw_NG G0 s.heap.size a → U.heap[a]? = s.heap[a]? := fun a h1 h2 => by rw [hU]; exact hS.2.1 a h1 (fun z => h2 (hw_NGsub h0 a z))
  have hn : ∀ q, hw_NG G H.size q → hw_NG G0 s.heap.size q := fun q z => z.elim (hG q) (fun z => Or.inr (Nat.le_trans hS.1 z))
  have hv := hW.alike
  exact ⟨((h1.moved hv).kept hk).narrow hn, ((h2.moved hv).kept hk).narrow hn, ((h3.moved hv).kept hk).narrow hn, ((h4.moved hv).kept hk).narrow hn, ((h5.moved hv).kept hk).narrow hn, ((h6.moved hv).kept hk).narrow hn, ((h7.moved hv).kept hk).narrow hn, fun i hi => (h8 i hi).warm hW, h9.warm hW⟩
theorem hw_ST.blind {d : Nat → Nat} {G : Nat → Nat} {sz : Nat} {U : State} (h : hw_ST d G sz U) (g : JFrame) (mk : MethodId) (a : Array Value) : hw_ST d G sz (U.calling g mk a) := by
  obtain ⟨h1, h2, h3, h4, h5, h6, h7, h8, h9⟩ := h
  exact ⟨va_Z.moved (u := U) (U := U.calling g mk a) (Vm.Alike.refl U.vm) h1, va_T.moved (u := U) (U := U.calling g mk a) (Vm.Alike.refl U.vm) h2, va_Z.moved (u := U) (U := U.calling g mk a) (Vm.Alike.refl U.vm) h3, va_T.moved (u := U) (U := U.calling g mk a) (Vm.Alike.refl U.vm) h4, va_Z.moved (u := U) (U := U.calling g mk a) (Vm.Alike.refl U.vm) h5, va_Zq.moved (u := U) (U := U.calling g mk a) (Vm.Alike.refl U.vm) h6, vk_S.moved (u := U) (U := U.calling g mk a) (Vm.Alike.refl U.vm) h7, fun i hi => vk_R.same (u := U) (U := U.calling g mk a) rfl (h8 i hi), h9.blind g mk a⟩
/-- a contract's start -/
def hw_PC (D : hw_D) (G : Nat → Nat) (As : List Value) (sz : Nat) (F : Heap → Prop) : Array Value → State → Prop := va_Pc As (fun U => U.heap.size = sz ∧ hw_HT D G U.heap ∧ va_K D.1 vwCl (hw_ty D.2.1) U ∧ hw_ST D.2.2 G sz U ∧ F U.heap)
theorem hw_PC.blind {D : hw_D} {G : Nat → Nat} {As : List Value} {sz : Nat} {F : Heap → Prop} : FrameBlind (hw_PC D G As sz F) := by
  intro a U g mk h
  obtain ⟨h1, h2, h3, h4, h5, h6⟩ := h
  exact ⟨h1, h2, h3, va_K.moved (u := U) (U := U.calling g mk a) (Vm.Alike.refl U.vm) h4, h5.blind g mk a, h6⟩
/-- a contract's end: a method that only reads -/
def hw_QR (post : Value → Prop) : Array Value → State → Outcome → State → Prop := fun _ st oc t => ∃ v, oc = .returned (some v) ∧ post v ∧ t.heap = st.heap
/-- and one that changes cells -/
def hw_QM (post : Option Value → Heap → Prop) (A : Nat → Prop) : Array Value → State → Outcome → State → Prop := fun _ st oc t => (∃ v, oc = .returned v ∧ post v t.heap) ∧ va_F A st t
section HWA
variable {p : Program} {l : Launch} {e : Env} {R : Room} {s : State} {m : MethodId} {args : Array Value} {below : List Frame} {meth : Method} {c : Code} {H : Heap} {locs : List Loc} {cells slots : Nat} {Q : State → Prop}
variable {pc : Nat} {ls : Array Slot} {rest st0 : List Value} {a : Array Value} {A0 A1 : Nat → Prop} {mc ms : Nat}
theorem hw_cR {post : Value → Prop} (hr : va_Run p l e R s m args below meth c H locs cells slots 0 0 (F0 m pc ls st0) rest (hw_QR post a) (fun _ => False))
    (kk : ∀ v : Value, post v → W p l e R s m args below meth c H locs cells slots Q (F0 m (pc + 3) ls (v :: rest))) : W p l e R s m args below meth c H locs cells slots Q (F0 m pc ls st0) := by
  intro T hT X
  obtain ⟨v, st₀, t, T', L, h0, X', hL, e1, e2, ⟨w, hv, hp, hh⟩, st⟩ := hr T hT X
  cases hv
  obtain ⟨t2, a1, b1⟩ := kk w hp T' (by rw [e1, hh, h0]) (Stand.forget X' (fun q h => (hL q h).elim))
  exact ⟨t2, st t2 a1, b1⟩
theorem hw_cM {post : Option Value → Heap → Prop} (hr : va_Run p l e R s m args below meth c H locs cells slots mc ms (F0 m pc ls st0) rest (hw_QM post A1 a) A1) (hS : va_S A0 s.heap H locs) (hA : ∀ q, A1 q → A0 q)
    (kk : ∀ (v : Option Value) (H1 : Heap) (locs1 : List Loc), post v H1 → H.size ≤ H1.size → (∀ q : Nat, q < H.size → ¬ A1 q → H1[q]? = H[q]?) → va_S A0 s.heap H1 locs1 → W p l e R s m args below meth c H1 locs1 (cells + mc) (slots + ms) Q (F0 m (pc + 3) ls (v.toList ++ rest))) : W p l e R s m args below meth c H locs cells slots Q (F0 m pc ls st0) := by
  intro T hT X
  obtain ⟨v, st₀, t, T', L, h0, X', hL, e1, e2, ⟨⟨w, hv, hp⟩, hz, hk⟩, st⟩ := hr T hT X
  cases hv
  rw [h0] at hz hk
  rw [← e1] at hz hk hp
  obtain ⟨t2, a1, b1⟩ := kk v T'.heap (locs ++ L) hp hz hk
    ⟨Nat.le_trans hS.1 hz, fun q h1 h2 => by rw [hk q (Nat.lt_of_lt_of_le h1 hS.1) (fun z => h2 (hA q z))]; exact hS.2.1 q h1 h2, fun q hq => by
      rcases List.mem_append.mp hq with h | h
      · exact hS.2.2 q h
      · exact hA _ (hL q h)⟩ T' rfl X'
  exact ⟨t2, st t2 a1, b1⟩
end HWA
theorem hw_AWsub {G G0 : Nat → Nat} {WR WR0 : List Nat} {sz sz1 : Nat} (hw : ∀ k ∈ WR, k ∈ WR0) (hG : ∀ q, q < sz → G q = G0 q) (hz : sz ≤ sz1) : ∀ q, hw_AW G WR sz1 q → hw_AW G0 WR0 sz q := by
  intro q h
  rcases Nat.lt_or_ge q sz with h1 | h1
  · rcases h with h | h
    · exact Or.inl (by rw [← hG q h1]; exact hw _ h)
    · omega
  · exact Or.inr h1
theorem hw_pV {D : hw_D} {G G0 : Nat → Nat} {WR : List Nat} {s : State} {H : Heap} {locs : List Loc} {C : String} {b : Nat} {As : List Value} {F : Heap → Prop} (hrecv : ∃ cellB : Cell, H[b]? = some cellB ∧ cellB.vm.isStatics = false ∧ s.vm.findClass C = some cellB.cls) (hH : hw_HT D G H) (hK : va_K D.1 vwCl (hw_ty D.2.1) s) (hST : hw_ST D.2.2 G0 s.heap.size s) (hS : va_S (hw_AW G0 WR s.heap.size) s.heap H locs) (h0 : 0 ∉ WR) (hG : ∀ q, G q ≠ 0 → hw_NG G0 s.heap.size q) (hF : F H) : PreV s H C b (hw_PC D G (.ref b :: As) H.size F) As :=
  ⟨hw_PC.blind, hrecv, fun U hU hW => ⟨rfl, by rw [hU], by rw [hU]; exact hH, hK.moved hW.alike, hST.go hS h0 hG hU hW, by rw [hU]; exact hF⟩⟩
theorem hw_pS {D : hw_D} {G G0 : Nat → Nat} {WR : List Nat} {s : State} {H : Heap} {locs : List Loc} {As : List Value} {F : Heap → Prop} (hH : hw_HT D G H) (hK : va_K D.1 vwCl (hw_ty D.2.1) s) (hST : hw_ST D.2.2 G0 s.heap.size s) (hS : va_S (hw_AW G0 WR s.heap.size) s.heap H locs) (h0 : 0 ∉ WR) (hG : ∀ q, G q ≠ 0 → hw_NG G0 s.heap.size q) (hF : F H) : PreS s H (hw_PC D G As H.size F) As :=
  ⟨hw_PC.blind, fun U hU hW => ⟨rfl, by rw [hU], by rw [hU]; exact hH, hK.moved hW.alike, hST.go hS h0 hG hU hW, by rw [hU]; exact hF⟩⟩
theorem hw_rc {D : hw_D} {s : State} {H : Heap} {a ci : Nat} {q : vw_C} {fs : List Value} (hK : va_K D.1 vwCl (hw_ty D.2.1) s) (hv : va_at D.1 vwCl (a, .inr (ci, fs)) H) (hc : vwCl[ci]? = some q) : ∃ cell : Cell, H[a]? = some cell ∧ cell.vm.isStatics = false ∧ s.vm.findClass q.1 = some cell.cls := va_recv hK (hw_1 hv) (q0 := 0) hc rfl
-- fields: what a method's own class says of a place in its pool
def hw_FG (s : State) (args : Array Value) (m : MethodId) (index ci k : Nat) : Prop := ∃ (own ref C : String) (T : u_T) (N : Nat), (∀ w ∈ u_ws C T N, w.before args s = true) ∧ s.vm.findClass own = some m.cls ∧ vwCl[ci]? = some (C, T, N) ∧ k < N ∧ (Cond.fieldLink own index ref (T k).2.1 (T k).2.2.1).before args s = true ∧ ∀ x, s.fieldFound? (T k).1 (T k).2.1 (T k).2.2.1 = some x → s.fieldFound? ref (T k).2.1 (T k).2.2.1 = some x
def hw_FP (s : State) (args : Array Value) (m : MethodId) (index ci k : Nat) (fin : Bool) (ty : FieldType) : Prop := ∃ (own ref C : String) (T : u_T) (N : Nat) (ty0 : Nat → FieldType), (∀ w ∈ u_ws C T N, w.before args s = true) ∧ s.vm.findClass own = some m.cls ∧ vwCl[ci]? = some (C, T, N) ∧ k < N ∧ (Cond.fieldLink own index ref (T k).2.1 (T k).2.2.1).before args s = true ∧ (∀ x, s.fieldFound? (T k).1 (T k).2.1 (T k).2.2.1 = some x → s.fieldFound? ref (T k).2.1 (T k).2.2.1 = some x) ∧ (∀ k, k < N → parseFieldDescriptor (T k).2.2.1 = some (ty0 k)) ∧ (∀ a, a < N → ∀ b, b < N → a ≠ b → (T a).2.1 ≠ (T b).2.1) ∧ (T k).2.2.2 = fin ∧ (fin = true → (T k).1 = own) ∧ parseFieldDescriptor (T k).2.2.1 = some ty
section HWB
variable {p : Program} {l : Launch} {e : Env} {R : Room} {s : State} {m : MethodId} {args : Array Value} {below : List Frame} {meth : Method} {c : Code} {H : Heap} {locs : List Loc} {cells slots : Nat} {Q : State → Prop}
variable {cc : ByteArray} {pc : Nat} {ls : Array Slot} {rest : List Value} {D : hw_D} {G : Nat → Nat} {A : Nat → Prop} {a : Nat}
theorem hw_get (hx : p.tables.exec = Jvm.exec) (hb : c.code = cc) {index ci k : Nat} (hf : hw_FG s args m index ci k) (hK : va_K D.1 vwCl (hw_ty D.2.1) s) {fs : List Value} (hv : va_at D.1 vwCl (a, .inr (ci, fs)) H) {v : Value} (hk : fs[k]? = some v) (hdg : decode cc pc = .ok (.getfield index, 3))
    (kk : W p l e R s m args below meth c H locs cells slots Q (F0 m (pc + 3) ls (v :: rest))) : W p l e R s m args below meth c H locs cells slots Q (F0 m pc ls (.ref a :: rest)) := by
  obtain ⟨own, ref, C, T, N, h1, h2, h3, h4, h5, h6⟩ := hf
  exact va_get hx hb h1 (fun w hw => hw) h2 hK (hw_1 hv) 0 rfl h3 k h4 h5 h6 hk hdg kk
theorem hw_put (hx : p.tables.exec = Jvm.exec) (hb : c.code = cc) {index ci k : Nat} {ty : FieldType} (hf : hw_FP s args m index ci k false ty) (hK : va_K D.1 vwCl (hw_ty D.2.1) s) (hH : hw_HT D G H) {fs fs' : List Value} (hv : va_at D.1 vwCl (a, .inr (ci, fs)) H) {v : Value} (hl : k < fs.length) (hs : fs.set k v = fs') (hn : narrow ty v = v) (hfit : fits ty v = true) (hok : G a ≠ 0 → hw_ok D.2.1 G (G a) (.inr (ci, fs'))) (hS : va_S A s.heap H locs) (hA : A a) (hdg : decode cc pc = .ok (.putfield index, 3))
    (kk : ∀ (H1 : Heap) (locs1 : List Loc), hw_HT D G H1 → va_at D.1 vwCl (a, .inr (ci, fs')) H1 → (∀ q : Nat, q ≠ a → H1[q]? = H[q]?) → H1.size = H.size → va_S A s.heap H1 locs1 → W p l e R s m args below meth c H1 locs1 cells slots Q (F0 m (pc + 3) ls rest)) : W p l e R s m args below meth c H locs cells slots Q (F0 m pc ls (v :: .ref a :: rest)) := by
  subst hs
  obtain ⟨own, ref, C, T, N, ty0, hts, hown, hc, hkN, hlink, hsame, hty, hnm, hfin, -, hd⟩ := hf
  have hin : ∀ w ∈ u_ws C T N, w ∈ u_ws C T N := fun w hw => hw
  have hap := va_apart (own := own) (D := D.1) hts hin ty0 hty hnm hK hc
  obtain ⟨r, h1, cell, q1, q2, q3, q4⟩ := hv
  have hr : r = (C, T, N) := Option.some.inj (h1.symm.trans hc)
  subst hr
  obtain ⟨hSl, hfc, kC, hkC, hkind⟩ := hK.1 ci _ hc
  obtain ⟨cf, kf, fi, f, hi, hsl⟩ := hSl k hkN
  have hlay := hts _ (hin _ (u_in_lay hkN))
  unfold u_lay at hlay
  rw [if_neg (by rw [hfin]; decide)] at hlay
  have hst := (u_facts hfc hkC (u_lays hts hin hkN) hi).1
  have h6 := u_store hfc hkC hkind hlay hi hd hn hfit
  refine W.putK hx hb (f := f) ⟨hown, hlink, ⟨_, _, _, hsame _ hi⟩, hst⟩ (by rw [q2]; exact h6) q1 q3 (by rw [hsl]; exact k2_hasslot (q4 k hkN)) rfl rfl hdg fun H' e1 e2 e3 => ?_
  rw [hsl] at e1 ⊢
  have hv' : va_at D.1 vwCl (a, .inr (ci, fs.set k v)) H' := ⟨_, hc, t_OB.to (V := updV (vp_V fs) k v) ⟨_, e1, q2, q3, t_set q4 hap hkN v⟩ (fun j _ => vp_updV_set hl v j)⟩
  exact kk H' _ (hH.set e3 hv' hok) hv' e3 e2 (hS.put e2 e3 hA)
theorem hw_putF (hx : p.tables.exec = Jvm.exec) (hb : c.code = cc) {index ci k : Nat} {ty : FieldType} (hf : hw_FP s args m index ci k true ty) (hin2 : meth.name = "<init>") (hK : va_K D.1 vwCl (hw_ty D.2.1) s) (hH : hw_HT D G H) {fs fs' : List Value} (hv : va_at D.1 vwCl (a, .inr (ci, fs)) H) {v : Value} (hl : k < fs.length) (hs : fs.set k v = fs') (hn : narrow ty v = v) (hfit : fits ty v = true) (hok : G a ≠ 0 → hw_ok D.2.1 G (G a) (.inr (ci, fs'))) (hS : va_S A s.heap H locs) (hA : A a) (hdg : decode cc pc = .ok (.putfield index, 3))
    (kk : ∀ (H1 : Heap) (locs1 : List Loc), hw_HT D G H1 → va_at D.1 vwCl (a, .inr (ci, fs')) H1 → (∀ q : Nat, q ≠ a → H1[q]? = H[q]?) → H1.size = H.size → va_S A s.heap H1 locs1 → W p l e R s m args below meth c H1 locs1 cells slots Q (F0 m (pc + 3) ls rest)) : W p l e R s m args below meth c H locs cells slots Q (F0 m pc ls (v :: .ref a :: rest)) := by
  subst hs
  obtain ⟨own, ref, C, T, N, ty0, hts, hown, hc, hkN, hlink, hsame, hty, hnm, hfin, hdecl, hd⟩ := hf
  have hin : ∀ w ∈ u_ws C T N, w ∈ u_ws C T N := fun w hw => hw
  have hap := va_apart (own := own) (D := D.1) hts hin ty0 hty hnm hK hc
  obtain ⟨r, h1, cell, q1, q2, q3, q4⟩ := hv
  have hr : r = (C, T, N) := Option.some.inj (h1.symm.trans hc)
  subst hr
  obtain ⟨hSl, hfc, kC, hkC, hkind⟩ := hK.1 ci _ hc
  obtain ⟨cf, kf, fi, f, hi, hsl⟩ := hSl k hkN
  have hlay := hts _ (hin _ (u_in_lay hkN))
  unfold u_lay at hlay
  rw [if_pos hfin] at hlay
  have hst := (u_facts hfc hkC (u_lays hts hin hkN) hi).1
  have hcf : m.cls = cf := by
    obtain ⟨_, _, c', _, _, _, -, -, hf', -, -, -, hown2, -⟩ := Cond.laysFinal_spec hlay
    have e1 : c' = cf := by have := hi.symm.trans hf'; simp at this; exact this.1.symm
    rw [hdecl rfl] at hown2
    rw [← e1]; exact Option.some.inj (hown.symm.trans hown2)
  have h6 := u_fits hfc hkC hkind (Or.inr hlay) hi hd hn hfit
  refine W.putFinK hx hb hown hlink (hsame _ hi) hst hcf hin2 (by rw [q2]; exact h6) q1 q3 (by rw [hsl]; exact k2_hasslot (q4 k hkN)) rfl rfl hdg fun H' e1 e2 e3 => ?_
  rw [hsl] at e1 ⊢
  have hv' : va_at D.1 vwCl (a, .inr (ci, fs.set k v)) H' := ⟨_, hc, t_OB.to (V := updV (vp_V fs) k v) ⟨_, e1, q2, q3, t_set q4 hap hkN v⟩ (fun j _ => vp_updV_set hl v j)⟩
  exact kk H' _ (hH.set e3 hv' hok) hv' e3 e2 (hS.put e2 e3 hA)
theorem hw_iald (hx : p.tables.exec = Jvm.exec) (hb : c.code = cc) (hK : va_K D.1 vwCl (hw_ty D.2.1) s) {n : Nat} {f : Nat → Int32} (hv : va_at D.1 vwCl (a, .inl (D.2.1 0, n, .inl f)) H) {i : Int32} (hi : vp_in i n) (hdg : decode cc pc = .ok (.iaload, 1))
    (kk : W p l e R s m args below meth c H locs cells slots Q (F0 m (pc + 1) ls (.int (f i.toNatClampNeg) :: rest))) : W p l e R s m args below meth c H locs cells slots Q (F0 m pc ls (.int i :: .ref a :: rest)) := va_iald hx hb hK (hw_1 hv) 0 0 rfl rfl hi hdg kk
theorem hw_zald (hx : p.tables.exec = Jvm.exec) (hb : c.code = cc) (hK : va_K D.1 vwCl (hw_ty D.2.1) s) {n : Nat} {f : Nat → Int32} (hv : va_at D.1 vwCl (a, .inl (D.2.1 2, n, .inl f)) H) {i : Int32} (hi : vp_in i n) (hdg : decode cc pc = .ok (.baload, 1))
    (kk : W p l e R s m args below meth c H locs cells slots Q (F0 m (pc + 1) ls (.int (f i.toNatClampNeg) :: rest))) : W p l e R s m args below meth c H locs cells slots Q (F0 m pc ls (.int i :: .ref a :: rest)) := va_zald hx hb hK (hw_1 hv) 0 2 rfl rfl hi hdg kk
theorem hw_lald (hx : p.tables.exec = Jvm.exec) (hb : c.code = cc) (hK : va_K D.1 vwCl (hw_ty D.2.1) s) {n : Nat} {f : Nat → Int64} (hv : va_at D.1 vwCl (a, .inl (D.2.1 1, n, .inr (.inl f))) H) {i : Int32} (hi : vp_in i n) (hdg : decode cc pc = .ok (.laload, 1))
    (kk : W p l e R s m args below meth c H locs cells slots Q (F0 m (pc + 1) ls (.long (f i.toNatClampNeg) :: rest))) : W p l e R s m args below meth c H locs cells slots Q (F0 m pc ls (.int i :: .ref a :: rest)) := va_lald hx hb hK (hw_1 hv) 0 1 rfl rfl hi hdg kk
theorem hw_aald (hx : p.tables.exec = Jvm.exec) (hb : c.code = cc) (hK : va_K D.1 vwCl (hw_ty D.2.1) s) {n t : Nat} {C : String} {f : Nat → Option Nat} (hv : va_at D.1 vwCl (a, .inl (D.2.1 t, n, .inr (.inr (.inr (.inr f))))) H) (ht : (hw_ty D.2.1)[t]? = some (D.2.1 t, .object C)) {i : Int32} (hi : vp_in i n) (hdg : decode cc pc = .ok (.aaload, 1))
    (kk : W p l e R s m args below meth c H locs cells slots Q (F0 m (pc + 1) ls (va_rf (f i.toNatClampNeg) :: rest))) : W p l e R s m args below meth c H locs cells slots Q (F0 m pc ls (.int i :: .ref a :: rest)) := va_aldq hx hb hK (hw_1 hv) 0 t rfl ht hi hdg kk
theorem hw_alen (hx : p.tables.exec = Jvm.exec) (hb : c.code = cc) (hK : va_K D.1 vwCl (hw_ty D.2.1) s) {x : vp_A} {t : Nat} {ty : FieldType} (hv : va_at D.1 vwCl (a, .inl (D.2.1 t, x)) H) (ht : (hw_ty D.2.1)[t]? = some (D.2.1 t, ty)) {v : Int32} (hn : Int32.ofNat x.1 = v) (hdg : decode cc pc = .ok (.arraylength, 1))
    (kk : W p l e R s m args below meth c H locs cells slots Q (F0 m (pc + 1) ls (.int v :: rest))) : W p l e R s m args below meth c H locs cells slots Q (F0 m pc ls (.ref a :: rest)) := va_alen hx hb hK (hw_1 hv) 0 t rfl ht hn hdg kk
theorem hw_iast (hx : p.tables.exec = Jvm.exec) (hb : c.code = cc) (hK : va_K D.1 vwCl (hw_ty D.2.1) s) (hH : hw_HT D G H) {n : Nat} {f : Nat → Int32} (hv : va_at D.1 vwCl (a, .inl (D.2.1 0, n, .inl f)) H) {i x : Int32} (hi : vp_in i n) (hok : G a ≠ 0 → hw_ok D.2.1 G (G a) (.inl (D.2.1 0, n, .inl (upd f i.toNatClampNeg x)))) (hS : va_S A s.heap H locs) (hA : A a) (hdg : decode cc pc = .ok (.iastore, 1))
    (kk : ∀ (H1 : Heap) (locs1 : List Loc), hw_HT D G H1 → va_at D.1 vwCl (a, .inl (D.2.1 0, n, .inl (upd f i.toNatClampNeg x))) H1 → (∀ q : Nat, q ≠ a → H1[q]? = H[q]?) → H1.size = H.size → va_S A s.heap H1 locs1 → W p l e R s m args below meth c H1 locs1 cells slots Q (F0 m (pc + 1) ls rest)) : W p l e R s m args below meth c H locs cells slots Q (F0 m pc ls (.int x :: .int i :: .ref a :: rest)) := by
  refine W.iast hx hb (show H[a]? = some (vp_cell (D.2.1 0) (n, .inl f)) from hv) ((hK.2 0 _ rfl).1 n (fun j => .int (f j))) (fun q => by cases q) (by show ¬ (i < 0 ∨ (arrV _ _ _).slots.size ≤ _); rw [arrV_size]; exact hi) rfl rfl hdg fun H1 e z oq => ?_
  have hv' : va_at D.1 vwCl (a, .inl (D.2.1 0, n, .inl (upd f i.toNatClampNeg x))) H1 := by
    show H1[a]? = some (vp_cell _ _)
    rw [e, vp_cell_i, vp_cell_i, arrV_store]
    congr 2
    funext q
    by_cases hq : q = i.toNatClampNeg
    · subst hq
      simp [updV, upd]
    · simp [updV, upd, hq]
  exact kk H1 _ (hH.set oq hv' hok) hv' oq z (hS.put z oq hA)
theorem hw_zast (hx : p.tables.exec = Jvm.exec) (hb : c.code = cc) (hK : va_K D.1 vwCl (hw_ty D.2.1) s) (hH : hw_HT D G H) {n : Nat} {f : Nat → Int32} (hv : va_at D.1 vwCl (a, .inl (D.2.1 2, n, .inl f)) H) {i x : Int32} (hi : vp_in i n) (hok : G a ≠ 0 → hw_ok D.2.1 G (G a) (.inl (D.2.1 2, n, .inl (upd f i.toNatClampNeg (vp_nar .boolean x))))) (hS : va_S A s.heap H locs) (hA : A a) (hdg : decode cc pc = .ok (.bastore, 1))
    (kk : ∀ (H1 : Heap) (locs1 : List Loc), hw_HT D G H1 → va_at D.1 vwCl (a, .inl (D.2.1 2, n, .inl (upd f i.toNatClampNeg (vp_nar .boolean x)))) H1 → (∀ q : Nat, q ≠ a → H1[q]? = H[q]?) → H1.size = H.size → va_S A s.heap H1 locs1 → W p l e R s m args below meth c H1 locs1 cells slots Q (F0 m (pc + 1) ls rest)) : W p l e R s m args below meth c H locs cells slots Q (F0 m pc ls (.int x :: .int i :: .ref a :: rest)) := by
  refine W.zast hx hb (show H[a]? = some (vp_cell (D.2.1 2) (n, .inl f)) from hv) ((hK.2 2 _ rfl).1 n (fun j => .int (f j))) (fun q => by cases q) (by show ¬ (i < 0 ∨ (arrV _ _ _).slots.size ≤ _); rw [arrV_size]; exact hi) rfl rfl hdg fun H1 e z oq => ?_
  have hv' : va_at D.1 vwCl (a, .inl (D.2.1 2, n, .inl (upd f i.toNatClampNeg (vp_nar .boolean x)))) H1 := by
    show H1[a]? = some (vp_cell _ _)
    rw [e, vp_cell_i, vp_cell_i, arrV_store]
    congr 2
    funext q
    by_cases hq : q = i.toNatClampNeg
    · subst hq
      simp [updV, upd, vp_nar]
      try rfl
    · simp [updV, upd, hq]
  exact kk H1 _ (hH.set oq hv' hok) hv' oq z (hS.put z oq hA)
theorem hw_last (hx : p.tables.exec = Jvm.exec) (hb : c.code = cc) (hK : va_K D.1 vwCl (hw_ty D.2.1) s) (hH : hw_HT D G H) {n : Nat} {f : Nat → Int64} (hv : va_at D.1 vwCl (a, .inl (D.2.1 1, n, .inr (.inl f))) H) {i : Int32} {x : Int64} (hi : vp_in i n) (hok : G a ≠ 0 → hw_ok D.2.1 G (G a) (.inl (D.2.1 1, n, .inr (.inl (vp_updL f i.toNatClampNeg x))))) (hS : va_S A s.heap H locs) (hA : A a) (hdg : decode cc pc = .ok (.lastore, 1))
    (kk : ∀ (H1 : Heap) (locs1 : List Loc), hw_HT D G H1 → va_at D.1 vwCl (a, .inl (D.2.1 1, n, .inr (.inl (vp_updL f i.toNatClampNeg x)))) H1 → (∀ q : Nat, q ≠ a → H1[q]? = H[q]?) → H1.size = H.size → va_S A s.heap H1 locs1 → W p l e R s m args below meth c H1 locs1 cells slots Q (F0 m (pc + 1) ls rest)) : W p l e R s m args below meth c H locs cells slots Q (F0 m pc ls (.long x :: .int i :: .ref a :: rest)) := by
  refine W.last hx hb (show H[a]? = some (vp_cell (D.2.1 1) (n, .inr (.inl f))) from hv) ((hK.2 1 _ rfl).1 n (fun j => .long (f j))) (fun q => by cases q) (by show ¬ (i < 0 ∨ (arrV _ _ _).slots.size ≤ _); rw [arrV_size]; exact hi) rfl rfl hdg fun H1 e z oq => ?_
  have hv' : va_at D.1 vwCl (a, .inl (D.2.1 1, n, .inr (.inl (vp_updL f i.toNatClampNeg x)))) H1 := by
    show H1[a]? = some (vp_cell _ _)
    rw [e, vp_cell_l, vp_cell_l, arrV_store]
    congr 2
    funext q
    by_cases hq : q = i.toNatClampNeg
    · subst hq
      simp [updV, vp_updL]
    · simp [updV, vp_updL, hq]
  exact kk H1 _ (hH.set oq hv' hok) hv' oq z (hS.put z oq hA)
/-- a reference comes to a row of references: its cell is of a class that can lie there -/
theorem hw_aast (hx : p.tables.exec = Jvm.exec) (hb : c.code = cc) (hK : va_K D.1 vwCl (hw_ty D.2.1) s) (hH : hw_HT D G H) {n t v ci : Nat} {C : String} {q : vw_C} {vs : List Value} {f : Nat → Option Nat} (hv : va_at D.1 vwCl (a, .inl (D.2.1 t, n, .inr (.inr (.inr (.inr f))))) H) (ht : (hw_ty D.2.1)[t]? = some (D.2.1 t, .object C)) (hvv : va_at D.1 vwCl (v, .inr (ci, vs)) H) (hc : vwCl[ci]? = some q) (hasg : ∀ comp c0 : ClassId, s.vm.findClass C = some comp → s.vm.findClass q.1 = some c0 → s.vm.assignable c0 comp = true) {i : Int32} (hi : vp_in i n) (hok : G a ≠ 0 → hw_ok D.2.1 G (G a) (.inl (D.2.1 t, n, .inr (.inr (.inr (.inr (va_up f i.toNatClampNeg (some v)))))))) (hS : va_S A s.heap H locs) (hA : A a) (hdg : decode cc pc = .ok (.aastore, 1))
    (kk : ∀ (H1 : Heap) (locs1 : List Loc), hw_HT D G H1 → va_at D.1 vwCl (a, .inl (D.2.1 t, n, .inr (.inr (.inr (.inr (va_up f i.toNatClampNeg (some v))))))) H1 → (∀ q : Nat, q ≠ a → H1[q]? = H[q]?) → H1.size = H.size → va_S A s.heap H1 locs1 → W p l e R s m args below meth c H1 locs1 cells slots Q (F0 m (pc + 1) ls rest)) : W p l e R s m args below meth c H locs cells slots Q (F0 m pc ls (.ref v :: .int i :: .ref a :: rest)) := by
  have hlt : i.toNatClampNeg < n := Nat.not_le.mp fun q => hi (Or.inr q)
  have h0 : ¬ i < 0 := fun q => hi (Or.inl q)
  obtain ⟨cellV, g1, g3, ⟨kC, hkC⟩, hasg⟩ := va_rAny (E := C) hK (hw_1 hvv) (q0 := 0) rfl hc hasg
  obtain ⟨kA, comp, k1, k2, k3, -⟩ := (hK.2 t _ ht).2
  obtain ⟨kE, hkE, -⟩ := Vm.findClass_spec k3
  refine W.aast hx hb (show H[a]? = some (vp_cell (D.2.1 t) (n, .inr (.inr (.inr (.inr f))))) from hv) (fun q h => by cases h) (fun h => by cases h) k1 k2 rfl hkE ⟨h0, by show _ < (arrV _ _ _).slots.size; rw [arrV_size]; exact hlt⟩ g1 (fun q h => by rw [h] at g3; cases g3) hkC (hasg _ k3) rfl rfl hdg fun H1 e z oq => ?_
  have hv' : va_at D.1 vwCl (a, .inl (D.2.1 t, n, .inr (.inr (.inr (.inr (va_up f i.toNatClampNeg (some v))))))) H1 := by
    show H1[a]? = some (vp_cell _ _)
    rw [e, vp_cell_q, vp_cell_q, arrV_store]
    congr 2
    funext q
    by_cases hq : q = i.toNatClampNeg
    · subst hq
      simp [updV, va_up, va_rf]
    · simp [updV, va_up, hq]
  exact kk H1 _ (hH.set oq hv' hok) hv' oq z (hS.put z oq hA)
end HWB
-- whole numbers
theorem hw_ilt {x y : Int32} (h : x < y) : x.toInt < y.toInt := Int32.lt_iff_toInt_lt.mp h
theorem hw_inlt {x y : Int32} (h : ¬ x < y) : y.toInt ≤ x.toInt := by
  have := mt Int32.lt_iff_toInt_lt.mpr h
  omega
theorem hw_ile {x y : Int32} (h : x ≤ y) : x.toInt ≤ y.toInt := Int32.le_iff_toInt_le.mp h
theorem hw_inle {x y : Int32} (h : ¬ x ≤ y) : y.toInt < x.toInt := by
  have := mt Int32.le_iff_toInt_le.mpr h
  omega
theorem hw_ieq {x y : Int32} (h : x = y) : x.toInt = y.toInt := by rw [h]
theorem hw_ine {x y : Int32} (h : ¬ x = y) : x.toInt ≠ y.toInt := fun e => h (Int32.toInt_inj.mp e)
theorem hw_rng (x : Int32) : -2147483648 ≤ x.toInt ∧ x.toInt ≤ 2147483647 := ⟨by have := Int32.le_toInt x; omega, by have := Int32.toInt_lt x; omega⟩
theorem hw_add {x y : Int32} {a b : Int} (hx : x.toInt = a) (hy : y.toInt = b) (h1 : -2147483648 ≤ a + b) (h2 : a + b ≤ 2147483647) : (x + y).toInt = a + b := by
  rw [Int32.toInt_add, hx, hy, Int.bmod_def]
  omega
theorem hw_sub {x y : Int32} {a b : Int} (hx : x.toInt = a) (hy : y.toInt = b) (h1 : -2147483648 ≤ a - b) (h2 : a - b ≤ 2147483647) : (x - y).toInt = a - b := by
  rw [Int32.toInt_sub, hx, hy, Int.bmod_def]
  omega
theorem hw_mul {x y : Int32} {a b : Int} (hx : x.toInt = a) (hy : y.toInt = b) (h1 : -2147483648 ≤ a * b) (h2 : a * b ≤ 2147483647) : (x * y).toInt = a * b := by
  rw [Int32.toInt_mul, hx, hy, Int.bmod_def]
  omega
theorem hw_in {x : Int32} {n : Nat} (h1 : 0 ≤ x.toInt) (h2 : x.toInt < n) : vp_in x n := vp_in_iff.mpr ⟨h1, h2⟩
theorem hw_cl {x : Int32} {n : Nat} (h : x.toInt = n) : x.toNatClampNeg = n := by
  show x.toInt.toNat = n
  omega

-- a method's entry and its ends
theorem hw_ofWF {l : Launch} {y : MethodName} {ws ws' : List Cond} {rm : Room} {Pc : Array Value → State → Prop} {Qc : Array Value → State → Outcome → State → Prop} {mc ms : Nat} {free : Addr → Prop} {cc : ByteArray} {maxL : Nat} {ret : Option FieldType} (hy : plainFor y = true) (hw : ws = Cond.code y cc maxL ret :: ws')
    (body : ∀ p e s m args below meth c s₁, BodyLoose p l y (headSpec ws rm) cc maxL ret e s m args below meth c s₁ → c.maxLocals = maxL → Pc args s → W p l e (headSpec ws rm).room s m args below meth c s.heap [] 0 0 (MQ below Qc args s mc ms free) (entryFrame m args maxL)) : Met l y ws rm Pc Qc mc ms free := by
  refine MetFree.of_bodySF (code := cc) (maxLocals := maxL) (ret := ret) hy ?_ ?_
  · intro args s m h hn
    obtain ⟨meth, c, h1, h2, h3, h4, h5, h6, -⟩ := Cond.code_spec hn (atoms_spec (ws := ws) h _ (by rw [hw]; exact List.mem_cons_self))
    exact ⟨meth, c, h1, h2, h3, h4, h5, h6⟩
  · intro p e s m args below meth c s₁ B hml hP _
    have hh0 : s₁.heap = s.heap := by rw [B.state]; rfl
    obtain ⟨t, a1, o, b1, b2, b3⟩ := body p e s m args below meth c s₁ B hml hP s₁ hh0 (Stand.of_body B)
    exact ⟨t, o, a1, b1, b2, ⟨b3.1, b3.2⟩⟩
theorem hw_met {l : Launch} {y : MethodName} {ws ws' : List Cond} {rm : Room} {D : hw_D} {G : Nat → Nat} {As : List Value} {sz : Nat} {F : Heap → Prop} {Qc : Array Value → State → Outcome → State → Prop} {mc ms : Nat} {free : Addr → Prop} {cc : ByteArray} {maxL : Nat} {ret : Option FieldType} (hy : plainFor y = true) (hw : ws = Cond.code y cc maxL ret :: ws') (hlen : (lg_sl As).length ≤ maxL)
    (body : ∀ (p : Program) (e : Env) (s : State) (m : MethodId) (args : Array Value) (below : List Frame) (meth : Method) (c : Code) (QQ : State → Prop) (ls : Array Slot), s.heap.size = sz → p.tables.exec = Jvm.exec → c.code = cc → c.maxLocals = maxL → meth.sig.returnType = ret → (∀ w ∈ ws, w.before args s = true) → s.vm.findClass y.cls = some m.cls → meth.locks = false → meth.name = y.name → hw_HT D G s.heap → va_K D.1 vwCl (hw_ty D.2.1) s → hw_ST D.2.2 G sz s → F s.heap → QQ = MQ below Qc args s mc ms free → lv_has ls maxL (lv_args 0 As) → W p l e rm s m args below meth c s.heap [] 0 0 QQ (F0 m 0 ls [])) : Met l y ws rm (hw_PC D G As sz F) Qc mc ms free := by
  refine hw_ofWF (cc := cc) (maxL := maxL) (ret := ret) hy hw ?_
  intro p e s m args below meth c s₁ B hml hvv
  obtain ⟨rfl, hsz, hH, hK, hST, hF⟩ := hvv
  rw [lg_entry_eq]
  exact body p e s m _ below meth c _ _ hsz B.exec B.bytes hml B.returns (atoms_spec (ws := ws) B.pre) (findClass_of_methodNamed B.named) B.notSynchronized (name_of_methodNamed B.named B.method).1 hH hK hST hF rfl (lv_entry As hlen)
section HWR
variable {p : Program} {l : Launch} {e : Env} {R : Room} {s : State} {m : MethodId} {args : Array Value} {below : List Frame} {meth : Method} {c : Code} {H : Heap} {locs : List Loc} {cells slots : Nat} {QQ : State → Prop}
variable {cc : ByteArray} {pc : Nat} {ls : Array Slot} {A : Nat → Prop}
theorem hw_iretR (hx : p.tables.exec = Jvm.exec) (hb : c.code = cc) {ty : FieldType} (hr : meth.sig.returnType = some ty) (hlocks : meth.locks = false) {post : Value → Prop} {free : Addr → Prop} (hQ : QQ = MQ below (hw_QR post) args s cells slots free) {v : Int32} (hn : narrow ty (.int v) = .int v) (hp : post (.int v)) (hdg : decode cc pc = .ok (.ireturn, 1)) : W p l e R s m args below meth c s.heap [] cells slots QQ (F0 m pc ls [.int v]) := by
  subst hQ
  exact W.zret hx hb hr hn (fun t ht _ => ⟨_, rfl, hp, ht⟩) (fun q hq => by cases hq) hdg (hlocks := hlocks)
theorem hw_iretM (hx : p.tables.exec = Jvm.exec) (hb : c.code = cc) {ty : FieldType} (hr : meth.sig.returnType = some ty) (hlocks : meth.locks = false) {post : Option Value → Heap → Prop} (hQ : QQ = MQ below (hw_QM post A) args s cells slots A) (hS : va_S A s.heap H locs) {v : Int32} (hn : narrow ty (.int v) = .int v) (hp : post (some (.int v)) H) (hdg : decode cc pc = .ok (.ireturn, 1)) : W p l e R s m args below meth c H locs cells slots QQ (F0 m pc ls [.int v]) := by
  subst hQ
  exact W.zret hx hb hr hn (fun t ht _ => ⟨⟨_, rfl, by rw [ht]; exact hp⟩, hS.F ht⟩) hS.2.2 hdg (hlocks := hlocks)
theorem hw_lretR (hx : p.tables.exec = Jvm.exec) (hb : c.code = cc) (hr : meth.sig.returnType = some .long) (hlocks : meth.locks = false) {post : Value → Prop} {free : Addr → Prop} (hQ : QQ = MQ below (hw_QR post) args s cells slots free) {v : Int64} (hp : post (.long v)) (hdg : decode cc pc = .ok (.lreturn, 1)) : W p l e R s m args below meth c s.heap [] cells slots QQ (F0 m pc ls [.long v]) := by
  subst hQ
  exact W.lret hx hb hr (fun t ht _ => ⟨_, rfl, hp, ht⟩) (fun q hq => by cases hq) hdg (hlocks := hlocks)
theorem hw_vretM (hx : p.tables.exec = Jvm.exec) (hb : c.code = cc) (hr : meth.sig.returnType = none) (hlocks : meth.locks = false) {post : Option Value → Heap → Prop} (hQ : QQ = MQ below (hw_QM post A) args s cells slots A) (hS : va_S A s.heap H locs) (hp : post none H) (hdg : decode cc pc = .ok (.return_, 1)) : W p l e R s m args below meth c H locs cells slots QQ (F0 m pc ls []) := by
  subst hQ
  exact W.vret hx hb hr (fun t ht _ => ⟨⟨_, rfl, by rw [ht]; exact hp⟩, hS.F ht⟩) hS.2.2 hdg (hlocks := hlocks)
theorem hw_aretR (hx : p.tables.exec = Jvm.exec) (hb : c.code = cc) {rt : FieldType} (hr : meth.sig.returnType = some rt) (hrt : (∃ n, rt = .object n) ∨ ∃ t, rt = .array t) (hlocks : meth.locks = false) {post : Value → Prop} {free : Addr → Prop} (hQ : QQ = MQ below (hw_QR post) args s cells slots free) {v : Value} (hv : v = .null ∨ ∃ a, v = .ref a) (hp : post v) (hdg : decode cc pc = .ok (.areturn, 1)) : W p l e R s m args below meth c s.heap [] cells slots QQ (F0 m pc ls [v]) := by
  subst hQ
  exact W.aret hx hb hr hrt hv (fun t ht _ => ⟨_, rfl, hp, ht⟩) (fun q hq => by cases hq) hdg (hlocks := hlocks)
end HWR
theorem hw_orf (o : Option Nat) : va_rf o = .null ∨ ∃ a, va_rf o = .ref a := by
  cases o with
  | none => exact Or.inl rfl
  | some a => exact Or.inr ⟨a, rfl⟩
-- more of whole numbers
theorem hw_tn {x : Int32} (h : 0 ≤ x.toInt) : x.toBitVec.toNat < 2147483648 ∧ x.toInt = (x.toBitVec.toNat : Int) := by
  have e : x.toInt = x.toBitVec.toInt := rfl
  have h2 := BitVec.toInt_eq_toNat_cond x.toBitVec
  have h3 := x.toBitVec.isLt
  rw [e] at h ⊢
  rw [h2] at h ⊢
  split at h <;> rename_i h4
  · rw [if_pos h4]
    exact ⟨by omega, rfl⟩
  · omega
theorem hw_nt {x : Int32} (h : x.toBitVec.toNat < 2147483648) : x.toInt = (x.toBitVec.toNat : Int) := by
  have e : x.toInt = x.toBitVec.toInt := rfl
  rw [e, BitVec.toInt_eq_toNat_cond, if_pos (by omega)]
theorem hw_and {x y : Int32} (h : 0 ≤ y.toInt) : 0 ≤ (x &&& y).toInt ∧ (x &&& y).toInt ≤ y.toInt := by
  obtain ⟨h1, h2⟩ := hw_tn h
  have e : (x &&& y).toBitVec.toNat = x.toBitVec.toNat &&& y.toBitVec.toNat := by rw [Int32.toBitVec_and, BitVec.toNat_and]
  have h3 : (x &&& y).toBitVec.toNat ≤ y.toBitVec.toNat := by rw [e]; exact Nat.and_le_right
  have h4 := hw_nt (x := x &&& y) (by omega)
  omega
theorem hw_and2 {x y : Int32} (h : 0 ≤ x.toInt) : 0 ≤ (x &&& y).toInt ∧ (x &&& y).toInt ≤ x.toInt := by
  obtain ⟨h1, h2⟩ := hw_tn h
  have e : (x &&& y).toBitVec.toNat = x.toBitVec.toNat &&& y.toBitVec.toNat := by rw [Int32.toBitVec_and, BitVec.toNat_and]
  have h3 : (x &&& y).toBitVec.toNat ≤ x.toBitVec.toNat := by rw [e]; exact Nat.and_le_left
  have h4 := hw_nt (x := x &&& y) (by omega)
  omega
theorem hw_ior {x y : Int32} {k : Nat} (hk : 2 ^ k ≤ 2147483648) (h1 : 0 ≤ x.toInt) (h2 : x.toInt < ((2 ^ k : Nat) : Int)) (h3 : 0 ≤ y.toInt) (h4 : y.toInt < ((2 ^ k : Nat) : Int)) : 0 ≤ (x ||| y).toInt ∧ (x ||| y).toInt < ((2 ^ k : Nat) : Int) := by
  obtain ⟨a1, a2⟩ := hw_tn h1
  obtain ⟨b1, b2⟩ := hw_tn h3
  have e : (x ||| y).toBitVec.toNat = x.toBitVec.toNat ||| y.toBitVec.toNat := by rw [Int32.toBitVec_or, BitVec.toNat_or]
  have h5 : (x ||| y).toBitVec.toNat < 2 ^ k := by rw [e]; exact Nat.or_lt_two_pow (by omega) (by omega)
  have h6 := hw_nt (x := x ||| y) (by omega)
  omega
theorem hw_ixor {x y : Int32} {k : Nat} (hk : 2 ^ k ≤ 2147483648) (h1 : 0 ≤ x.toInt) (h2 : x.toInt < ((2 ^ k : Nat) : Int)) (h3 : 0 ≤ y.toInt) (h4 : y.toInt < ((2 ^ k : Nat) : Int)) : 0 ≤ (x ^^^ y).toInt ∧ (x ^^^ y).toInt < ((2 ^ k : Nat) : Int) := by
  obtain ⟨a1, a2⟩ := hw_tn h1
  obtain ⟨b1, b2⟩ := hw_tn h3
  have e : (x ^^^ y).toBitVec.toNat = x.toBitVec.toNat ^^^ y.toBitVec.toNat := by rw [Int32.toBitVec_xor, BitVec.toNat_xor]
  have h5 : (x ^^^ y).toBitVec.toNat < 2 ^ k := by rw [e]; exact Nat.xor_lt_two_pow (by omega) (by omega)
  have h6 := hw_nt (x := x ^^^ y) (by omega)
  omega
theorem hw_ofr {x : Int32} {n : Nat} (hn : n < 2147483647) (h0 : 0 ≤ x.toInt) (h1 : x.toInt ≤ (n : Int)) : ∃ j : Nat, j < n + 1 ∧ x = nI j := vp_in_of (hw_in h0 (by omega)) (by omega)
theorem hw_sh1 : ∀ n : Nat, n < 9 → ∀ j : Nat, j < n + 1 → 1 ≤ ((1 : Int32) <<< (nI j &&& 31)).toInt ∧ ((1 : Int32) <<< (nI j &&& 31)).toInt ≤ ((2 ^ n : Nat) : Int) := by decide +kernel
theorem hw_sh1b {x : Int32} (n : Nat) (hn : n < 9) (h0 : 0 ≤ x.toInt) (h1 : x.toInt ≤ (n : Int)) : 1 ≤ ((1 : Int32) <<< (x &&& 31)).toInt ∧ ((1 : Int32) <<< (x &&& 31)).toInt ≤ ((2 ^ n : Nat) : Int) := by
  obtain ⟨j, hj, rfl⟩ := hw_ofr (by omega) h0 h1
  exact hw_sh1 n hn j hj
theorem hw_rem {x y : Int32} (h : 0 < y.toInt) : (-y.toInt < (x - x / y * y).toInt ∧ (x - x / y * y).toInt < y.toInt) ∧ (0 ≤ x.toInt → 0 ≤ (x - x / y * y).toInt) ∧ (x.toInt ≤ 0 → (x - x / y * y).toInt ≤ 0) := by
  rw [rem_toInt]
  refine ⟨tmod_bounds h, fun h0 => ?_, fun h0 => ?_⟩
  · exact Int.tmod_nonneg _ h0
  · have h1 : Int.tmod x.toInt y.toInt = - Int.tmod (-x.toInt) y.toInt := by rw [Int.neg_tmod, Int.neg_neg]
    have h2 := Int.tmod_nonneg y.toInt (a := -x.toInt) (by omega)
    omega
theorem hw_max {x y : Int32} {a b : Int} (hx : x.toInt = a) (hy : y.toInt = b) : (if x < y then y else x).toInt = max a b := by
  split <;> rename_i h
  · have := hw_ilt h
    omega
  · have := hw_inlt h
    omega
theorem hw_min {x y : Int32} {a b : Int} (hx : x.toInt = a) (hy : y.toInt = b) : (if y < x then y else x).toInt = min a b := by
  split <;> rename_i h
  · have := hw_ilt h
    omega
  · have := hw_inlt h
    omega
theorem hw_tH_rng (j : Nat) : -1 ≤ (hw_tH.getD j 0).toInt ∧ (hw_tH.getD j 0).toInt ≤ 511 := by
  rcases Nat.lt_or_ge j 32 with h | h
  · revert j
    decide +kernel
  · rw [List.getD_eq_getElem?_getD, List.getElem?_eq_none (by simpa [hw_tH] using h)]
    decide
theorem hw_tW_rng (j : Nat) : 0 ≤ (hw_tW.getD j 0).toInt ∧ (hw_tW.getD j 0).toInt ≤ 35 := by
  rcases Nat.lt_or_ge j 64 with h | h
  · revert j
    decide +kernel
  · rw [List.getD_eq_getElem?_getD, List.getElem?_eq_none (by simpa [hw_tW] using h)]
    decide
theorem hw_cmplt {x y : Int64} (h : lg_cmp x y < 0) : x < y := (lg_cmp_lt x y).mp h
theorem hw_cmpnlt {x y : Int64} (h : ¬ lg_cmp x y < 0) : ¬ x < y := fun z => h ((lg_cmp_lt x y).mpr z)
theorem hw_cmple {x y : Int64} (h : lg_cmp x y ≤ 0) : x ≤ y := (lg_cmp_le x y).mp h
theorem hw_cmpnle {x y : Int64} (h : ¬ lg_cmp x y ≤ 0) : ¬ x ≤ y := fun z => h ((lg_cmp_le x y).mpr z)
theorem hw_cmpgt {x y : Int64} (h : 0 < lg_cmp x y) : y < x := (lg_cmp_gt x y).mp h
theorem hw_cmpngt {x y : Int64} (h : ¬ 0 < lg_cmp x y) : ¬ y < x := fun z => h ((lg_cmp_gt x y).mpr z)
theorem hw_cmpge {x y : Int64} (h : 0 ≤ lg_cmp x y) : y ≤ x := (lg_cmp_ge x y).mp h
theorem hw_cmpnge {x y : Int64} (h : ¬ 0 ≤ lg_cmp x y) : ¬ y ≤ x := fun z => h ((lg_cmp_ge x y).mpr z)
theorem hw_cmpeq {x y : Int64} (h : lg_cmp x y = 0) : x = y := (lg_cmp_eq x y).mp h
theorem hw_cmpneq {x y : Int64} (h : ¬ lg_cmp x y = 0) : ¬ x = y := fun z => h ((lg_cmp_eq x y).mpr z)
section HWC
variable {p : Program} {l : Launch} {e : Env} {R : Room} {s : State} {m : MethodId} {args : Array Value} {below : List Frame} {meth : Method} {c : Code} {H : Heap} {locs : List Loc} {cells slots : Nat} {Q : State → Prop}
variable {pc : Nat} {ls : Array Slot} {rest st0 : List Value} {a : Array Value} {A0 A1 : Nat → Prop}
theorem hw_cM0 {post : Option Value → Heap → Prop} (hr : va_Run p l e R s m args below meth c H locs cells slots 0 0 (F0 m pc ls st0) rest (hw_QM post A1 a) A1) (hS : va_S A0 s.heap H locs) (hA : ∀ q, A1 q → A0 q)
    (kk : ∀ (v : Option Value) (H1 : Heap) (locs1 : List Loc), post v H1 → H.size ≤ H1.size → (∀ q : Nat, q < H.size → ¬ A1 q → H1[q]? = H[q]?) → va_S A0 s.heap H1 locs1 → W p l e R s m args below meth c H1 locs1 cells slots Q (F0 m (pc + 3) ls (v.toList ++ rest))) : W p l e R s m args below meth c H locs cells slots Q (F0 m pc ls st0) :=
  hw_cM hr hS hA kk
end HWC
theorem hw_xors {x y : Int32} (h : 0 ≤ y.toInt) : 0 ≤ (x ^^^ y).toInt ↔ 0 ≤ x.toInt := by
  have e1 : (x ^^^ y).toInt = (x.toBitVec ^^^ y.toBitVec).toInt := by rw [← Int32.toBitVec_xor]; rfl
  have e2 : x.toInt = x.toBitVec.toInt := rfl
  have e3 : y.toInt = y.toBitVec.toInt := rfl
  have hm : (x.toBitVec ^^^ y.toBitVec).msb = (x.toBitVec.msb ^^ y.toBitVec.msb) := by simp
  rw [BitVec.msb_eq_toInt, BitVec.msb_eq_toInt, BitVec.msb_eq_toInt] at hm
  have hy : decide (y.toBitVec.toInt < 0) = false := by rw [← e3]; simp; omega
  rw [hy, Bool.xor_false] at hm
  have := decide_eq_decide.mp hm
  rw [e1, e2]
  omega
theorem hw_sl_rng (i : Nat) (hi : i < 8) : 4 ≤ hw_sl.getD i 0 ∧ hw_sl.getD i 0 ≤ 6 := by
  revert i
  decide +kernel
theorem hw_slI (i : Nat) (hi : i < 8) : (Int32.ofNat (hw_sl.getD i 0)).toInt = ((hw_sl.getD i 0 : Nat) : Int) := nI_toInt (by have := hw_sl_rng i hi; omega)
theorem hw_bit0 (y : Int32) : ((0 : Int32) >>> (y &&& 31)) &&& 1 = 0 := by simp
