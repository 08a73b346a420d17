/-! my own: new cells among those of the kinds -/
theorem hw_HT.zero {D : hw_D} {G : Nat → Nat} {H : Heap} {q : Nat} (h : hw_HT D G H) (hq : H.size ≤ q) : G q = 0 := by
  by_cases e : G q = 0
  · exact e
  · exact absurd (h.lt e) (Nat.not_lt.mpr hq)
theorem hw_HT.rekind {D : hw_D} {G : Nat → Nat} {H : Heap} {a k : Nat} {e : va_E} (h : hw_HT D G H) (hr : 100 ≤ G a) (hv : va_at D.1 vwCl (a, e) H) (hok : hw_ok D.2.1 G k e) : hw_HT D (va_up G a k) H ∧ ∀ q, G q ≠ 0 → G q < 100 → va_up G a k q = G q := by
  have hm : ∀ q, G q ≠ 0 → G q < 100 → va_up G a k q = G q := fun q _ hl => va_up_ne G k (fun e1 => by rw [e1] at hl; omega)
  refine ⟨fun q hq => ?_, hm⟩
  by_cases e1 : q = a
  · subst e1
    rw [va_up_self]
    exact ⟨e, hw_ok_mono hm k e hok, hv⟩
  · rw [va_up_ne G k e1] at hq ⊢
    obtain ⟨x, h1, h2⟩ := h q hq
    exact ⟨x, hw_ok_mono hm _ x h1, h2⟩
theorem hw_hG {G G0 : Nat → Nat} {sz : Nat} (hGe : ∀ q, q < sz → G q = G0 q) : ∀ q, G q ≠ 0 → hw_NG G0 sz q := by
  intro q hq
  rcases Nat.lt_or_ge q sz with h | h
  · exact Or.inl (by rw [← hGe q h]; exact hq)
  · exact Or.inr h
theorem hw_AWi2 {G G0 : Nat → Nat} {WR : List Nat} {sz q k : Nat} (hGe : ∀ q, q < sz → G q = G0 q) (hk : G q = k) (hn : k ∈ WR) : hw_AW G0 WR sz q := by
  rcases Nat.lt_or_ge q sz with h | h
  · exact Or.inl (by rw [← hGe q h, hk]; exact hn)
  · exact Or.inr h
theorem hw_kg {G G1 : Nat → Nat} {a k : Nat} (hm : ∀ a, G a ≠ 0 → G a < 100 → G1 a = G a) (h : G a = k) (h0 : k ≠ 0) (h1 : k < 100) : G1 a = k := by
  rw [hm a (by rw [h]; exact h0) (by rw [h]; exact h1), h]
theorem hw_kg2 {G G1 : Nat → Nat} {a k : Nat} (hm : ∀ a, G a ≠ 0 → G1 a = G a) (h : G a = k) (h0 : k ≠ 0) : G1 a = k := by
  rw [hm a (by rw [h]; exact h0), h]
theorem hw_kg3 {D : hw_D} {G G1 : Nat → Nat} {H : Heap} {q a k r : Nat} (hi : ∀ x, x < H.size → x ≠ q → G1 x = G x) (hH : hw_HT D G H) (hq : G q = r) (h : G a = k) (h0 : k ≠ 0) (h1 : k ≠ r) : G1 a = k := by
  rw [hi a (hH.lt (by rw [h]; exact h0)) (fun e => h1 (by rw [← h, e, hq])), h]
theorem hw_qq {G G1 : Nat → Nat} {n k : Nat} {f : Nat → Option Nat} (hm : ∀ a, G a ≠ 0 → G a < 100 → G1 a = G a) (h : ∀ j b, j < n → f j = some b → G b = k) (h0 : k ≠ 0) (h1 : k < 100) : ∀ j b, j < n → f j = some b → G1 b = k := fun j b hj hb => hw_kg hm (h j b hj hb) h0 h1
theorem hw_qn {G G1 : Nat → Nat} {n k : Nat} {f : Nat → Option Nat} (hm : ∀ a, G a ≠ 0 → G a < 100 → G1 a = G a) (h : ∀ j, j < n → ∃ b, f j = some b ∧ G b = k) (h0 : k ≠ 0) (h1 : k < 100) : ∀ j, j < n → ∃ b, f j = some b ∧ G1 b = k := by
  intro j hj
  obtain ⟨b, h2, h3⟩ := h j hj
  exact ⟨b, h2, hw_kg hm h3 h0 h1⟩
theorem hw_upq {G : Nat → Nat} {n k i v : Nat} {f : Nat → Option Nat} (h : ∀ j b, j < n → f j = some b → G b = k) (hv : G v = k) : ∀ j b, j < n → va_up f i (some v) j = some b → G b = k := by
  intro j b hj hb
  by_cases e : j = i
  · subst e
    rw [va_up_self] at hb
    cases hb
    exact hv
  · rw [va_up_ne f _ e] at hb
    exact h j b hj hb
section HWN
variable {p : Program} {l : Launch} {e : Env} {R : Room} {s : State} {m : MethodId} {args : Array Value} {below : List Frame} {meth : Method} {c : Code} {H : Heap} {locs : List Loc} {cells slots : Nat} {Q : State → Prop}
variable {cc : ByteArray} {pc : Nat} {ls : Array Slot} {rest : List Value} {D : hw_D} {G : Nat → Nat} {A : Nat → Prop}
theorem hw_new (hx : p.tables.exec = Jvm.exec) (hb : c.code = cc) {own C : String} {T : u_T} {N ci index : Nat} (k : Nat) {Ts : List Cond} (hts : ∀ w ∈ Ts, w.before args s = true) (hin : ∀ w ∈ u_ws C T N, w ∈ Ts) (ty : Nat → FieldType) (hty : ∀ k, k < N → parseFieldDescriptor (T k).2.2.1 = some (ty k)) (hown : s.vm.findClass own = some m.cls) (hcl : (Cond.classLink own index C).before args s = true) (hinst : (Cond.instantiable C N).before args s = true) (hini : (Cond.initialized C).before args s = true)
    (hK : va_K D.1 vwCl (hw_ty D.2.1) s) (hH : hw_HT D G H) (hS : va_S A s.heap H locs) (hc : vwCl[ci]? = some (C, T, N)) (fs : List Value) (hfs : ∀ j, j < N → defaultValue (ty j) = vp_V fs j) (hok : hw_ok D.2.1 G k (.inr (ci, fs))) (hcells : cells + 1 ≤ R.cells) (hslots : slots + N ≤ R.slots) (hdg : decode cc pc = .ok (.new index, 3))
    (kk : ∀ (q : Nat) (G1 : Nat → Nat) (H1 : Heap), hw_HT D G1 H1 → (∀ a, G a ≠ 0 → G a < 100 → G1 a = G a) → (∀ a, G a ≠ 0 → G1 a = G a) → G1 q = k → (∀ a, a < H.size → G1 a = G a) → H.size = q → va_at D.1 vwCl (q, .inr (ci, fs)) H1 → (∀ a : Nat, a < H.size → H1[a]? = H[a]?) → H1.size = H.size + 1 → va_S A s.heap H1 locs →
      W p l e R s m args below meth c H1 locs (cells + 1) (slots + N) Q (F0 m (pc + 3) ls (.ref q :: rest))) : W p l e R s m args below meth c H locs cells slots Q (F0 m pc ls rest) := by
  have hKn := hK.1 ci _ hc
  refine W.newcK hx hb hown hcl hinst hini rfl hdg hcells hslots hKn.2.1 rfl fun H1 kC hkC e1 z1 o1 => ?_
  have hv : va_at D.1 vwCl (H.size, .inr (ci, fs)) H1 := ⟨_, hc, (u_born ty hts hin hKn hkC e1 hty).to hfs⟩
  have h2 := (hH.grow (H1 := H1) o1).add (hH.zero (Nat.le_refl _)) hv hok
  exact kk H.size (va_up G H.size k) H1 h2.1 (fun a ha _ => h2.2 a ha) h2.2 (va_up_self _ _ _) (fun a ha => va_up_ne G k (Nat.ne_of_lt ha)) rfl hv o1 z1 ⟨Nat.le_trans hS.1 (by omega), fun x h1 h2 => (o1 x (Nat.lt_of_lt_of_le h1 hS.1)).trans (hS.2.1 x h1 h2), hS.2.2⟩
theorem hw_newa (hx : p.tables.exec = Jvm.exec) (hb : c.code = cc) (k : Nat) {atype : ArrayType} (harr : (Cond.arrayClass (newarray.typeOf atype)).before args s = true) {ty : FieldType} (hty : newarray.typeOf atype = ty) {t : Nat} (ht : (hw_ty D.2.1)[t]? = some (D.2.1 t, ty)) (hnm : ∀ cA, va_RA s cA ty → s.vm.findClass ("[" ++ ty.toString) = some cA) (hK : va_K D.1 vwCl (hw_ty D.2.1) s) (hH : hw_HT D G H) (hS : va_S A s.heap H locs)
    {n : Int32} {N : Nat} (a0 : vp_A) (ha : ∀ cA : ClassId, vp_cell cA a0 = arrV cA N (fun _ => defaultValue ty)) (hok : hw_ok D.2.1 G k (.inl (D.2.1 t, a0))) (hn : ¬ n < 0) (hN : n.toNatClampNeg = N) (hbytes : N * componentBytes ty ≤ 536870912) (hcells : cells + 1 ≤ R.cells) (hslots : slots + N ≤ R.slots) (hdg : decode cc pc = .ok (.newarray atype, 2))
    (kk : ∀ (q : Nat) (G1 : Nat → Nat) (H1 : Heap), hw_HT D G1 H1 → (∀ a, G a ≠ 0 → G a < 100 → G1 a = G a) → (∀ a, G a ≠ 0 → G1 a = G a) → G1 q = k → (∀ a, a < H.size → G1 a = G a) → H.size = q → va_at D.1 vwCl (q, .inl (D.2.1 t, a0)) H1 → (∀ a : Nat, a < H.size → H1[a]? = H[a]?) → H1.size = H.size + 1 → va_S A s.heap H1 locs →
      W p l e R s m args below meth c H1 locs (cells + 1) (slots + N) Q (F0 m (pc + 2) ls (.ref q :: rest))) : W p l e R s m args below meth c H locs cells slots Q (F0 m pc ls (.int n :: rest)) := by
  subst hty
  refine va_newaK hx hb harr rfl hdg rfl hn hN hbytes hcells hslots rfl fun H1 cA e1 z1 o1 hAr hNm => ?_
  have e2 : cA = D.2.1 t := Option.some.inj (hNm.symm.trans (hnm _ (hK.2 t _ ht).2))
  subst e2
  have hv : va_at D.1 vwCl (H.size, .inl (D.2.1 t, a0)) H1 := by
    show H1[H.size]? = some (vp_cell _ _)
    rw [ha]
    exact e1
  have h2 := (hH.grow (H1 := H1) o1).add (hH.zero (Nat.le_refl _)) hv hok
  exact kk H.size (va_up G H.size k) H1 h2.1 (fun a ha _ => h2.2 a ha) h2.2 (va_up_self _ _ _) (fun a ha => va_up_ne G k (Nat.ne_of_lt ha)) rfl hv o1 z1 ⟨Nat.le_trans hS.1 (by omega), fun x h1 h2 => (o1 x (Nat.lt_of_lt_of_le h1 hS.1)).trans (hS.2.1 x h1 h2), hS.2.2⟩
theorem hw_newq (hx : p.tables.exec = Jvm.exec) (hb : c.code = cc) (k : Nat) {own C : String} {index : Nat} (hown : s.vm.findClass own = some m.cls) (hclink : (Cond.classLink own index C).before args s = true) (hover : va_AO C s) {t : Nat} (ht : (hw_ty D.2.1)[t]? = some (D.2.1 t, .object C)) (hK : va_K D.1 vwCl (hw_ty D.2.1) s) (hH : hw_HT D G H) (hS : va_S A s.heap H locs)
    {n : Int32} {N : Nat} (hok : hw_ok D.2.1 G k (.inl (D.2.1 t, N, .inr (.inr (.inr (.inr (fun _ => none))))))) (hn : ¬ n < 0) (hN : n.toNatClampNeg = N) (hbytes : N * 4 ≤ 536870912) (hcells : cells + 1 ≤ R.cells) (hslots : slots + N ≤ R.slots) (hdg : decode cc pc = .ok (.anewarray index, 3))
    (kk : ∀ (q : Nat) (G1 : Nat → Nat) (H1 : Heap), hw_HT D G1 H1 → (∀ a, G a ≠ 0 → G a < 100 → G1 a = G a) → (∀ a, G a ≠ 0 → G1 a = G a) → G1 q = k → (∀ a, a < H.size → G1 a = G a) → H.size = q → va_at D.1 vwCl (q, .inl (D.2.1 t, N, .inr (.inr (.inr (.inr (fun _ => none)))))) H1 → (∀ a : Nat, a < H.size → H1[a]? = H[a]?) → H1.size = H.size + 1 → va_S A s.heap H1 locs →
      W p l e R s m args below meth c H1 locs (cells + 1) (slots + N) Q (F0 m (pc + 3) ls (.ref q :: rest))) : W p l e R s m args below meth c H locs cells slots Q (F0 m pc ls (.int n :: rest)) := by
  subst hN
  refine W.anew hx hb hown hclink (va_AO.use hover) rfl hdg rfl hn hbytes hcells hslots fun cA kA comp f1 f2 f3 f4 => ?_
  generalize hH1 : H.push ({ cls := cA, slots := Array.replicate n.toNatClampNeg .null, vm := .none } : Cell) = H1
  have z1 : H1.size = H.size + 1 := by rw [← hH1, Array.size_push]
  have e1 : H1[H.size]? = some (arrV cA n.toNatClampNeg (fun _ => .null)) := by rw [← hH1, Array.getElem?_push_size, ← arrV_new]
  have o1 : ∀ q : Nat, q < H.size → H1[q]? = H[q]? := fun q hq => by rw [← hH1, Array.getElem?_push, if_neg (Nat.ne_of_lt hq)]
  obtain ⟨kA', comp', k1, k2, k3, k4⟩ := (hK.2 t _ ht).2
  have e2 : cA = D.2.1 t := Option.some.inj (f1.symm.trans k4)
  subst e2
  have hv : va_at D.1 vwCl (H.size, .inl (D.2.1 t, n.toNatClampNeg, .inr (.inr (.inr (.inr (fun _ => none)))))) H1 := e1
  have h2 := (hH.grow (H1 := H1) o1).add (hH.zero (Nat.le_refl _)) hv hok
  exact kk H.size (va_up G H.size k) H1 h2.1 (fun a ha _ => h2.2 a ha) h2.2 (va_up_self _ _ _) (fun a ha => va_up_ne G k (Nat.ne_of_lt ha)) rfl hv o1 z1 ⟨Nat.le_trans hS.1 (by omega), fun x h1 h2 => (o1 x (Nat.lt_of_lt_of_le h1 hS.1)).trans (hS.2.1 x h1 h2), hS.2.2⟩
end HWN
