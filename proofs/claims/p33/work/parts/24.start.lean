/-! my own: what stands at the law's start -/
abbrev hw_gv (b : Nat) (s : State) : Prop := (Jvm.Cond.and given_1 narrow_1).before #[Value.ref b] s = true
def hw_tm (i : Nat) : Term := .string "WardWalkers$Text" (hw_sp.getD i 0)
section HST
variable {b : Nat} {s : State}
theorem hw_NGz {sz : Nat} : ∀ a : Nat, a < sz → ¬ hw_NG (fun _ => 0) sz a := fun a h z => z.elim (fun z => z rfl) (fun z => absurd h (Nat.not_lt.mpr z))
set_option maxRecDepth 100000 in
set_option maxHeartbeats 4000000 in
theorem hw_sH (hg : hw_gv b s) (h1 : (Cond.laysStatic "WardWalkers$Text" "HIGHEST" "[I").before #[Value.ref b] s = true) (h2 : (Cond.initialized "WardWalkers$Text").before #[Value.ref b] s = true) : ∃ t : Nat, va_Z "WardWalkers$Text" "HIGHEST" "[I" (.ref t) (hw_NG (fun _ => 0) s.heap.size) s s.heap ∧ va_T .int t 32 (fun j => .int (hw_tH.getD j 0)) (hw_NG (fun _ => 0) s.heap.size) s s.heap := by
  have hs := flat_of_before _ hg
  have he : ∀ j : Nat, j < 32 → (Cond.eq (.elem (.static "WardWalkers$Text" "HIGHEST" "[I") (.int (Int32.ofNat j))) (.int (hw_tH.getD j 0))).before #[Value.ref b] s = true := by
    intro j hj
    refine hs _ ?_
    revert j
    decide +kernel
  obtain ⟨t, ht, hT⟩ := va_Tof (s := s) (args := #[Value.ref b]) (tm := .static "WardWalkers$Text" "HIGHEST" "[I") (ty := .int) (N := 32) (f := fun j => .int (hw_tH.getD j 0)) (A := hw_NG (fun _ => 0) s.heap.size) (by decide) (hs _ (by decide +kernel)) (va_eqt (hs (.eq (.length (.static "WardWalkers$Text" "HIGHEST" "[I")) (.int 32)) (by decide +kernel))) (fun j hj => va_eqt (he j hj)) hw_NGz
  exact ⟨t, va_Zref h1 h2 ht hw_NGz, hT⟩
set_option maxRecDepth 100000 in
set_option maxHeartbeats 4000000 in
theorem hw_sW (hg : hw_gv b s) (h1 : (Cond.laysStatic "WardWalkers" "WAYS" "[I").before #[Value.ref b] s = true) (h2 : (Cond.initialized "WardWalkers").before #[Value.ref b] s = true) : ∃ t : Nat, va_Z "WardWalkers" "WAYS" "[I" (.ref t) (hw_NG (fun _ => 0) s.heap.size) s s.heap ∧ va_T .int t 64 (fun j => .int (hw_tW.getD j 0)) (hw_NG (fun _ => 0) s.heap.size) s s.heap := by
  have hs := flat_of_before _ hg
  have he : ∀ j : Nat, j < 64 → (Cond.eq (.elem (.static "WardWalkers" "WAYS" "[I") (.int (Int32.ofNat j))) (.int (hw_tW.getD j 0))).before #[Value.ref b] s = true := by
    intro j hj
    refine hs _ ?_
    revert j
    decide +kernel
  obtain ⟨t, ht, hT⟩ := va_Tof (s := s) (args := #[Value.ref b]) (tm := .static "WardWalkers" "WAYS" "[I") (ty := .int) (N := 64) (f := fun j => .int (hw_tW.getD j 0)) (A := hw_NG (fun _ => 0) s.heap.size) (by decide) (hs _ (by decide +kernel)) (va_eqt (hs (.eq (.length (.static "WardWalkers" "WAYS" "[I")) (.int 64)) (by decide +kernel))) (fun j hj => va_eqt (he j hj)) hw_NGz
  exact ⟨t, va_Zref h1 h2 ht hw_NGz, hT⟩
set_option maxRecDepth 100000 in
set_option maxHeartbeats 4000000 in
theorem hw_sS (hg : hw_gv b s) : ∃ adK adV : Nat → Nat, vk_S 8 hw_sl hw_sb adK adV (hw_NG (fun _ => 0) s.heap.size) s s.heap ∧ ∀ i : Nat, i < 8 → (hw_tm i).eval #[Value.ref b] s none [] s = some (.ref (adK i)) := by
  have hs := flat_of_before _ hg
  refine vk_Sof (args := #[Value.ref b]) (tm := hw_tm) (by decide +kernel) ?_ ?_ ?_ ?_ ?_ ?_ hw_NGz
  · intro i hi
    refine hs _ ?_
    revert i
    decide +kernel
  · intro i hi
    refine hs _ ?_
    revert i
    decide +kernel
  · intro i hi
    refine hs _ ?_
    revert i
    decide +kernel
  · intro i hi
    refine hs _ ?_
    revert i
    decide +kernel
  · intro i hi j hj
    refine hs _ ?_
    revert j
    revert i
    decide +kernel
  · intro i j hi hj hij
    have h : (Cond.not (Cond.eq (hw_tm i) (hw_tm j))) ∈ flatC (Jvm.Cond.and given_1 narrow_1) ∨ (Cond.not (Cond.eq (hw_tm j) (hw_tm i))) ∈ flatC (Jvm.Cond.and given_1 narrow_1) := by
      revert hij
      revert j
      revert i
      decide +kernel
    exact h.elim (fun h => Or.inl (hs _ h)) (fun h => Or.inr (hs _ h))
end HST
set_option maxRecDepth 100000 in
theorem hw_ex0 : ∀ w ∈ ([.methodLinkNest RX11 9 yX1_init "WardWalkers", .methodLinkNest RX11 18 yX10_init "WardWalkers", .methodLinkNest RX11 25 yX9_init "WardWalkers", .methodLinkNest RX11 50 yX6_init "WardWalkers", .methodLinkNest RX11 61 yX7_init "WardWalkers", .methodLinkNest RX6 69 yX11_minutesBetween "WardWalkers", .declares ⟨"WardWalkers$Key", "edge", "(I)I"⟩, .declares ⟨"WardWalkers$Key", "room", "(I)I"⟩] : List Cond), w ∈ lw_tbl := by decide +kernel
set_option maxRecDepth 100000 in
theorem hw_ex1 : ∀ w ∈ ([.declares ⟨"WardWalkers$Key", "kindNumber", "()I"⟩, .castable RX0 RX3, .castable RX2 RX3, .castable RX5 RX3, .castable RX8 RX3, .castable RX8 RX0, .castable RX5 RX0, .arrayOver (.object "WardWalkers$Key")] : List Cond), w ∈ lw_tbl := by decide +kernel
set_option maxRecDepth 100000 in
theorem hw_ex2 : ∀ w ∈ ([.arrayOver (.object "WardWalkers$Lock"), .arrayOver (.object "WardWalkers$Standing"), .arrayOver (.object "WardWalkers$Text"), .arrayOver (.object "WardWalkers$Rack")] : List Cond), w ∈ lw_tbl := by decide +kernel
set_option maxRecDepth 100000 in
theorem hw_exc : ∀ w ∈ ([.not (.castable RX2 RX0), .not (.castable RX0 RX8), .not (.castable RX5 RX8), .not (.castable RX2 RX8), .not (.castable RX0 RX5), .not (.castable RX8 RX5), .not (.castable RX2 RX5), .not (.castable RX0 RX2), .not (.castable RX5 RX2), .not (.castable RX8 RX2)] : List Cond), w ∈ flatC (Jvm.Cond.and given_1 narrow_1) := by decide +kernel
theorem hw_exs {b : Nat} {s : State} (hg : hw_gv b s) (hts : ∀ w ∈ lw_tbl, w.before #[Value.ref b] s = true) : hw_EX s := ⟨va_Nw.of rfl (hts _ (hw_ex0 _ (List.mem_of_getElem? (i := 0) rfl))), va_Nw.of rfl (hts _ (hw_ex0 _ (List.mem_of_getElem? (i := 1) rfl))), va_Nw.of rfl (hts _ (hw_ex0 _ (List.mem_of_getElem? (i := 2) rfl))), va_Nw.of rfl (hts _ (hw_ex0 _ (List.mem_of_getElem? (i := 3) rfl))), va_Nw.of rfl (hts _ (hw_ex0 _ (List.mem_of_getElem? (i := 4) rfl))), va_Nw.of rfl (hts _ (hw_ex0 _ (List.mem_of_getElem? (i := 5) rfl))), va_Nw.of rfl (hts _ (hw_ex0 _ (List.mem_of_getElem? (i := 6) rfl))), va_Nw.of rfl (hts _ (hw_ex0 _ (List.mem_of_getElem? (i := 7) rfl))), va_Nw.of rfl (hts _ (hw_ex1 _ (List.mem_of_getElem? (i := 0) rfl))), va_Nw.of rfl (hts _ (hw_ex1 _ (List.mem_of_getElem? (i := 1) rfl))), va_Nw.of rfl (hts _ (hw_ex1 _ (List.mem_of_getElem? (i := 2) rfl))), va_Nw.of rfl (hts _ (hw_ex1 _ (List.mem_of_getElem? (i := 3) rfl))), va_Nw.of rfl (hts _ (hw_ex1 _ (List.mem_of_getElem? (i := 4) rfl))), va_Nw.of rfl (hts _ (hw_ex1 _ (List.mem_of_getElem? (i := 5) rfl))), va_Nw.of rfl (hts _ (hw_ex1 _ (List.mem_of_getElem? (i := 6) rfl))), va_Nc.of (flat_of_before _ hg _ (hw_exc _ (List.mem_of_getElem? (i := 0) rfl))), va_Nc.of (flat_of_before _ hg _ (hw_exc _ (List.mem_of_getElem? (i := 1) rfl))), va_Nc.of (flat_of_before _ hg _ (hw_exc _ (List.mem_of_getElem? (i := 2) rfl))), va_Nc.of (flat_of_before _ hg _ (hw_exc _ (List.mem_of_getElem? (i := 3) rfl))), va_Nc.of (flat_of_before _ hg _ (hw_exc _ (List.mem_of_getElem? (i := 4) rfl))), va_Nc.of (flat_of_before _ hg _ (hw_exc _ (List.mem_of_getElem? (i := 5) rfl))), va_Nc.of (flat_of_before _ hg _ (hw_exc _ (List.mem_of_getElem? (i := 6) rfl))), va_Nc.of (flat_of_before _ hg _ (hw_exc _ (List.mem_of_getElem? (i := 7) rfl))), va_Nc.of (flat_of_before _ hg _ (hw_exc _ (List.mem_of_getElem? (i := 8) rfl))), va_Nc.of (flat_of_before _ hg _ (hw_exc _ (List.mem_of_getElem? (i := 9) rfl))), va_AO.of (hts _ (hw_ex1 _ (List.mem_of_getElem? (i := 7) rfl))), va_AO.of (hts _ (hw_ex2 _ (List.mem_of_getElem? (i := 0) rfl))), va_AO.of (hts _ (hw_ex2 _ (List.mem_of_getElem? (i := 1) rfl))), va_AO.of (hts _ (hw_ex2 _ (List.mem_of_getElem? (i := 2) rfl))), va_AO.of (hts _ (hw_ex2 _ (List.mem_of_getElem? (i := 3) rfl)))⟩
set_option maxRecDepth 100000 in
theorem hw_sl0 : ∀ w ∈ ([.laysStatic "WardWalkers$Text" "HIGHEST" "[I", .laysStatic "WardWalkers" "WAYS" "[I", .laysStatic "java/lang/String" "COMPACT_STRINGS" "Z", .laysStatic "jdk/internal/util/Preconditions" "SIOOBE_FORMATTER" "Ljava/util/function/BiFunction;", .initialized "WardWalkers$Text", .initialized "WardWalkers", .initialized "java/lang/String", .initialized "jdk/internal/util/Preconditions"] : List Cond), w ∈ lw_tbl := by decide +kernel
set_option maxRecDepth 100000 in
theorem hw_sr0 : ∀ i : Nat, i < 8 → Cond.stringRef "WardWalkers$Text" (hw_sp.getD i 0) (hw_sx.getD i "") ∈ lw_tbl := by decide +kernel
set_option maxRecDepth 100000 in
theorem hw_start {b : Nat} {s : State} (hg : hw_gv b s) (hts : ∀ w ∈ lw_tbl, w.before #[Value.ref b] s = true) : ∃ d : Nat → Nat, hw_ST d (fun _ => 0) s.heap.size s := by
  have hs := flat_of_before _ hg
  obtain ⟨tH, zH, aH⟩ := hw_sH hg (hts _ (hw_sl0 _ (List.mem_of_getElem? (i := 0) rfl))) (hts _ (hw_sl0 _ (List.mem_of_getElem? (i := 4) rfl)))
  obtain ⟨tW, zW, aW⟩ := hw_sW hg (hts _ (hw_sl0 _ (List.mem_of_getElem? (i := 1) rfl))) (hts _ (hw_sl0 _ (List.mem_of_getElem? (i := 5) rfl)))
  obtain ⟨adK, adV, hS, hR⟩ := hw_sS hg
  have zC : va_Z "java/lang/String" "COMPACT_STRINGS" "Z" (.int 1) (hw_NG (fun _ => 0) s.heap.size) s s.heap := va_Zof (hts _ (hw_sl0 _ (List.mem_of_getElem? (i := 2) rfl))) (hts _ (hw_sl0 _ (List.mem_of_getElem? (i := 6) rfl))) (va_eqi (hs _ (by decide +kernel))) hw_NGz
  have zQ : va_Zq "jdk/internal/util/Preconditions" "SIOOBE_FORMATTER" "Ljava/util/function/BiFunction;" (hw_NG (fun _ => 0) s.heap.size) s s.heap := va_Zqof (hts _ (hw_sl0 _ (List.mem_of_getElem? (i := 3) rfl))) (hts _ (hw_sl0 _ (List.mem_of_getElem? (i := 7) rfl))) (hs _ (by decide +kernel)) hw_NGz
  refine ⟨fun k => if k = 0 then tH else if k = 1 then tW else if k < 10 then adK (k - 2) else adV (k - 10), zH, aH, zW, aW, zC, zQ, ?_, ?_, hw_exs hg hts⟩
  · have e1 : ∀ i, i < 8 → (if 2 + i = 0 then tH else if 2 + i = 1 then tW else if 2 + i < 10 then adK (2 + i - 2) else adV (2 + i - 10)) = adK i := by
      intro i hi
      rw [if_neg (by omega), if_neg (by omega), if_pos (by omega), show 2 + i - 2 = i by omega]
    have e2 : ∀ i, (if 10 + i = 0 then tH else if 10 + i = 1 then tW else if 10 + i < 10 then adK (10 + i - 2) else adV (10 + i - 10)) = adV i := by
      intro i
      rw [if_neg (by omega), if_neg (by omega), if_neg (by omega), show 10 + i - 10 = i by omega]
    refine ⟨fun i hi => ?_, fun i j hi hj h => ?_⟩
    · have := hS.1 i hi
      simp only [e1 i hi, e2 i]
      exact this
    · refine hS.2 i j hi hj ?_
      simp only [e1 i hi, e1 j hj] at h
      exact h
  · intro i hi
    have e1 : (if 2 + i = 0 then tH else if 2 + i = 1 then tW else if 2 + i < 10 then adK (2 + i - 2) else adV (2 + i - 10)) = adK i := by
      rw [if_neg (by omega), if_neg (by omega), if_pos (by omega), show 2 + i - 2 = i by omega]
    simp only [e1]
    exact vk_R.of (hts _ (hw_sr0 i hi)) (hR i hi)
set_option maxRecDepth 100000 in
theorem hw_in0 : ∀ w ∈ ([.instantiable RX0 2, .instantiable RX1 7, .instantiable RX2 2, .instantiable RX4 4, .instantiable RX5 2, .instantiable RX6 7, .instantiable RX7 3, .instantiable RX8 2, .instantiable RX9 7, .instantiable RX10 10, .instantiable RX11 14, .instantiable RX12 45] : List Cond), w ∈ lw_tbl := by decide +kernel
set_option maxRecDepth 100000 in
theorem hw_ac0 : ∀ w ∈ ([.arrayClass .int, .arrayClass .long, .arrayClass .boolean] : List Cond), w ∈ lw_tbl := by decide +kernel
set_option maxRecDepth 100000 in
theorem hw_layX0 : ∀ w ∈ u_ws RX0 TX0 2, w ∈ lw_tbl := by decide +kernel
set_option maxRecDepth 100000 in
theorem hw_layX1 : ∀ w ∈ u_ws RX1 TX1 7, w ∈ lw_tbl := by decide +kernel
set_option maxRecDepth 100000 in
theorem hw_layX2 : ∀ w ∈ u_ws RX2 TX2 2, w ∈ lw_tbl := by decide +kernel
set_option maxRecDepth 100000 in
theorem hw_layX4 : ∀ w ∈ u_ws RX4 TX4 4, w ∈ lw_tbl := by decide +kernel
set_option maxRecDepth 100000 in
theorem hw_layX5 : ∀ w ∈ u_ws RX5 TX5 2, w ∈ lw_tbl := by decide +kernel
set_option maxRecDepth 100000 in
theorem hw_layX6 : ∀ w ∈ u_ws RX6 TX6 7, w ∈ lw_tbl := by decide +kernel
set_option maxRecDepth 100000 in
theorem hw_layX7 : ∀ w ∈ u_ws RX7 TX7 3, w ∈ lw_tbl := by decide +kernel
set_option maxRecDepth 100000 in
theorem hw_layX8 : ∀ w ∈ u_ws RX8 TX8 2, w ∈ lw_tbl := by decide +kernel
set_option maxRecDepth 100000 in
theorem hw_layX9 : ∀ w ∈ u_ws RX9 TX9 7, w ∈ lw_tbl := by decide +kernel
set_option maxRecDepth 100000 in
theorem hw_layX10 : ∀ w ∈ u_ws RX10 TX10 10, w ∈ lw_tbl := by decide +kernel
set_option maxRecDepth 100000 in
theorem hw_layX11 : ∀ w ∈ u_ws RX11 TX11 14, w ∈ lw_tbl := by decide +kernel
set_option maxRecDepth 100000 in
theorem hw_layX12 : ∀ w ∈ u_ws RX12 TX12 45, w ∈ lw_tbl := by decide +kernel
theorem hw_arrP {b : Nat} {s : State} {ty : FieldType} (h : (Cond.arrayClass ty).before #[Value.ref b] s = true) : ∃ c : ClassId, ArrOfT s c ty ∧ s.vm.findClass ("[" ++ ty.toString) = some c := by
  obtain ⟨c, k, comp, h1, h2, h3⟩ := Cond.arrayClass_spec h
  exact ⟨c, fun N z => ⟨(fun k h => by cases h), k, h2, comp, h3⟩, h1⟩
theorem hw_arrO {s : State} {C : String} (h : va_AO C s) : ∃ c : ClassId, ArrOfT s c (.object C) ∧ va_RA s c (.object C) := by
  obtain ⟨comp, c, k, h1, h2, h3, h4, h5⟩ := Cond.arrayOver_spec h
  exact ⟨c, fun N z => ⟨(fun k h => by cases h), k, h3, comp, h4⟩, k, comp, h3, h4, h1, h5⟩
theorem hw_kstart {b : Nat} {s : State} (hts : ∀ w ∈ lw_tbl, w.before #[Value.ref b] s = true) (hE : hw_EX s) : ∃ (D : va_G) (dA : Nat → ClassId), va_K D vwCl (hw_ty dA) s := by
  obtain ⟨a0, p0, q0⟩ := hw_arrP (hts _ (hw_ac0 _ (List.mem_of_getElem? (i := 0) rfl)))
  obtain ⟨a1, p1, q1⟩ := hw_arrP (hts _ (hw_ac0 _ (List.mem_of_getElem? (i := 1) rfl)))
  obtain ⟨a2, p2, q2⟩ := hw_arrP (hts _ (hw_ac0 _ (List.mem_of_getElem? (i := 2) rfl)))
  obtain ⟨a3, p3, q3⟩ := hw_arrO (hw_eo_Key hE)
  obtain ⟨a4, p4, q4⟩ := hw_arrO (hw_eo_Lock hE)
  obtain ⟨a5, p5, q5⟩ := hw_arrO (hw_eo_Standing hE)
  obtain ⟨a6, p6, q6⟩ := hw_arrO (hw_eo_Text hE)
  obtain ⟨a7, p7, q7⟩ := hw_arrO (hw_eo_Rack hE)
  obtain ⟨c0, i0, k0⟩ := u_known hts hw_layX0 (hts _ (hw_in0 _ (List.mem_of_getElem? (i := 0) rfl)))
  obtain ⟨c1, i1, k1⟩ := u_known hts hw_layX1 (hts _ (hw_in0 _ (List.mem_of_getElem? (i := 1) rfl)))
  obtain ⟨c2, i2, k2⟩ := u_known hts hw_layX2 (hts _ (hw_in0 _ (List.mem_of_getElem? (i := 2) rfl)))
  obtain ⟨c3, i3, k3⟩ := u_known hts hw_layX4 (hts _ (hw_in0 _ (List.mem_of_getElem? (i := 3) rfl)))
  obtain ⟨c4, i4, k4⟩ := u_known hts hw_layX5 (hts _ (hw_in0 _ (List.mem_of_getElem? (i := 4) rfl)))
  obtain ⟨c5, i5, k5⟩ := u_known hts hw_layX6 (hts _ (hw_in0 _ (List.mem_of_getElem? (i := 5) rfl)))
  obtain ⟨c6, i6, k6⟩ := u_known hts hw_layX7 (hts _ (hw_in0 _ (List.mem_of_getElem? (i := 6) rfl)))
  obtain ⟨c7, i7, k7⟩ := u_known hts hw_layX8 (hts _ (hw_in0 _ (List.mem_of_getElem? (i := 7) rfl)))
  obtain ⟨c8, i8, k8⟩ := u_known hts hw_layX9 (hts _ (hw_in0 _ (List.mem_of_getElem? (i := 8) rfl)))
  obtain ⟨c9, i9, k9⟩ := u_known hts hw_layX10 (hts _ (hw_in0 _ (List.mem_of_getElem? (i := 9) rfl)))
  obtain ⟨c10, i10, k10⟩ := u_known hts hw_layX11 (hts _ (hw_in0 _ (List.mem_of_getElem? (i := 10) rfl)))
  obtain ⟨c11, i11, k11⟩ := u_known hts hw_layX12 (hts _ (hw_in0 _ (List.mem_of_getElem? (i := 11) rfl)))
  refine ⟨(fun c => [c0, c1, c2, c3, c4, c5, c6, c7, c8, c9, c10, c11].getD c c0, fun c => [i0, i1, i2, i3, i4, i5, i6, i7, i8, i9, i10, i11].getD c i0), fun i => [a0, a1, a2, a3, a4, a5, a6, a7].getD i a0, ?_, ?_⟩
  · intro c q h
    have hc : c < 12 := (List.getElem?_eq_some_iff.mp h).1
    rcases (show c = 0 ∨ c = 1 ∨ c = 2 ∨ c = 3 ∨ c = 4 ∨ c = 5 ∨ c = 6 ∨ c = 7 ∨ c = 8 ∨ c = 9 ∨ c = 10 ∨ c = 11 by omega) with rfl | rfl | rfl | rfl | rfl | rfl | rfl | rfl | rfl | rfl | rfl | rfl
    · cases h
      exact k0
    · cases h
      exact k1
    · cases h
      exact k2
    · cases h
      exact k3
    · cases h
      exact k4
    · cases h
      exact k5
    · cases h
      exact k6
    · cases h
      exact k7
    · cases h
      exact k8
    · cases h
      exact k9
    · cases h
      exact k10
    · cases h
      exact k11
  · intro c q h
    have hc : c < 8 := (List.getElem?_eq_some_iff.mp h).1
    rcases (show c = 0 ∨ c = 1 ∨ c = 2 ∨ c = 3 ∨ c = 4 ∨ c = 5 ∨ c = 6 ∨ c = 7 by omega) with rfl | rfl | rfl | rfl | rfl | rfl | rfl | rfl
    · cases h
      exact ⟨p0, q0⟩
    · cases h
      exact ⟨p1, q1⟩
    · cases h
      exact ⟨p2, q2⟩
    · cases h
      exact ⟨p3, q3⟩
    · cases h
      exact ⟨p4, q4⟩
    · cases h
      exact ⟨p5, q5⟩
    · cases h
      exact ⟨p6, q6⟩
    · cases h
      exact ⟨p7, q7⟩
