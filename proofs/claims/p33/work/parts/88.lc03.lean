set_option maxHeartbeats 40000000 in
set_option maxRecDepth 100000 in
theorem hw_case1064 {p : Program} {e : Env} {s : State} {m : MethodId} {below : List Frame} {meth : Method} {c : Code} (l : Launch) {b L : Nat} {xs : Nat → Int32} {D : hw_D} {G : Nat → Nat} {H : Heap} {locs : List Loc} {x mo k n : Nat} {y3 : Int32} {ls : Array Slot} (hL : L ≤ 384) (hy0 : 0 ≤ y3.toInt ∧ y3.toInt ≤ 384) (hy : y3.toInt + 6 ≤ L) (hkc : k + 20 ≤ 600000) (hnc : n + 80 ≤ 7302250) (hx : p.tables.exec = Jvm.exec) (hb : c.code = code) (hr : meth.sig.returnType = ret) (hml : c.maxLocals = 4) (hown : s.vm.findClass R_law = some m.cls) (hts0 : ∀ w ∈ lw_tbl, w.before #[Value.ref b] s = true) (hts : ∀ w ∈ wsL_law, w.before #[Value.ref b] s = true) (hX : va_X b L xs s s.heap) (hbl : b < s.heap.size) (hlocks : meth.locks = false) (hG0 : G = fun _ => 0) (hK : va_K D.1 vwCl (hw_ty D.2.1) s) (hST : hw_ST D.2.2 G s.heap.size s) (hI : hw_I D G s H x mo) (hS : va_S (hw_AW G [1, 2, 3, 4, 5, 6, 7, 8, 9, 10, 11, 12, 13, 14, 15, 16, 17, 18, 19, 20, 21, 22, 23, 24, 25, 26, 27, 28, 29, 30, 31, 32, 40, 42, 44, 45, 46, 48, 49, 50, 51, 53, 55, 58, 59, 67, 68, 69, 70, 71, 72, 73, 74, 75, 76, 77, 78, 79, 80, 81, 82, 83, 84, 101, 102, 103, 104, 105, 106, 107, 108, 109, 127, 128, 129, 132] s.heap.size) s.heap H locs) (hl : lv_has ls 4 [(3, .int y3), (2, .ref mo), (1, .ref x), (0, .ref b)]) (hk9 : ∀ (H1 : Heap) (locs1 : List Loc) (ls1 : Array Slot), hw_I D G s H1 x mo → va_S (hw_AW G [1, 2, 3, 4, 5, 6, 7, 8, 9, 10, 11, 12, 13, 14, 15, 16, 17, 18, 19, 20, 21, 22, 23, 24, 25, 26, 27, 28, 29, 30, 31, 32, 40, 42, 44, 45, 46, 48, 49, 50, 51, 53, 55, 58, 59, 67, 68, 69, 70, 71, 72, 73, 74, 75, 76, 77, 78, 79, 80, 81, 82, 83, 84, 101, 102, 103, 104, 105, 106, 107, 108, 109, 127, 128, 129, 132] s.heap.size) s.heap H1 locs1 → lv_has ls1 4 [(3, .int y3), (2, .ref mo), (1, .ref x), (0, .ref b)] → W p l e room_1 s m #[Value.ref b] below meth c H1 locs1 (k + 20) (n + 80) (lw_Z below #[Value.ref b] s) (F0 m 1187 ls1 [])) : W p l e room_1 s m #[Value.ref b] below meth c H locs k n (lw_Z below #[Value.ref b] s) (F0 m 1064 ls []) := by
  have hH0 : hw_HT D G s.heap := fun a h => absurd (by rw [hG0]) h
  have hbA : ¬ (hw_AW G [1, 2, 3, 4, 5, 6, 7, 8, 9, 10, 11, 12, 13, 14, 15, 16, 17, 18, 19, 20, 21, 22, 23, 24, 25, 26, 27, 28, 29, 30, 31, 32, 40, 42, 44, 45, 46, 48, 49, 50, 51, 53, 55, 58, 59, 67, 68, 69, 70, 71, 72, 73, 74, 75, 76, 77, 78, 79, 80, 81, 82, 83, 84, 101, 102, 103, 104, 105, 106, 107, 108, 109, 127, 128, 129, 132] s.heap.size) b := hw_AWn (k := 0) (by rw [hG0]) (by decide) hbl
  have hLi : (Int32.ofNat L).toInt = (L : Int) := nI_toInt (by omega)
  refine hw_I_elim hI ?_
  intro G1 rx rm pnx pcx ksx scx udm kym lom wkm dkm lnm smm fim bem rkm rlm rwm clm dgm fq la sz9 fla fsz th tt fth hH hGe1 wx wm gx gm Rx vx gsc vq hRK Rm vm gm0 gm1 gm2 gm3 gm4 gm5 gm6 gm7 gm8 gm9 gm10 gm11 vla vsz qsz hrel vth hrt
  have hHs := hH0
  have hz24 := hw_hz24 hrel qsz
  have qq := hRK.q
  refine lv_aload_n hx hb dL_law_1064 rfl (lv_at hl 2 rfl) ?_
  refine lv_aload_n hx hb dL_law_1065 rfl (lv_at hl 3 rfl) ?_
  refine lv_iload_n hx hb dL_law_1066 rfl (lv_at hl 0 rfl) ?_
  refine lv_iconst (v := 1) hx hb dL_law_1067 (by decide) ?_
  refine lv_iadd hx hb dL_law_1068 ?_
  have t1 : (y3 + 1).toInt = y3.toInt + 1 := hw_add rfl rfl (by omega) (by omega)
  refine va_sld hx hb hX hbl hbA hS (hw_in (by omega) (by omega)) dL_law_1069 ?_
  refine hw_cM0 (va_runV (As := [.int (xs (y3 + 1).toNatClampNeg)]) (rest := []) ⟨hx, hb, hml, hown, hts⟩ (k3_X11_drop l D G1 x (xs (y3 + 1).toNatClampNeg) _ th la sz9 tt rx pnx pcx ksx scx fq gx Rx ⟨by first | decide | omega, by first | decide | omega⟩ qq) (cwV 1 hts gL_law_X11_drop rfl rfl rfl (by decide +kernel) ⟨Nat.le_of_ble_eq_true rfl, Nat.le_of_ble_eq_true rfl⟩) (hw_pV (hw_rc (q := (RX11, TX11, 14)) hK vx rfl) hH hK hST hS (by decide) (hw_hG hGe1) ⟨vx, vq, hRK⟩) rfl rfl hl.1 rfl (lv_room (Nat.le_of_ble_eq_true rfl)) dL_law_1070 ⟨by show _ ≤ 600000; omega, by show _ ≤ 7302250; omega⟩) hS (hw_AWsub (by decide) hGe1 hS.1) (fun v H locs hp hz hk hS => ?_)
  rcases hp with ⟨rfl, hH, hRK, v2, v3, q4⟩ | ⟨rfl, hH, hRK, v5, v6, q7, q8⟩ | ⟨x9, rfl, hH, hRK, v10, v11, q12, q13, q14⟩
  · have vm := va_at.kept vm (hk _ (hw_lt vm) (hw_AWn gm (by decide) (hw_lt vm)))
    have vla := va_at.kept vla (hk _ (hw_lt vla) (hw_AWn (hw_RM_41 Rm) (by decide) (hw_lt vla)))
    have vsz := va_at.kept vsz (hk _ (hw_lt vsz) (hw_AWn (hw_RM_42 Rm) (by decide) (hw_lt vsz)))
    have vth := va_at.kept vth (hk _ (hw_lt vth) (hw_AWn (hw_RM_43 Rm) (by decide) (hw_lt vth)))
    have hr15 : 0 ≤ (xs (y3 + 1).toNatClampNeg).toInt ∧ (xs (y3 + 1).toNatClampNeg).toInt ≤ 3 → ((la (xs (y3 + 1).toNatClampNeg).toNatClampNeg).toInt = -1 ↔ (fsz (xs (y3 + 1).toNatClampNeg).toNatClampNeg).toInt < 0) ∧ ((la (xs (y3 + 1).toNatClampNeg).toNatClampNeg).toInt ≠ -1 → (fla (xs (y3 + 1).toNatClampNeg).toNatClampNeg).toInt = (la (xs (y3 + 1).toNatClampNeg).toNatClampNeg).toInt ∧ (fsz (xs (y3 + 1).toNatClampNeg).toNatClampNeg).toInt = (sz9 (xs (y3 + 1).toNatClampNeg).toNatClampNeg).toInt) := fun h9 => hrel _ (hw_i4 h9)
    refine lv_pop hx hb dL_law_1073 rfl ?_
    refine lv_aload_n hx hb dL_law_1074 rfl (lv_at hl 1 rfl) ?_
    refine lv_aload_n hx hb dL_law_1075 rfl (lv_at hl 3 rfl) ?_
    refine lv_iload_n hx hb dL_law_1076 rfl (lv_at hl 0 rfl) ?_
    refine lv_iconst (v := 1) hx hb dL_law_1077 (by decide) ?_
    refine lv_iadd hx hb dL_law_1078 ?_
    refine va_sld hx hb hX hbl hbA hS (hw_in (by omega) (by omega)) dL_law_1079 ?_
    refine hw_cM0 (va_runV (As := [.int (xs (y3 + 1).toNatClampNeg)]) (rest := []) ⟨hx, hb, hml, hown, hts⟩ (k_X12_drop l D G1 mo (xs (y3 + 1).toNatClampNeg) _ rm udm kym lom wkm dkm lnm smm fim bem rkm rlm rwm clm dgm fsz gm Rm ⟨by first | decide | omega, by first | decide | omega⟩ ⟨by first | decide | omega, by first | decide | omega⟩ ⟨by first | decide | omega, by first | decide | omega⟩ ⟨by first | decide | omega, by first | decide | omega⟩ ⟨by first | decide | omega, by first | decide | omega⟩ ⟨by first | decide | omega, by first | decide | omega⟩ ⟨by first | decide | omega, by first | decide | omega⟩ ⟨by first | decide | omega, by first | decide | omega⟩ ⟨by first | decide | omega, by first | decide | omega⟩ ⟨by first | decide | omega, by first | decide | omega⟩ ⟨by first | decide | omega, by first | decide | omega⟩ ⟨by first | decide | omega, by first | decide | omega⟩ qsz) (cwV 1 hts gL_law_X12_drop rfl rfl rfl (by decide +kernel) ⟨Nat.le_of_ble_eq_true rfl, Nat.le_of_ble_eq_true rfl⟩) (hw_pV (hw_rc (q := (RX12, TX12, 45)) hK vm rfl) hH hK hST hS (by decide) (hw_hG hGe1) ⟨vm, vsz⟩) rfl rfl hl.1 rfl (lv_room (Nat.le_of_ble_eq_true rfl)) dL_law_1080 ⟨by show _ ≤ 600000; omega, by show _ ≤ 7302250; omega⟩) hS (hw_AWsub (by decide) hGe1 hS.1) (fun v H locs hp hz hk hS => ?_)
    rcases hp with ⟨f16, rfl, hH, v17, v18, q19, q20⟩ | ⟨f21, rfl, hH, v22, v23, q24, q25, q26⟩ | ⟨x27, f28, rfl, hH, v29, v30, q31, q32, q33, q34⟩
    · have hRK := hw_RK3.kept hRK (fun q9 h9 l9 => hk q9 l9 (by rcases h9 with h9 | h9 <;> exact hw_AWn h9 (by decide) l9))
      have v2 := va_at.kept v2 (hk _ (hw_lt v2) (hw_AWn gx (by decide) (hw_lt v2)))
      have v3 := va_at.kept v3 (hk _ (hw_lt v3) (hw_AWn (hw_RX_13 Rx) (by decide) (hw_lt v3)))
      have vla := va_at.kept vla (hk _ (hw_lt vla) (hw_AWn (hw_RM_41 Rm) (by decide) (hw_lt vla)))
      have vth := va_at.kept vth (hk _ (hw_lt vth) (hw_AWn (hw_RM_43 Rm) (by decide) (hw_lt vth)))
      have q35 : ∀ j, j < 4 → -1 ≤ (f16 j).toInt ∧ (f16 j).toInt ≤ 24 := by rw [q20]; exact qsz
      refine lv_pop hx hb dL_law_1083 rfl ?_
      refine lv_goto (tgt := 1187) hx hb dL_law_1084 (by decide) ?_
      refine W.widen (k := k + 20) (n := n + 80) (by first | omega | (show _ ≤ _; omega)) (by first | omega | (show _ ≤ _; omega)) ?_
      exact hk9 _ _ _ ⟨G1, rx, rm, pnx, pcx, ksx, scx, udm, kym, lom, wkm, dkm, lnm, smm, fim, bem, rkm, rlm, rwm, clm, dgm, fq, la, sz9, fla, f16, th, tt, fth, hH, hGe1, wx, wm, gx, gm, Rx, v2, ⟨by first | decide | omega, by first | decide | omega⟩, v3, hRK, Rm, v17, ⟨by first | decide | omega, by first | decide | omega⟩, ⟨by first | decide | omega, by first | decide | omega⟩, ⟨by first | decide | omega, by first | decide | omega⟩, ⟨by first | decide | omega, by first | decide | omega⟩, ⟨by first | decide | omega, by first | decide | omega⟩, ⟨by first | decide | omega, by first | decide | omega⟩, ⟨by first | decide | omega, by first | decide | omega⟩, ⟨by first | decide | omega, by first | decide | omega⟩, ⟨by first | decide | omega, by first | decide | omega⟩, ⟨by first | decide | omega, by first | decide | omega⟩, ⟨by first | decide | omega, by first | decide | omega⟩, ⟨by first | decide | omega, by first | decide | omega⟩, vla, v18, q35, (by rw [q20]; exact hrel), vth, hrt⟩ hS hl
    · have hRK := hw_RK3.kept hRK (fun q9 h9 l9 => hk q9 l9 (by rcases h9 with h9 | h9 <;> exact hw_AWn h9 (by decide) l9))
      have v2 := va_at.kept v2 (hk _ (hw_lt v2) (hw_AWn gx (by decide) (hw_lt v2)))
      have v3 := va_at.kept v3 (hk _ (hw_lt v3) (hw_AWn (hw_RX_13 Rx) (by decide) (hw_lt v3)))
      have vla := va_at.kept vla (hk _ (hw_lt vla) (hw_AWn (hw_RM_41 Rm) (by decide) (hw_lt vla)))
      have vth := va_at.kept vth (hk _ (hw_lt vth) (hw_AWn (hw_RM_43 Rm) (by decide) (hw_lt vth)))
      have q36 : ∀ j, j < 4 → -1 ≤ (f21 j).toInt ∧ (f21 j).toInt ≤ 24 := by rw [q26]; exact qsz
      refine lv_pop hx hb dL_law_1083 rfl ?_
      refine lv_goto (tgt := 1187) hx hb dL_law_1084 (by decide) ?_
      refine W.widen (k := k + 20) (n := n + 80) (by first | omega | (show _ ≤ _; omega)) (by first | omega | (show _ ≤ _; omega)) ?_
      exact hk9 _ _ _ ⟨G1, rx, rm, pnx, pcx, ksx, scx, udm, kym, lom, wkm, dkm, lnm, smm, fim, bem, rkm, rlm, rwm, clm, dgm, fq, la, sz9, fla, f21, th, tt, fth, hH, hGe1, wx, wm, gx, gm, Rx, v2, ⟨by first | decide | omega, by first | decide | omega⟩, v3, hRK, Rm, v22, ⟨by first | decide | omega, by first | decide | omega⟩, ⟨by first | decide | omega, by first | decide | omega⟩, ⟨by first | decide | omega, by first | decide | omega⟩, ⟨by first | decide | omega, by first | decide | omega⟩, ⟨by first | decide | omega, by first | decide | omega⟩, ⟨by first | decide | omega, by first | decide | omega⟩, ⟨by first | decide | omega, by first | decide | omega⟩, ⟨by first | decide | omega, by first | decide | omega⟩, ⟨by first | decide | omega, by first | decide | omega⟩, ⟨by first | decide | omega, by first | decide | omega⟩, ⟨by first | decide | omega, by first | decide | omega⟩, ⟨by first | decide | omega, by first | decide | omega⟩, vla, v23, q36, (by rw [q26]; exact hrel), vth, hrt⟩ hS hl
    · have q33i := hw_ieq q33
      have hRK := hw_RK3.kept hRK (fun q9 h9 l9 => hk q9 l9 (by rcases h9 with h9 | h9 <;> exact hw_AWn h9 (by decide) l9))
      have v2 := va_at.kept v2 (hk _ (hw_lt v2) (hw_AWn gx (by decide) (hw_lt v2)))
      have v3 := va_at.kept v3 (hk _ (hw_lt v3) (hw_AWn (hw_RX_13 Rx) (by decide) (hw_lt v3)))
      have vla := va_at.kept vla (hk _ (hw_lt vla) (hw_AWn (hw_RM_41 Rm) (by decide) (hw_lt vla)))
      have vth := va_at.kept vth (hk _ (hw_lt vth) (hw_AWn (hw_RM_43 Rm) (by decide) (hw_lt vth)))
      have q37 : ∀ j, j < 4 → -1 ≤ (f28 j).toInt ∧ (f28 j).toInt ≤ 24 := by rw [q34]; exact hw_qsz_up qsz (by decide) (by decide)
      refine lv_pop hx hb dL_law_1083 rfl ?_
      refine lv_goto (tgt := 1187) hx hb dL_law_1084 (by decide) ?_
      refine W.widen (k := k + 20) (n := n + 80) (by first | omega | (show _ ≤ _; omega)) (by first | omega | (show _ ≤ _; omega)) ?_
      exact hk9 _ _ _ ⟨G1, rx, rm, pnx, pcx, ksx, scx, udm, kym, lom, wkm, dkm, lnm, smm, fim, bem, rkm, rlm, rwm, clm, dgm, fq, la, sz9, fla, f28, th, tt, fth, hH, hGe1, wx, wm, gx, gm, Rx, v2, ⟨by first | decide | omega, by first | decide | omega⟩, v3, hRK, Rm, v29, ⟨by first | decide | omega, by first | decide | omega⟩, ⟨by first | decide | omega, by first | decide | omega⟩, ⟨by first | decide | omega, by first | decide | omega⟩, ⟨by first | decide | omega, by first | decide | omega⟩, ⟨by first | decide | omega, by first | decide | omega⟩, ⟨by first | decide | omega, by first | decide | omega⟩, ⟨by first | decide | omega, by first | decide | omega⟩, ⟨by first | decide | omega, by first | decide | omega⟩, ⟨by first | decide | omega, by first | decide | omega⟩, ⟨by first | decide | omega, by first | decide | omega⟩, ⟨by first | decide | omega, by first | decide | omega⟩, ⟨by first | decide | omega, by first | decide | omega⟩, vla, v30, q37, (by exfalso; omega), vth, (by exfalso; omega)⟩ hS hl
  · have vm := va_at.kept vm (hk _ (hw_lt vm) (hw_AWn gm (by decide) (hw_lt vm)))
    have vla := va_at.kept vla (hk _ (hw_lt vla) (hw_AWn (hw_RM_41 Rm) (by decide) (hw_lt vla)))
    have vsz := va_at.kept vsz (hk _ (hw_lt vsz) (hw_AWn (hw_RM_42 Rm) (by decide) (hw_lt vsz)))
    have vth := va_at.kept vth (hk _ (hw_lt vth) (hw_AWn (hw_RM_43 Rm) (by decide) (hw_lt vth)))
    have hr38 : 0 ≤ (xs (y3 + 1).toNatClampNeg).toInt ∧ (xs (y3 + 1).toNatClampNeg).toInt ≤ 3 → ((la (xs (y3 + 1).toNatClampNeg).toNatClampNeg).toInt = -1 ↔ (fsz (xs (y3 + 1).toNatClampNeg).toNatClampNeg).toInt < 0) ∧ ((la (xs (y3 + 1).toNatClampNeg).toNatClampNeg).toInt ≠ -1 → (fla (xs (y3 + 1).toNatClampNeg).toNatClampNeg).toInt = (la (xs (y3 + 1).toNatClampNeg).toNatClampNeg).toInt ∧ (fsz (xs (y3 + 1).toNatClampNeg).toNatClampNeg).toInt = (sz9 (xs (y3 + 1).toNatClampNeg).toNatClampNeg).toInt) := fun h9 => hrel _ (hw_i4 h9)
    refine lv_pop hx hb dL_law_1073 rfl ?_
    refine lv_aload_n hx hb dL_law_1074 rfl (lv_at hl 1 rfl) ?_
    refine lv_aload_n hx hb dL_law_1075 rfl (lv_at hl 3 rfl) ?_
    refine lv_iload_n hx hb dL_law_1076 rfl (lv_at hl 0 rfl) ?_
    refine lv_iconst (v := 1) hx hb dL_law_1077 (by decide) ?_
    refine lv_iadd hx hb dL_law_1078 ?_
    refine va_sld hx hb hX hbl hbA hS (hw_in (by omega) (by omega)) dL_law_1079 ?_
    refine hw_cM0 (va_runV (As := [.int (xs (y3 + 1).toNatClampNeg)]) (rest := []) ⟨hx, hb, hml, hown, hts⟩ (k_X12_drop l D G1 mo (xs (y3 + 1).toNatClampNeg) _ rm udm kym lom wkm dkm lnm smm fim bem rkm rlm rwm clm dgm fsz gm Rm ⟨by first | decide | omega, by first | decide | omega⟩ ⟨by first | decide | omega, by first | decide | omega⟩ ⟨by first | decide | omega, by first | decide | omega⟩ ⟨by first | decide | omega, by first | decide | omega⟩ ⟨by first | decide | omega, by first | decide | omega⟩ ⟨by first | decide | omega, by first | decide | omega⟩ ⟨by first | decide | omega, by first | decide | omega⟩ ⟨by first | decide | omega, by first | decide | omega⟩ ⟨by first | decide | omega, by first | decide | omega⟩ ⟨by first | decide | omega, by first | decide | omega⟩ ⟨by first | decide | omega, by first | decide | omega⟩ ⟨by first | decide | omega, by first | decide | omega⟩ qsz) (cwV 1 hts gL_law_X12_drop rfl rfl rfl (by decide +kernel) ⟨Nat.le_of_ble_eq_true rfl, Nat.le_of_ble_eq_true rfl⟩) (hw_pV (hw_rc (q := (RX12, TX12, 45)) hK vm rfl) hH hK hST hS (by decide) (hw_hG hGe1) ⟨vm, vsz⟩) rfl rfl hl.1 rfl (lv_room (Nat.le_of_ble_eq_true rfl)) dL_law_1080 ⟨by show _ ≤ 600000; omega, by show _ ≤ 7302250; omega⟩) hS (hw_AWsub (by decide) hGe1 hS.1) (fun v H locs hp hz hk hS => ?_)
    rcases hp with ⟨f39, rfl, hH, v40, v41, q42, q43⟩ | ⟨f44, rfl, hH, v45, v46, q47, q48, q49⟩ | ⟨x50, f51, rfl, hH, v52, v53, q54, q55, q56, q57⟩
    · have hRK := hw_RK3.kept hRK (fun q9 h9 l9 => hk q9 l9 (by rcases h9 with h9 | h9 <;> exact hw_AWn h9 (by decide) l9))
      have v5 := va_at.kept v5 (hk _ (hw_lt v5) (hw_AWn gx (by decide) (hw_lt v5)))
      have v6 := va_at.kept v6 (hk _ (hw_lt v6) (hw_AWn (hw_RX_13 Rx) (by decide) (hw_lt v6)))
      have vla := va_at.kept vla (hk _ (hw_lt vla) (hw_AWn (hw_RM_41 Rm) (by decide) (hw_lt vla)))
      have vth := va_at.kept vth (hk _ (hw_lt vth) (hw_AWn (hw_RM_43 Rm) (by decide) (hw_lt vth)))
      have q58 : ∀ j, j < 4 → -1 ≤ (f39 j).toInt ∧ (f39 j).toInt ≤ 24 := by rw [q43]; exact qsz
      refine lv_pop hx hb dL_law_1083 rfl ?_
      refine lv_goto (tgt := 1187) hx hb dL_law_1084 (by decide) ?_
      refine W.widen (k := k + 20) (n := n + 80) (by first | omega | (show _ ≤ _; omega)) (by first | omega | (show _ ≤ _; omega)) ?_
      exact hk9 _ _ _ ⟨G1, rx, rm, pnx, pcx, ksx, scx, udm, kym, lom, wkm, dkm, lnm, smm, fim, bem, rkm, rlm, rwm, clm, dgm, fq, la, sz9, fla, f39, th, tt, fth, hH, hGe1, wx, wm, gx, gm, Rx, v5, ⟨by first | decide | omega, by first | decide | omega⟩, v6, hRK, Rm, v40, ⟨by first | decide | omega, by first | decide | omega⟩, ⟨by first | decide | omega, by first | decide | omega⟩, ⟨by first | decide | omega, by first | decide | omega⟩, ⟨by first | decide | omega, by first | decide | omega⟩, ⟨by first | decide | omega, by first | decide | omega⟩, ⟨by first | decide | omega, by first | decide | omega⟩, ⟨by first | decide | omega, by first | decide | omega⟩, ⟨by first | decide | omega, by first | decide | omega⟩, ⟨by first | decide | omega, by first | decide | omega⟩, ⟨by first | decide | omega, by first | decide | omega⟩, ⟨by first | decide | omega, by first | decide | omega⟩, ⟨by first | decide | omega, by first | decide | omega⟩, vla, v41, q58, (by rw [q43]; exact hrel), vth, hrt⟩ hS hl
    · have hRK := hw_RK3.kept hRK (fun q9 h9 l9 => hk q9 l9 (by rcases h9 with h9 | h9 <;> exact hw_AWn h9 (by decide) l9))
      have v5 := va_at.kept v5 (hk _ (hw_lt v5) (hw_AWn gx (by decide) (hw_lt v5)))
      have v6 := va_at.kept v6 (hk _ (hw_lt v6) (hw_AWn (hw_RX_13 Rx) (by decide) (hw_lt v6)))
      have vla := va_at.kept vla (hk _ (hw_lt vla) (hw_AWn (hw_RM_41 Rm) (by decide) (hw_lt vla)))
      have vth := va_at.kept vth (hk _ (hw_lt vth) (hw_AWn (hw_RM_43 Rm) (by decide) (hw_lt vth)))
      have q59 : ∀ j, j < 4 → -1 ≤ (f44 j).toInt ∧ (f44 j).toInt ≤ 24 := by rw [q49]; exact qsz
      refine lv_pop hx hb dL_law_1083 rfl ?_
      refine lv_goto (tgt := 1187) hx hb dL_law_1084 (by decide) ?_
      refine W.widen (k := k + 20) (n := n + 80) (by first | omega | (show _ ≤ _; omega)) (by first | omega | (show _ ≤ _; omega)) ?_
      exact hk9 _ _ _ ⟨G1, rx, rm, pnx, pcx, ksx, scx, udm, kym, lom, wkm, dkm, lnm, smm, fim, bem, rkm, rlm, rwm, clm, dgm, fq, la, sz9, fla, f44, th, tt, fth, hH, hGe1, wx, wm, gx, gm, Rx, v5, ⟨by first | decide | omega, by first | decide | omega⟩, v6, hRK, Rm, v45, ⟨by first | decide | omega, by first | decide | omega⟩, ⟨by first | decide | omega, by first | decide | omega⟩, ⟨by first | decide | omega, by first | decide | omega⟩, ⟨by first | decide | omega, by first | decide | omega⟩, ⟨by first | decide | omega, by first | decide | omega⟩, ⟨by first | decide | omega, by first | decide | omega⟩, ⟨by first | decide | omega, by first | decide | omega⟩, ⟨by first | decide | omega, by first | decide | omega⟩, ⟨by first | decide | omega, by first | decide | omega⟩, ⟨by first | decide | omega, by first | decide | omega⟩, ⟨by first | decide | omega, by first | decide | omega⟩, ⟨by first | decide | omega, by first | decide | omega⟩, vla, v46, q59, (by rw [q49]; exact hrel), vth, hrt⟩ hS hl
    · have q56i := hw_ieq q56
      have hRK := hw_RK3.kept hRK (fun q9 h9 l9 => hk q9 l9 (by rcases h9 with h9 | h9 <;> exact hw_AWn h9 (by decide) l9))
      have v5 := va_at.kept v5 (hk _ (hw_lt v5) (hw_AWn gx (by decide) (hw_lt v5)))
      have v6 := va_at.kept v6 (hk _ (hw_lt v6) (hw_AWn (hw_RX_13 Rx) (by decide) (hw_lt v6)))
      have vla := va_at.kept vla (hk _ (hw_lt vla) (hw_AWn (hw_RM_41 Rm) (by decide) (hw_lt vla)))
      have vth := va_at.kept vth (hk _ (hw_lt vth) (hw_AWn (hw_RM_43 Rm) (by decide) (hw_lt vth)))
      have q60 : ∀ j, j < 4 → -1 ≤ (f51 j).toInt ∧ (f51 j).toInt ≤ 24 := by rw [q57]; exact hw_qsz_up qsz (by decide) (by decide)
      refine lv_pop hx hb dL_law_1083 rfl ?_
      refine lv_goto (tgt := 1187) hx hb dL_law_1084 (by decide) ?_
      refine W.widen (k := k + 20) (n := n + 80) (by first | omega | (show _ ≤ _; omega)) (by first | omega | (show _ ≤ _; omega)) ?_
      exact hk9 _ _ _ ⟨G1, rx, rm, pnx, pcx, ksx, scx, udm, kym, lom, wkm, dkm, lnm, smm, fim, bem, rkm, rlm, rwm, clm, dgm, fq, la, sz9, fla, f51, th, tt, fth, hH, hGe1, wx, wm, gx, gm, Rx, v5, ⟨by first | decide | omega, by first | decide | omega⟩, v6, hRK, Rm, v52, ⟨by first | decide | omega, by first | decide | omega⟩, ⟨by first | decide | omega, by first | decide | omega⟩, ⟨by first | decide | omega, by first | decide | omega⟩, ⟨by first | decide | omega, by first | decide | omega⟩, ⟨by first | decide | omega, by first | decide | omega⟩, ⟨by first | decide | omega, by first | decide | omega⟩, ⟨by first | decide | omega, by first | decide | omega⟩, ⟨by first | decide | omega, by first | decide | omega⟩, ⟨by first | decide | omega, by first | decide | omega⟩, ⟨by first | decide | omega, by first | decide | omega⟩, ⟨by first | decide | omega, by first | decide | omega⟩, ⟨by first | decide | omega, by first | decide | omega⟩, vla, v53, q60, (by exfalso; omega), vth, (by exfalso; omega)⟩ hS hl
  · have q14i := hw_ieq q14
    have vm := va_at.kept vm (hk _ (hw_lt vm) (hw_AWn gm (by decide) (hw_lt vm)))
    have vla := va_at.kept vla (hk _ (hw_lt vla) (hw_AWn (hw_RM_41 Rm) (by decide) (hw_lt vla)))
    have vsz := va_at.kept vsz (hk _ (hw_lt vsz) (hw_AWn (hw_RM_42 Rm) (by decide) (hw_lt vsz)))
    have vth := va_at.kept vth (hk _ (hw_lt vth) (hw_AWn (hw_RM_43 Rm) (by decide) (hw_lt vth)))
    have hr61 : 0 ≤ (xs (y3 + 1).toNatClampNeg).toInt ∧ (xs (y3 + 1).toNatClampNeg).toInt ≤ 3 → ((la (xs (y3 + 1).toNatClampNeg).toNatClampNeg).toInt = -1 ↔ (fsz (xs (y3 + 1).toNatClampNeg).toNatClampNeg).toInt < 0) ∧ ((la (xs (y3 + 1).toNatClampNeg).toNatClampNeg).toInt ≠ -1 → (fla (xs (y3 + 1).toNatClampNeg).toNatClampNeg).toInt = (la (xs (y3 + 1).toNatClampNeg).toNatClampNeg).toInt ∧ (fsz (xs (y3 + 1).toNatClampNeg).toNatClampNeg).toInt = (sz9 (xs (y3 + 1).toNatClampNeg).toNatClampNeg).toInt) := fun h9 => hrel _ (hw_i4 h9)
    refine lv_pop hx hb dL_law_1073 rfl ?_
    refine lv_aload_n hx hb dL_law_1074 rfl (lv_at hl 1 rfl) ?_
    refine lv_aload_n hx hb dL_law_1075 rfl (lv_at hl 3 rfl) ?_
    refine lv_iload_n hx hb dL_law_1076 rfl (lv_at hl 0 rfl) ?_
    refine lv_iconst (v := 1) hx hb dL_law_1077 (by decide) ?_
    refine lv_iadd hx hb dL_law_1078 ?_
    refine va_sld hx hb hX hbl hbA hS (hw_in (by omega) (by omega)) dL_law_1079 ?_
    refine hw_cM0 (va_runV (As := [.int (xs (y3 + 1).toNatClampNeg)]) (rest := []) ⟨hx, hb, hml, hown, hts⟩ (k_X12_drop l D G1 mo (xs (y3 + 1).toNatClampNeg) _ rm udm kym lom wkm dkm lnm smm fim bem rkm rlm rwm clm dgm fsz gm Rm ⟨by first | decide | omega, by first | decide | omega⟩ ⟨by first | decide | omega, by first | decide | omega⟩ ⟨by first | decide | omega, by first | decide | omega⟩ ⟨by first | decide | omega, by first | decide | omega⟩ ⟨by first | decide | omega, by first | decide | omega⟩ ⟨by first | decide | omega, by first | decide | omega⟩ ⟨by first | decide | omega, by first | decide | omega⟩ ⟨by first | decide | omega, by first | decide | omega⟩ ⟨by first | decide | omega, by first | decide | omega⟩ ⟨by first | decide | omega, by first | decide | omega⟩ ⟨by first | decide | omega, by first | decide | omega⟩ ⟨by first | decide | omega, by first | decide | omega⟩ qsz) (cwV 1 hts gL_law_X12_drop rfl rfl rfl (by decide +kernel) ⟨Nat.le_of_ble_eq_true rfl, Nat.le_of_ble_eq_true rfl⟩) (hw_pV (hw_rc (q := (RX12, TX12, 45)) hK vm rfl) hH hK hST hS (by decide) (hw_hG hGe1) ⟨vm, vsz⟩) rfl rfl hl.1 rfl (lv_room (Nat.le_of_ble_eq_true rfl)) dL_law_1080 ⟨by show _ ≤ 600000; omega, by show _ ≤ 7302250; omega⟩) hS (hw_AWsub (by decide) hGe1 hS.1) (fun v H locs hp hz hk hS => ?_)
    rcases hp with ⟨f62, rfl, hH, v63, v64, q65, q66⟩ | ⟨f67, rfl, hH, v68, v69, q70, q71, q72⟩ | ⟨x73, f74, rfl, hH, v75, v76, q77, q78, q79, q80⟩
    · have hRK := hw_RK3.kept hRK (fun q9 h9 l9 => hk q9 l9 (by rcases h9 with h9 | h9 <;> exact hw_AWn h9 (by decide) l9))
      have v10 := va_at.kept v10 (hk _ (hw_lt v10) (hw_AWn gx (by decide) (hw_lt v10)))
      have v11 := va_at.kept v11 (hk _ (hw_lt v11) (hw_AWn (hw_RX_13 Rx) (by decide) (hw_lt v11)))
      have vla := va_at.kept vla (hk _ (hw_lt vla) (hw_AWn (hw_RM_41 Rm) (by decide) (hw_lt vla)))
      have vth := va_at.kept vth (hk _ (hw_lt vth) (hw_AWn (hw_RM_43 Rm) (by decide) (hw_lt vth)))
      have q81 : ∀ j, j < 4 → -1 ≤ (f62 j).toInt ∧ (f62 j).toInt ≤ 24 := by rw [q66]; exact qsz
      refine lv_pop hx hb dL_law_1083 rfl ?_
      refine lv_goto (tgt := 1187) hx hb dL_law_1084 (by decide) ?_
      refine W.widen (k := k + 20) (n := n + 80) (by first | omega | (show _ ≤ _; omega)) (by first | omega | (show _ ≤ _; omega)) ?_
      exact hk9 _ _ _ ⟨G1, rx, rm, pnx, pcx, ksx, scx, udm, kym, lom, wkm, dkm, lnm, smm, fim, bem, rkm, rlm, rwm, clm, dgm, fq, (va_up la (xs (y3 + 1).toNatClampNeg).toNatClampNeg (-1)), (va_up sz9 (xs (y3 + 1).toNatClampNeg).toNatClampNeg (sz9 (xs (y3 + 1).toNatClampNeg).toNatClampNeg)), fla, f62, th, tt, fth, hH, hGe1, wx, wm, gx, gm, Rx, v10, ⟨by first | decide | omega, by first | decide | omega⟩, v11, hRK, Rm, v63, ⟨by first | decide | omega, by first | decide | omega⟩, ⟨by first | decide | omega, by first | decide | omega⟩, ⟨by first | decide | omega, by first | decide | omega⟩, ⟨by first | decide | omega, by first | decide | omega⟩, ⟨by first | decide | omega, by first | decide | omega⟩, ⟨by first | decide | omega, by first | decide | omega⟩, ⟨by first | decide | omega, by first | decide | omega⟩, ⟨by first | decide | omega, by first | decide | omega⟩, ⟨by first | decide | omega, by first | decide | omega⟩, ⟨by first | decide | omega, by first | decide | omega⟩, ⟨by first | decide | omega, by first | decide | omega⟩, ⟨by first | decide | omega, by first | decide | omega⟩, vla, v64, q81, (by exfalso; omega), vth, (by exfalso; omega)⟩ hS hl
    · have hRK := hw_RK3.kept hRK (fun q9 h9 l9 => hk q9 l9 (by rcases h9 with h9 | h9 <;> exact hw_AWn h9 (by decide) l9))
      have v10 := va_at.kept v10 (hk _ (hw_lt v10) (hw_AWn gx (by decide) (hw_lt v10)))
      have v11 := va_at.kept v11 (hk _ (hw_lt v11) (hw_AWn (hw_RX_13 Rx) (by decide) (hw_lt v11)))
      have vla := va_at.kept vla (hk _ (hw_lt vla) (hw_AWn (hw_RM_41 Rm) (by decide) (hw_lt vla)))
      have vth := va_at.kept vth (hk _ (hw_lt vth) (hw_AWn (hw_RM_43 Rm) (by decide) (hw_lt vth)))
      have q82 : ∀ j, j < 4 → -1 ≤ (f67 j).toInt ∧ (f67 j).toInt ≤ 24 := by rw [q72]; exact qsz
      refine lv_pop hx hb dL_law_1083 rfl ?_
      refine lv_goto (tgt := 1187) hx hb dL_law_1084 (by decide) ?_
      refine W.widen (k := k + 20) (n := n + 80) (by first | omega | (show _ ≤ _; omega)) (by first | omega | (show _ ≤ _; omega)) ?_
      exact hk9 _ _ _ ⟨G1, rx, rm, pnx, pcx, ksx, scx, udm, kym, lom, wkm, dkm, lnm, smm, fim, bem, rkm, rlm, rwm, clm, dgm, fq, (va_up la (xs (y3 + 1).toNatClampNeg).toNatClampNeg (-1)), (va_up sz9 (xs (y3 + 1).toNatClampNeg).toNatClampNeg (sz9 (xs (y3 + 1).toNatClampNeg).toNatClampNeg)), fla, f67, th, tt, fth, hH, hGe1, wx, wm, gx, gm, Rx, v10, ⟨by first | decide | omega, by first | decide | omega⟩, v11, hRK, Rm, v68, ⟨by first | decide | omega, by first | decide | omega⟩, ⟨by first | decide | omega, by first | decide | omega⟩, ⟨by first | decide | omega, by first | decide | omega⟩, ⟨by first | decide | omega, by first | decide | omega⟩, ⟨by first | decide | omega, by first | decide | omega⟩, ⟨by first | decide | omega, by first | decide | omega⟩, ⟨by first | decide | omega, by first | decide | omega⟩, ⟨by first | decide | omega, by first | decide | omega⟩, ⟨by first | decide | omega, by first | decide | omega⟩, ⟨by first | decide | omega, by first | decide | omega⟩, ⟨by first | decide | omega, by first | decide | omega⟩, ⟨by first | decide | omega, by first | decide | omega⟩, vla, v69, q82, (by exfalso; omega), vth, (by exfalso; omega)⟩ hS hl
    · have q79i := hw_ieq q79
      have hRK := hw_RK3.kept hRK (fun q9 h9 l9 => hk q9 l9 (by rcases h9 with h9 | h9 <;> exact hw_AWn h9 (by decide) l9))
      have v10 := va_at.kept v10 (hk _ (hw_lt v10) (hw_AWn gx (by decide) (hw_lt v10)))
      have v11 := va_at.kept v11 (hk _ (hw_lt v11) (hw_AWn (hw_RX_13 Rx) (by decide) (hw_lt v11)))
      have vla := va_at.kept vla (hk _ (hw_lt vla) (hw_AWn (hw_RM_41 Rm) (by decide) (hw_lt vla)))
      have vth := va_at.kept vth (hk _ (hw_lt vth) (hw_AWn (hw_RM_43 Rm) (by decide) (hw_lt vth)))
      have q83 : ∀ j, j < 4 → -1 ≤ (f74 j).toInt ∧ (f74 j).toInt ≤ 24 := by rw [q80]; exact hw_qsz_up qsz (by decide) (by decide)
      refine lv_pop hx hb dL_law_1083 rfl ?_
      refine lv_goto (tgt := 1187) hx hb dL_law_1084 (by decide) ?_
      refine W.widen (k := k + 20) (n := n + 80) (by first | omega | (show _ ≤ _; omega)) (by first | omega | (show _ ≤ _; omega)) ?_
      exact hk9 _ _ _ ⟨G1, rx, rm, pnx, pcx, ksx, scx, udm, kym, lom, wkm, dkm, lnm, smm, fim, bem, rkm, rlm, rwm, clm, dgm, fq, (va_up la (xs (y3 + 1).toNatClampNeg).toNatClampNeg (-1)), (va_up sz9 (xs (y3 + 1).toNatClampNeg).toNatClampNeg (sz9 (xs (y3 + 1).toNatClampNeg).toNatClampNeg)), fla, f74, th, tt, fth, hH, hGe1, wx, wm, gx, gm, Rx, v10, ⟨by first | decide | omega, by first | decide | omega⟩, v11, hRK, Rm, v75, ⟨by first | decide | omega, by first | decide | omega⟩, ⟨by first | decide | omega, by first | decide | omega⟩, ⟨by first | decide | omega, by first | decide | omega⟩, ⟨by first | decide | omega, by first | decide | omega⟩, ⟨by first | decide | omega, by first | decide | omega⟩, ⟨by first | decide | omega, by first | decide | omega⟩, ⟨by first | decide | omega, by first | decide | omega⟩, ⟨by first | decide | omega, by first | decide | omega⟩, ⟨by first | decide | omega, by first | decide | omega⟩, ⟨by first | decide | omega, by first | decide | omega⟩, ⟨by first | decide | omega, by first | decide | omega⟩, ⟨by first | decide | omega, by first | decide | omega⟩, vla, v76, q83, (by rw [q80]; exact hw_rel_drop hrel), vth, (hw_relT_drop hrt)⟩ hS hl

set_option maxHeartbeats 40000000 in
set_option maxRecDepth 100000 in
theorem hw_case1087 {p : Program} {e : Env} {s : State} {m : MethodId} {below : List Frame} {meth : Method} {c : Code} (l : Launch) {b L : Nat} {xs : Nat → Int32} {D : hw_D} {G : Nat → Nat} {H : Heap} {locs : List Loc} {x mo k n : Nat} {y3 : Int32} {ls : Array Slot} (hL : L ≤ 384) (hy0 : 0 ≤ y3.toInt ∧ y3.toInt ≤ 384) (hy : y3.toInt + 6 ≤ L) (hkc : k + 20 ≤ 600000) (hnc : n + 80 ≤ 7302250) (hx : p.tables.exec = Jvm.exec) (hb : c.code = code) (hr : meth.sig.returnType = ret) (hml : c.maxLocals = 4) (hown : s.vm.findClass R_law = some m.cls) (hts0 : ∀ w ∈ lw_tbl, w.before #[Value.ref b] s = true) (hts : ∀ w ∈ wsL_law, w.before #[Value.ref b] s = true) (hX : va_X b L xs s s.heap) (hbl : b < s.heap.size) (hlocks : meth.locks = false) (hG0 : G = fun _ => 0) (hK : va_K D.1 vwCl (hw_ty D.2.1) s) (hST : hw_ST D.2.2 G s.heap.size s) (hI : hw_I D G s H x mo) (hS : va_S (hw_AW G [1, 2, 3, 4, 5, 6, 7, 8, 9, 10, 11, 12, 13, 14, 15, 16, 17, 18, 19, 20, 21, 22, 23, 24, 25, 26, 27, 28, 29, 30, 31, 32, 40, 42, 44, 45, 46, 48, 49, 50, 51, 53, 55, 58, 59, 67, 68, 69, 70, 71, 72, 73, 74, 75, 76, 77, 78, 79, 80, 81, 82, 83, 84, 101, 102, 103, 104, 105, 106, 107, 108, 109, 127, 128, 129, 132] s.heap.size) s.heap H locs) (hl : lv_has ls 4 [(3, .int y3), (2, .ref mo), (1, .ref x), (0, .ref b)]) (hk9 : ∀ (H1 : Heap) (locs1 : List Loc) (ls1 : Array Slot), hw_I D G s H1 x mo → va_S (hw_AW G [1, 2, 3, 4, 5, 6, 7, 8, 9, 10, 11, 12, 13, 14, 15, 16, 17, 18, 19, 20, 21, 22, 23, 24, 25, 26, 27, 28, 29, 30, 31, 32, 40, 42, 44, 45, 46, 48, 49, 50, 51, 53, 55, 58, 59, 67, 68, 69, 70, 71, 72, 73, 74, 75, 76, 77, 78, 79, 80, 81, 82, 83, 84, 101, 102, 103, 104, 105, 106, 107, 108, 109, 127, 128, 129, 132] s.heap.size) s.heap H1 locs1 → lv_has ls1 4 [(3, .int y3), (2, .ref mo), (1, .ref x), (0, .ref b)] → W p l e room_1 s m #[Value.ref b] below meth c H1 locs1 (k + 20) (n + 80) (lw_Z below #[Value.ref b] s) (F0 m 1187 ls1 [])) : W p l e room_1 s m #[Value.ref b] below meth c H locs k n (lw_Z below #[Value.ref b] s) (F0 m 1087 ls []) := by
  have hH0 : hw_HT D G s.heap := fun a h => absurd (by rw [hG0]) h
  have hbA : ¬ (hw_AW G [1, 2, 3, 4, 5, 6, 7, 8, 9, 10, 11, 12, 13, 14, 15, 16, 17, 18, 19, 20, 21, 22, 23, 24, 25, 26, 27, 28, 29, 30, 31, 32, 40, 42, 44, 45, 46, 48, 49, 50, 51, 53, 55, 58, 59, 67, 68, 69, 70, 71, 72, 73, 74, 75, 76, 77, 78, 79, 80, 81, 82, 83, 84, 101, 102, 103, 104, 105, 106, 107, 108, 109, 127, 128, 129, 132] s.heap.size) b := hw_AWn (k := 0) (by rw [hG0]) (by decide) hbl
  have hLi : (Int32.ofNat L).toInt = (L : Int) := nI_toInt (by omega)
  refine hw_I_elim hI ?_
  intro G1 rx rm pnx pcx ksx scx udm kym lom wkm dkm lnm smm fim bem rkm rlm rwm clm dgm fq la sz9 fla fsz th tt fth hH hGe1 wx wm gx gm Rx vx gsc vq hRK Rm vm gm0 gm1 gm2 gm3 gm4 gm5 gm6 gm7 gm8 gm9 gm10 gm11 vla vsz qsz hrel vth hrt
  have hHs := hH0
  have hz24 := hw_hz24 hrel qsz
  have qq := hRK.q
  refine lv_aload_n hx hb dL_law_1087 rfl (lv_at hl 2 rfl) ?_
  refine lv_aload_n hx hb dL_law_1088 rfl (lv_at hl 3 rfl) ?_
  refine lv_iload_n hx hb dL_law_1089 rfl (lv_at hl 0 rfl) ?_
  refine lv_iconst (v := 1) hx hb dL_law_1090 (by decide) ?_
  refine lv_iadd hx hb dL_law_1091 ?_
  have t1 : (y3 + 1).toInt = y3.toInt + 1 := hw_add rfl rfl (by omega) (by omega)
  refine va_sld hx hb hX hbl hbA hS (hw_in (by omega) (by omega)) dL_law_1092 ?_
  refine lv_aload_n hx hb dL_law_1093 rfl (lv_at hl 3 rfl) ?_
  refine lv_iload_n hx hb dL_law_1094 rfl (lv_at hl 0 rfl) ?_
  refine lv_iconst (v := 2) hx hb dL_law_1095 (by decide) ?_
  refine lv_iadd hx hb dL_law_1096 ?_
  have t2 : (y3 + 2).toInt = y3.toInt + 2 := hw_add rfl rfl (by omega) (by omega)
  refine va_sld hx hb hX hbl hbA hS (hw_in (by omega) (by omega)) dL_law_1097 ?_
  refine hw_cR (va_runV (As := [.int (xs (y3 + 1).toNatClampNeg), .int (xs (y3 + 2).toNatClampNeg)]) (rest := []) ⟨hx, hb, hml, hown, hts⟩ (k3_X11_share l D G1 x (xs (y3 + 1).toNatClampNeg) (xs (y3 + 2).toNatClampNeg) _ th la sz9 tt rx pnx pcx ksx scx fq gx Rx ⟨by first | decide | omega, by first | decide | omega⟩ qq) (cwV 2 hts gL_law_X11_share rfl rfl rfl (by decide +kernel) ⟨Nat.le_of_ble_eq_true rfl, Nat.le_of_ble_eq_true rfl⟩) (hw_pV (hw_rc (q := (RX11, TX11, 14)) hK vx rfl) hH hK hST hS (by decide) (hw_hG hGe1) ⟨vx, vq, hRK⟩) rfl rfl hl.1 rfl (lv_room (Nat.le_of_ble_eq_true rfl)) dL_law_1098 ⟨by show _ ≤ 600000; omega, by show _ ≤ 7302250; omega⟩) (fun v hp => ?_)
  rcases hp with ⟨rfl, q3⟩ | ⟨rfl, q4, q5⟩ | ⟨rfl, q6, q7, q8⟩ | ⟨rfl, q9, q10, q11, q12⟩ | ⟨rfl, q13, q14, q15, q16⟩ | ⟨x17, rfl, q18, q19, q20, q21, q22⟩
  · have hr23 : 0 ≤ (xs (y3 + 1).toNatClampNeg).toInt ∧ (xs (y3 + 1).toNatClampNeg).toInt ≤ 3 → ((la (xs (y3 + 1).toNatClampNeg).toNatClampNeg).toInt = -1 ↔ (fsz (xs (y3 + 1).toNatClampNeg).toNatClampNeg).toInt < 0) ∧ ((la (xs (y3 + 1).toNatClampNeg).toNatClampNeg).toInt ≠ -1 → (fla (xs (y3 + 1).toNatClampNeg).toNatClampNeg).toInt = (la (xs (y3 + 1).toNatClampNeg).toNatClampNeg).toInt ∧ (fsz (xs (y3 + 1).toNatClampNeg).toNatClampNeg).toInt = (sz9 (xs (y3 + 1).toNatClampNeg).toNatClampNeg).toInt) := fun h9 => hrel _ (hw_i4 h9)
    refine lv_aload_n hx hb dL_law_1101 rfl (lv_at hl 1 rfl) ?_
    refine lv_aload_n hx hb dL_law_1102 rfl (lv_at hl 3 rfl) ?_
    refine lv_iload_n hx hb dL_law_1103 rfl (lv_at hl 0 rfl) ?_
    refine lv_iconst (v := 1) hx hb dL_law_1104 (by decide) ?_
    refine lv_iadd hx hb dL_law_1105 ?_
    refine va_sld hx hb hX hbl hbA hS (hw_in (by omega) (by omega)) dL_law_1106 ?_
    refine lv_aload_n hx hb dL_law_1107 rfl (lv_at hl 3 rfl) ?_
    refine lv_iload_n hx hb dL_law_1108 rfl (lv_at hl 0 rfl) ?_
    refine lv_iconst (v := 2) hx hb dL_law_1109 (by decide) ?_
    refine lv_iadd hx hb dL_law_1110 ?_
    refine va_sld hx hb hX hbl hbA hS (hw_in (by omega) (by omega)) dL_law_1111 ?_
    refine hw_cR (va_runV (As := [.int (xs (y3 + 1).toNatClampNeg), .int (xs (y3 + 2).toNatClampNeg)]) (rest := [.long (-2)]) ⟨hx, hb, hml, hown, hts⟩ (k3_X12_share l D G1 mo (xs (y3 + 1).toNatClampNeg) (xs (y3 + 2).toNatClampNeg) _ rm udm kym lom wkm dkm lnm smm fim bem rkm rlm rwm clm dgm fla fsz fth gm Rm ⟨by first | decide | omega, by first | decide | omega⟩ ⟨by first | decide | omega, by first | decide | omega⟩ ⟨by first | decide | omega, by first | decide | omega⟩ ⟨by first | decide | omega, by first | decide | omega⟩ ⟨by first | decide | omega, by first | decide | omega⟩ ⟨by first | decide | omega, by first | decide | omega⟩ ⟨by first | decide | omega, by first | decide | omega⟩ ⟨by first | decide | omega, by first | decide | omega⟩ ⟨by first | decide | omega, by first | decide | omega⟩ ⟨by first | decide | omega, by first | decide | omega⟩ ⟨by first | decide | omega, by first | decide | omega⟩ ⟨by first | decide | omega, by first | decide | omega⟩ qsz) (cwV 2 hts gL_law_X12_share rfl rfl rfl (by decide +kernel) ⟨Nat.le_of_ble_eq_true rfl, Nat.le_of_ble_eq_true rfl⟩) (hw_pV (hw_rc (q := (RX12, TX12, 45)) hK vm rfl) hH hK hST hS (by decide) (hw_hG hGe1) ⟨vm, vla, vsz, vth⟩) rfl rfl hl.1 rfl (lv_room (Nat.le_of_ble_eq_true rfl)) dL_law_1112 ⟨by show _ ≤ 600000; omega, by show _ ≤ 7302250; omega⟩) (fun v hp => ?_)
    rcases hp with ⟨rfl, q24⟩ | ⟨rfl, q25, q26⟩ | ⟨rfl, q27, q28, q29⟩ | ⟨rfl, q30, q31, q32, q33⟩ | ⟨rfl, q34, q35, q36, q37⟩ | ⟨x38, rfl, q39, q40, q41, q42, q43⟩
    · refine W.lcmp hx hb dL_law_1115 ?_
      refine lv_topi (fun x44 e45 => ?_)
      refine lv_if_eq (tgt := 1187) hx hb dL_law_1116 (by decide) (fun c46 => ?_) (fun c46 => ?_)
      · have b47 := hw_cmpeq (e45 ▸ c46)
        have b48 : (-2) = (-2) := hw_Leq b47
        refine W.widen (k := k + 20) (n := n + 80) (by first | omega | (show _ ≤ _; omega)) (by first | omega | (show _ ≤ _; omega)) ?_
        exact hk9 _ _ _ ⟨G1, rx, rm, pnx, pcx, ksx, scx, udm, kym, lom, wkm, dkm, lnm, smm, fim, bem, rkm, rlm, rwm, clm, dgm, fq, la, sz9, fla, fsz, th, tt, fth, hH, hGe1, wx, wm, gx, gm, Rx, vx, ⟨by first | decide | omega, by first | decide | omega⟩, vq, hRK, Rm, vm, ⟨by first | decide | omega, by first | decide | omega⟩, ⟨by first | decide | omega, by first | decide | omega⟩, ⟨by first | decide | omega, by first | decide | omega⟩, ⟨by first | decide | omega, by first | decide | omega⟩, ⟨by first | decide | omega, by first | decide | omega⟩, ⟨by first | decide | omega, by first | decide | omega⟩, ⟨by first | decide | omega, by first | decide | omega⟩, ⟨by first | decide | omega, by first | decide | omega⟩, ⟨by first | decide | omega, by first | decide | omega⟩, ⟨by first | decide | omega, by first | decide | omega⟩, ⟨by first | decide | omega, by first | decide | omega⟩, ⟨by first | decide | omega, by first | decide | omega⟩, vla, vsz, qsz, hrel, vth, hrt⟩ hS hl
      · have b49 := hw_cmpneq (e45 ▸ c46)
        have b50 : (-2) ≠ (-2) := hw_Lne b49
        exfalso
        first | omega | contradiction | (subst_vars; omega)
    · refine W.lcmp hx hb dL_law_1115 ?_
      refine lv_topi (fun x51 e52 => ?_)
      refine lv_if_eq (tgt := 1187) hx hb dL_law_1116 (by decide) (fun c53 => ?_) (fun c53 => ?_)
      · have b54 := hw_cmpeq (e52 ▸ c53)
        have b55 : (-2) = (-3) := hw_Leq b54
        refine W.widen (k := k + 20) (n := n + 80) (by first | omega | (show _ ≤ _; omega)) (by first | omega | (show _ ≤ _; omega)) ?_
        exact hk9 _ _ _ ⟨G1, rx, rm, pnx, pcx, ksx, scx, udm, kym, lom, wkm, dkm, lnm, smm, fim, bem, rkm, rlm, rwm, clm, dgm, fq, la, sz9, fla, fsz, th, tt, fth, hH, hGe1, wx, wm, gx, gm, Rx, vx, ⟨by first | decide | omega, by first | decide | omega⟩, vq, hRK, Rm, vm, ⟨by first | decide | omega, by first | decide | omega⟩, ⟨by first | decide | omega, by first | decide | omega⟩, ⟨by first | decide | omega, by first | decide | omega⟩, ⟨by first | decide | omega, by first | decide | omega⟩, ⟨by first | decide | omega, by first | decide | omega⟩, ⟨by first | decide | omega, by first | decide | omega⟩, ⟨by first | decide | omega, by first | decide | omega⟩, ⟨by first | decide | omega, by first | decide | omega⟩, ⟨by first | decide | omega, by first | decide | omega⟩, ⟨by first | decide | omega, by first | decide | omega⟩, ⟨by first | decide | omega, by first | decide | omega⟩, ⟨by first | decide | omega, by first | decide | omega⟩, vla, vsz, qsz, hrel, vth, hrt⟩ hS hl
      · have b56 := hw_cmpneq (e52 ▸ c53)
        have b57 : (-2) ≠ (-3) := hw_Lne b56
        exfalso
        first | omega | contradiction | (subst_vars; omega)
    · refine W.lcmp hx hb dL_law_1115 ?_
      refine lv_topi (fun x58 e59 => ?_)
      refine lv_if_eq (tgt := 1187) hx hb dL_law_1116 (by decide) (fun c60 => ?_) (fun c60 => ?_)
      · have b61 := hw_cmpeq (e59 ▸ c60)
        have b62 : (-2) = (-11) := hw_Leq b61
        refine W.widen (k := k + 20) (n := n + 80) (by first | omega | (show _ ≤ _; omega)) (by first | omega | (show _ ≤ _; omega)) ?_
        exact hk9 _ _ _ ⟨G1, rx, rm, pnx, pcx, ksx, scx, udm, kym, lom, wkm, dkm, lnm, smm, fim, bem, rkm, rlm, rwm, clm, dgm, fq, la, sz9, fla, fsz, th, tt, fth, hH, hGe1, wx, wm, gx, gm, Rx, vx, ⟨by first | decide | omega, by first | decide | omega⟩, vq, hRK, Rm, vm, ⟨by first | decide | omega, by first | decide | omega⟩, ⟨by first | decide | omega, by first | decide | omega⟩, ⟨by first | decide | omega, by first | decide | omega⟩, ⟨by first | decide | omega, by first | decide | omega⟩, ⟨by first | decide | omega, by first | decide | omega⟩, ⟨by first | decide | omega, by first | decide | omega⟩, ⟨by first | decide | omega, by first | decide | omega⟩, ⟨by first | decide | omega, by first | decide | omega⟩, ⟨by first | decide | omega, by first | decide | omega⟩, ⟨by first | decide | omega, by first | decide | omega⟩, ⟨by first | decide | omega, by first | decide | omega⟩, ⟨by first | decide | omega, by first | decide | omega⟩, vla, vsz, qsz, hrel, vth, hrt⟩ hS hl
      · have b63 := hw_cmpneq (e59 ▸ c60)
        have b64 : (-2) ≠ (-11) := hw_Lne b63
        exfalso
        first | omega | contradiction | (subst_vars; omega)
    · refine W.lcmp hx hb dL_law_1115 ?_
      refine lv_topi (fun x65 e66 => ?_)
      refine lv_if_eq (tgt := 1187) hx hb dL_law_1116 (by decide) (fun c67 => ?_) (fun c67 => ?_)
      · have b68 := hw_cmpeq (e66 ▸ c67)
        have b69 : (-2) = (-12) := hw_Leq b68
        refine W.widen (k := k + 20) (n := n + 80) (by first | omega | (show _ ≤ _; omega)) (by first | omega | (show _ ≤ _; omega)) ?_
        exact hk9 _ _ _ ⟨G1, rx, rm, pnx, pcx, ksx, scx, udm, kym, lom, wkm, dkm, lnm, smm, fim, bem, rkm, rlm, rwm, clm, dgm, fq, la, sz9, fla, fsz, th, tt, fth, hH, hGe1, wx, wm, gx, gm, Rx, vx, ⟨by first | decide | omega, by first | decide | omega⟩, vq, hRK, Rm, vm, ⟨by first | decide | omega, by first | decide | omega⟩, ⟨by first | decide | omega, by first | decide | omega⟩, ⟨by first | decide | omega, by first | decide | omega⟩, ⟨by first | decide | omega, by first | decide | omega⟩, ⟨by first | decide | omega, by first | decide | omega⟩, ⟨by first | decide | omega, by first | decide | omega⟩, ⟨by first | decide | omega, by first | decide | omega⟩, ⟨by first | decide | omega, by first | decide | omega⟩, ⟨by first | decide | omega, by first | decide | omega⟩, ⟨by first | decide | omega, by first | decide | omega⟩, ⟨by first | decide | omega, by first | decide | omega⟩, ⟨by first | decide | omega, by first | decide | omega⟩, vla, vsz, qsz, hrel, vth, hrt⟩ hS hl
      · have b70 := hw_cmpneq (e66 ▸ c67)
        have b71 : (-2) ≠ (-12) := hw_Lne b70
        exfalso
        first | omega | contradiction | (subst_vars; omega)
    · refine W.lcmp hx hb dL_law_1115 ?_
      refine lv_topi (fun x72 e73 => ?_)
      refine lv_if_eq (tgt := 1187) hx hb dL_law_1116 (by decide) (fun c74 => ?_) (fun c74 => ?_)
      · have b75 := hw_cmpeq (e73 ▸ c74)
        have b76 : (-2) = (-16) := hw_Leq b75
        refine W.widen (k := k + 20) (n := n + 80) (by first | omega | (show _ ≤ _; omega)) (by first | omega | (show _ ≤ _; omega)) ?_
        exact hk9 _ _ _ ⟨G1, rx, rm, pnx, pcx, ksx, scx, udm, kym, lom, wkm, dkm, lnm, smm, fim, bem, rkm, rlm, rwm, clm, dgm, fq, la, sz9, fla, fsz, th, tt, fth, hH, hGe1, wx, wm, gx, gm, Rx, vx, ⟨by first | decide | omega, by first | decide | omega⟩, vq, hRK, Rm, vm, ⟨by first | decide | omega, by first | decide | omega⟩, ⟨by first | decide | omega, by first | decide | omega⟩, ⟨by first | decide | omega, by first | decide | omega⟩, ⟨by first | decide | omega, by first | decide | omega⟩, ⟨by first | decide | omega, by first | decide | omega⟩, ⟨by first | decide | omega, by first | decide | omega⟩, ⟨by first | decide | omega, by first | decide | omega⟩, ⟨by first | decide | omega, by first | decide | omega⟩, ⟨by first | decide | omega, by first | decide | omega⟩, ⟨by first | decide | omega, by first | decide | omega⟩, ⟨by first | decide | omega, by first | decide | omega⟩, ⟨by first | decide | omega, by first | decide | omega⟩, vla, vsz, qsz, hrel, vth, hrt⟩ hS hl
      · have b77 := hw_cmpneq (e73 ▸ c74)
        have b78 : (-2) ≠ (-16) := hw_Lne b77
        exfalso
        first | omega | contradiction | (subst_vars; omega)
    · refine W.lcmp hx hb dL_law_1115 ?_
      refine lv_topi (fun x79 e80 => ?_)
      refine lv_if_eq (tgt := 1187) hx hb dL_law_1116 (by decide) (fun c81 => ?_) (fun c81 => ?_)
      · have b82 := hw_cmpeq (e80 ▸ c81)
        have b83 : (-2) = x38.toInt := hw_Leq b82
        refine W.widen (k := k + 20) (n := n + 80) (by first | omega | (show _ ≤ _; omega)) (by first | omega | (show _ ≤ _; omega)) ?_
        exact hk9 _ _ _ ⟨G1, rx, rm, pnx, pcx, ksx, scx, udm, kym, lom, wkm, dkm, lnm, smm, fim, bem, rkm, rlm, rwm, clm, dgm, fq, la, sz9, fla, fsz, th, tt, fth, hH, hGe1, wx, wm, gx, gm, Rx, vx, ⟨by first | decide | omega, by first | decide | omega⟩, vq, hRK, Rm, vm, ⟨by first | decide | omega, by first | decide | omega⟩, ⟨by first | decide | omega, by first | decide | omega⟩, ⟨by first | decide | omega, by first | decide | omega⟩, ⟨by first | decide | omega, by first | decide | omega⟩, ⟨by first | decide | omega, by first | decide | omega⟩, ⟨by first | decide | omega, by first | decide | omega⟩, ⟨by first | decide | omega, by first | decide | omega⟩, ⟨by first | decide | omega, by first | decide | omega⟩, ⟨by first | decide | omega, by first | decide | omega⟩, ⟨by first | decide | omega, by first | decide | omega⟩, ⟨by first | decide | omega, by first | decide | omega⟩, ⟨by first | decide | omega, by first | decide | omega⟩, vla, vsz, qsz, hrel, vth, hrt⟩ hS hl
      · have b84 := hw_cmpneq (e80 ▸ c81)
        have b85 : (-2) ≠ x38.toInt := hw_Lne b84
        exfalso
        first | omega | contradiction | (subst_vars; omega)
  · have hr86 : 0 ≤ (xs (y3 + 1).toNatClampNeg).toInt ∧ (xs (y3 + 1).toNatClampNeg).toInt ≤ 3 → ((la (xs (y3 + 1).toNatClampNeg).toNatClampNeg).toInt = -1 ↔ (fsz (xs (y3 + 1).toNatClampNeg).toNatClampNeg).toInt < 0) ∧ ((la (xs (y3 + 1).toNatClampNeg).toNatClampNeg).toInt ≠ -1 → (fla (xs (y3 + 1).toNatClampNeg).toNatClampNeg).toInt = (la (xs (y3 + 1).toNatClampNeg).toNatClampNeg).toInt ∧ (fsz (xs (y3 + 1).toNatClampNeg).toNatClampNeg).toInt = (sz9 (xs (y3 + 1).toNatClampNeg).toNatClampNeg).toInt) := fun h9 => hrel _ (hw_i4 h9)
    refine lv_aload_n hx hb dL_law_1101 rfl (lv_at hl 1 rfl) ?_
    refine lv_aload_n hx hb dL_law_1102 rfl (lv_at hl 3 rfl) ?_
    refine lv_iload_n hx hb dL_law_1103 rfl (lv_at hl 0 rfl) ?_
    refine lv_iconst (v := 1) hx hb dL_law_1104 (by decide) ?_
    refine lv_iadd hx hb dL_law_1105 ?_
    refine va_sld hx hb hX hbl hbA hS (hw_in (by omega) (by omega)) dL_law_1106 ?_
    refine lv_aload_n hx hb dL_law_1107 rfl (lv_at hl 3 rfl) ?_
    refine lv_iload_n hx hb dL_law_1108 rfl (lv_at hl 0 rfl) ?_
    refine lv_iconst (v := 2) hx hb dL_law_1109 (by decide) ?_
    refine lv_iadd hx hb dL_law_1110 ?_
    refine va_sld hx hb hX hbl hbA hS (hw_in (by omega) (by omega)) dL_law_1111 ?_
    refine hw_cR (va_runV (As := [.int (xs (y3 + 1).toNatClampNeg), .int (xs (y3 + 2).toNatClampNeg)]) (rest := [.long (-3)]) ⟨hx, hb, hml, hown, hts⟩ (k3_X12_share l D G1 mo (xs (y3 + 1).toNatClampNeg) (xs (y3 + 2).toNatClampNeg) _ rm udm kym lom wkm dkm lnm smm fim bem rkm rlm rwm clm dgm fla fsz fth gm Rm ⟨by first | decide | omega, by first | decide | omega⟩ ⟨by first | decide | omega, by first | decide | omega⟩ ⟨by first | decide | omega, by first | decide | omega⟩ ⟨by first | decide | omega, by first | decide | omega⟩ ⟨by first | decide | omega, by first | decide | omega⟩ ⟨by first | decide | omega, by first | decide | omega⟩ ⟨by first | decide | omega, by first | decide | omega⟩ ⟨by first | decide | omega, by first | decide | omega⟩ ⟨by first | decide | omega, by first | decide | omega⟩ ⟨by first | decide | omega, by first | decide | omega⟩ ⟨by first | decide | omega, by first | decide | omega⟩ ⟨by first | decide | omega, by first | decide | omega⟩ qsz) (cwV 2 hts gL_law_X12_share rfl rfl rfl (by decide +kernel) ⟨Nat.le_of_ble_eq_true rfl, Nat.le_of_ble_eq_true rfl⟩) (hw_pV (hw_rc (q := (RX12, TX12, 45)) hK vm rfl) hH hK hST hS (by decide) (hw_hG hGe1) ⟨vm, vla, vsz, vth⟩) rfl rfl hl.1 rfl (lv_room (Nat.le_of_ble_eq_true rfl)) dL_law_1112 ⟨by show _ ≤ 600000; omega, by show _ ≤ 7302250; omega⟩) (fun v hp => ?_)
    rcases hp with ⟨rfl, q87⟩ | ⟨rfl, q88, q89⟩ | ⟨rfl, q90, q91, q92⟩ | ⟨rfl, q93, q94, q95, q96⟩ | ⟨rfl, q97, q98, q99, q100⟩ | ⟨x101, rfl, q102, q103, q104, q105, q106⟩
    · refine W.lcmp hx hb dL_law_1115 ?_
      refine lv_topi (fun x107 e108 => ?_)
      refine lv_if_eq (tgt := 1187) hx hb dL_law_1116 (by decide) (fun c109 => ?_) (fun c109 => ?_)
      · have b110 := hw_cmpeq (e108 ▸ c109)
        have b111 : (-3) = (-2) := hw_Leq b110
        refine W.widen (k := k + 20) (n := n + 80) (by first | omega | (show _ ≤ _; omega)) (by first | omega | (show _ ≤ _; omega)) ?_
        exact hk9 _ _ _ ⟨G1, rx, rm, pnx, pcx, ksx, scx, udm, kym, lom, wkm, dkm, lnm, smm, fim, bem, rkm, rlm, rwm, clm, dgm, fq, la, sz9, fla, fsz, th, tt, fth, hH, hGe1, wx, wm, gx, gm, Rx, vx, ⟨by first | decide | omega, by first | decide | omega⟩, vq, hRK, Rm, vm, ⟨by first | decide | omega, by first | decide | omega⟩, ⟨by first | decide | omega, by first | decide | omega⟩, ⟨by first | decide | omega, by first | decide | omega⟩, ⟨by first | decide | omega, by first | decide | omega⟩, ⟨by first | decide | omega, by first | decide | omega⟩, ⟨by first | decide | omega, by first | decide | omega⟩, ⟨by first | decide | omega, by first | decide | omega⟩, ⟨by first | decide | omega, by first | decide | omega⟩, ⟨by first | decide | omega, by first | decide | omega⟩, ⟨by first | decide | omega, by first | decide | omega⟩, ⟨by first | decide | omega, by first | decide | omega⟩, ⟨by first | decide | omega, by first | decide | omega⟩, vla, vsz, qsz, hrel, vth, hrt⟩ hS hl
      · have b112 := hw_cmpneq (e108 ▸ c109)
        have b113 : (-3) ≠ (-2) := hw_Lne b112
        exfalso
        first | omega | contradiction | (subst_vars; omega)
    · refine W.lcmp hx hb dL_law_1115 ?_
      refine lv_topi (fun x114 e115 => ?_)
      refine lv_if_eq (tgt := 1187) hx hb dL_law_1116 (by decide) (fun c116 => ?_) (fun c116 => ?_)
      · have b117 := hw_cmpeq (e115 ▸ c116)
        have b118 : (-3) = (-3) := hw_Leq b117
        refine W.widen (k := k + 20) (n := n + 80) (by first | omega | (show _ ≤ _; omega)) (by first | omega | (show _ ≤ _; omega)) ?_
        exact hk9 _ _ _ ⟨G1, rx, rm, pnx, pcx, ksx, scx, udm, kym, lom, wkm, dkm, lnm, smm, fim, bem, rkm, rlm, rwm, clm, dgm, fq, la, sz9, fla, fsz, th, tt, fth, hH, hGe1, wx, wm, gx, gm, Rx, vx, ⟨by first | decide | omega, by first | decide | omega⟩, vq, hRK, Rm, vm, ⟨by first | decide | omega, by first | decide | omega⟩, ⟨by first | decide | omega, by first | decide | omega⟩, ⟨by first | decide | omega, by first | decide | omega⟩, ⟨by first | decide | omega, by first | decide | omega⟩, ⟨by first | decide | omega, by first | decide | omega⟩, ⟨by first | decide | omega, by first | decide | omega⟩, ⟨by first | decide | omega, by first | decide | omega⟩, ⟨by first | decide | omega, by first | decide | omega⟩, ⟨by first | decide | omega, by first | decide | omega⟩, ⟨by first | decide | omega, by first | decide | omega⟩, ⟨by first | decide | omega, by first | decide | omega⟩, ⟨by first | decide | omega, by first | decide | omega⟩, vla, vsz, qsz, hrel, vth, hrt⟩ hS hl
      · have b119 := hw_cmpneq (e115 ▸ c116)
        have b120 : (-3) ≠ (-3) := hw_Lne b119
        exfalso
        first | omega | contradiction | (subst_vars; omega)
    · refine W.lcmp hx hb dL_law_1115 ?_
      refine lv_topi (fun x121 e122 => ?_)
      refine lv_if_eq (tgt := 1187) hx hb dL_law_1116 (by decide) (fun c123 => ?_) (fun c123 => ?_)
      · have b124 := hw_cmpeq (e122 ▸ c123)
        have b125 : (-3) = (-11) := hw_Leq b124
        refine W.widen (k := k + 20) (n := n + 80) (by first | omega | (show _ ≤ _; omega)) (by first | omega | (show _ ≤ _; omega)) ?_
        exact hk9 _ _ _ ⟨G1, rx, rm, pnx, pcx, ksx, scx, udm, kym, lom, wkm, dkm, lnm, smm, fim, bem, rkm, rlm, rwm, clm, dgm, fq, la, sz9, fla, fsz, th, tt, fth, hH, hGe1, wx, wm, gx, gm, Rx, vx, ⟨by first | decide | omega, by first | decide | omega⟩, vq, hRK, Rm, vm, ⟨by first | decide | omega, by first | decide | omega⟩, ⟨by first | decide | omega, by first | decide | omega⟩, ⟨by first | decide | omega, by first | decide | omega⟩, ⟨by first | decide | omega, by first | decide | omega⟩, ⟨by first | decide | omega, by first | decide | omega⟩, ⟨by first | decide | omega, by first | decide | omega⟩, ⟨by first | decide | omega, by first | decide | omega⟩, ⟨by first | decide | omega, by first | decide | omega⟩, ⟨by first | decide | omega, by first | decide | omega⟩, ⟨by first | decide | omega, by first | decide | omega⟩, ⟨by first | decide | omega, by first | decide | omega⟩, ⟨by first | decide | omega, by first | decide | omega⟩, vla, vsz, qsz, hrel, vth, hrt⟩ hS hl
      · have b126 := hw_cmpneq (e122 ▸ c123)
        have b127 : (-3) ≠ (-11) := hw_Lne b126
        exfalso
        first | omega | contradiction | (subst_vars; omega)
    · refine W.lcmp hx hb dL_law_1115 ?_
      refine lv_topi (fun x128 e129 => ?_)
      refine lv_if_eq (tgt := 1187) hx hb dL_law_1116 (by decide) (fun c130 => ?_) (fun c130 => ?_)
      · have b131 := hw_cmpeq (e129 ▸ c130)
        have b132 : (-3) = (-12) := hw_Leq b131
        refine W.widen (k := k + 20) (n := n + 80) (by first | omega | (show _ ≤ _; omega)) (by first | omega | (show _ ≤ _; omega)) ?_
        exact hk9 _ _ _ ⟨G1, rx, rm, pnx, pcx, ksx, scx, udm, kym, lom, wkm, dkm, lnm, smm, fim, bem, rkm, rlm, rwm, clm, dgm, fq, la, sz9, fla, fsz, th, tt, fth, hH, hGe1, wx, wm, gx, gm, Rx, vx, ⟨by first | decide | omega, by first | decide | omega⟩, vq, hRK, Rm, vm, ⟨by first | decide | omega, by first | decide | omega⟩, ⟨by first | decide | omega, by first | decide | omega⟩, ⟨by first | decide | omega, by first | decide | omega⟩, ⟨by first | decide | omega, by first | decide | omega⟩, ⟨by first | decide | omega, by first | decide | omega⟩, ⟨by first | decide | omega, by first | decide | omega⟩, ⟨by first | decide | omega, by first | decide | omega⟩, ⟨by first | decide | omega, by first | decide | omega⟩, ⟨by first | decide | omega, by first | decide | omega⟩, ⟨by first | decide | omega, by first | decide | omega⟩, ⟨by first | decide | omega, by first | decide | omega⟩, ⟨by first | decide | omega, by first | decide | omega⟩, vla, vsz, qsz, hrel, vth, hrt⟩ hS hl
      · have b133 := hw_cmpneq (e129 ▸ c130)
        have b134 : (-3) ≠ (-12) := hw_Lne b133
        exfalso
        first | omega | contradiction | (subst_vars; omega)
    · refine W.lcmp hx hb dL_law_1115 ?_
      refine lv_topi (fun x135 e136 => ?_)
      refine lv_if_eq (tgt := 1187) hx hb dL_law_1116 (by decide) (fun c137 => ?_) (fun c137 => ?_)
      · have b138 := hw_cmpeq (e136 ▸ c137)
        have b139 : (-3) = (-16) := hw_Leq b138
        refine W.widen (k := k + 20) (n := n + 80) (by first | omega | (show _ ≤ _; omega)) (by first | omega | (show _ ≤ _; omega)) ?_
        exact hk9 _ _ _ ⟨G1, rx, rm, pnx, pcx, ksx, scx, udm, kym, lom, wkm, dkm, lnm, smm, fim, bem, rkm, rlm, rwm, clm, dgm, fq, la, sz9, fla, fsz, th, tt, fth, hH, hGe1, wx, wm, gx, gm, Rx, vx, ⟨by first | decide | omega, by first | decide | omega⟩, vq, hRK, Rm, vm, ⟨by first | decide | omega, by first | decide | omega⟩, ⟨by first | decide | omega, by first | decide | omega⟩, ⟨by first | decide | omega, by first | decide | omega⟩, ⟨by first | decide | omega, by first | decide | omega⟩, ⟨by first | decide | omega, by first | decide | omega⟩, ⟨by first | decide | omega, by first | decide | omega⟩, ⟨by first | decide | omega, by first | decide | omega⟩, ⟨by first | decide | omega, by first | decide | omega⟩, ⟨by first | decide | omega, by first | decide | omega⟩, ⟨by first | decide | omega, by first | decide | omega⟩, ⟨by first | decide | omega, by first | decide | omega⟩, ⟨by first | decide | omega, by first | decide | omega⟩, vla, vsz, qsz, hrel, vth, hrt⟩ hS hl
      · have b140 := hw_cmpneq (e136 ▸ c137)
        have b141 : (-3) ≠ (-16) := hw_Lne b140
        exfalso
        first | omega | contradiction | (subst_vars; omega)
    · refine W.lcmp hx hb dL_law_1115 ?_
      refine lv_topi (fun x142 e143 => ?_)
      refine lv_if_eq (tgt := 1187) hx hb dL_law_1116 (by decide) (fun c144 => ?_) (fun c144 => ?_)
      · have b145 := hw_cmpeq (e143 ▸ c144)
        have b146 : (-3) = x101.toInt := hw_Leq b145
        refine W.widen (k := k + 20) (n := n + 80) (by first | omega | (show _ ≤ _; omega)) (by first | omega | (show _ ≤ _; omega)) ?_
        exact hk9 _ _ _ ⟨G1, rx, rm, pnx, pcx, ksx, scx, udm, kym, lom, wkm, dkm, lnm, smm, fim, bem, rkm, rlm, rwm, clm, dgm, fq, la, sz9, fla, fsz, th, tt, fth, hH, hGe1, wx, wm, gx, gm, Rx, vx, ⟨by first | decide | omega, by first | decide | omega⟩, vq, hRK, Rm, vm, ⟨by first | decide | omega, by first | decide | omega⟩, ⟨by first | decide | omega, by first | decide | omega⟩, ⟨by first | decide | omega, by first | decide | omega⟩, ⟨by first | decide | omega, by first | decide | omega⟩, ⟨by first | decide | omega, by first | decide | omega⟩, ⟨by first | decide | omega, by first | decide | omega⟩, ⟨by first | decide | omega, by first | decide | omega⟩, ⟨by first | decide | omega, by first | decide | omega⟩, ⟨by first | decide | omega, by first | decide | omega⟩, ⟨by first | decide | omega, by first | decide | omega⟩, ⟨by first | decide | omega, by first | decide | omega⟩, ⟨by first | decide | omega, by first | decide | omega⟩, vla, vsz, qsz, hrel, vth, hrt⟩ hS hl
      · have b147 := hw_cmpneq (e143 ▸ c144)
        have b148 : (-3) ≠ x101.toInt := hw_Lne b147
        exfalso
        first | omega | contradiction | (subst_vars; omega)
  · have hr149 : 0 ≤ (xs (y3 + 1).toNatClampNeg).toInt ∧ (xs (y3 + 1).toNatClampNeg).toInt ≤ 3 → ((la (xs (y3 + 1).toNatClampNeg).toNatClampNeg).toInt = -1 ↔ (fsz (xs (y3 + 1).toNatClampNeg).toNatClampNeg).toInt < 0) ∧ ((la (xs (y3 + 1).toNatClampNeg).toNatClampNeg).toInt ≠ -1 → (fla (xs (y3 + 1).toNatClampNeg).toNatClampNeg).toInt = (la (xs (y3 + 1).toNatClampNeg).toNatClampNeg).toInt ∧ (fsz (xs (y3 + 1).toNatClampNeg).toNatClampNeg).toInt = (sz9 (xs (y3 + 1).toNatClampNeg).toNatClampNeg).toInt) := fun h9 => hrel _ (hw_i4 h9)
    refine lv_aload_n hx hb dL_law_1101 rfl (lv_at hl 1 rfl) ?_
    refine lv_aload_n hx hb dL_law_1102 rfl (lv_at hl 3 rfl) ?_
    refine lv_iload_n hx hb dL_law_1103 rfl (lv_at hl 0 rfl) ?_
    refine lv_iconst (v := 1) hx hb dL_law_1104 (by decide) ?_
    refine lv_iadd hx hb dL_law_1105 ?_
    refine va_sld hx hb hX hbl hbA hS (hw_in (by omega) (by omega)) dL_law_1106 ?_
    refine lv_aload_n hx hb dL_law_1107 rfl (lv_at hl 3 rfl) ?_
    refine lv_iload_n hx hb dL_law_1108 rfl (lv_at hl 0 rfl) ?_
    refine lv_iconst (v := 2) hx hb dL_law_1109 (by decide) ?_
    refine lv_iadd hx hb dL_law_1110 ?_
    refine va_sld hx hb hX hbl hbA hS (hw_in (by omega) (by omega)) dL_law_1111 ?_
    refine hw_cR (va_runV (As := [.int (xs (y3 + 1).toNatClampNeg), .int (xs (y3 + 2).toNatClampNeg)]) (rest := [.long (-11)]) ⟨hx, hb, hml, hown, hts⟩ (k3_X12_share l D G1 mo (xs (y3 + 1).toNatClampNeg) (xs (y3 + 2).toNatClampNeg) _ rm udm kym lom wkm dkm lnm smm fim bem rkm rlm rwm clm dgm fla fsz fth gm Rm ⟨by first | decide | omega, by first | decide | omega⟩ ⟨by first | decide | omega, by first | decide | omega⟩ ⟨by first | decide | omega, by first | decide | omega⟩ ⟨by first | decide | omega, by first | decide | omega⟩ ⟨by first | decide | omega, by first | decide | omega⟩ ⟨by first | decide | omega, by first | decide | omega⟩ ⟨by first | decide | omega, by first | decide | omega⟩ ⟨by first | decide | omega, by first | decide | omega⟩ ⟨by first | decide | omega, by first | decide | omega⟩ ⟨by first | decide | omega, by first | decide | omega⟩ ⟨by first | decide | omega, by first | decide | omega⟩ ⟨by first | decide | omega, by first | decide | omega⟩ qsz) (cwV 2 hts gL_law_X12_share rfl rfl rfl (by decide +kernel) ⟨Nat.le_of_ble_eq_true rfl, Nat.le_of_ble_eq_true rfl⟩) (hw_pV (hw_rc (q := (RX12, TX12, 45)) hK vm rfl) hH hK hST hS (by decide) (hw_hG hGe1) ⟨vm, vla, vsz, vth⟩) rfl rfl hl.1 rfl (lv_room (Nat.le_of_ble_eq_true rfl)) dL_law_1112 ⟨by show _ ≤ 600000; omega, by show _ ≤ 7302250; omega⟩) (fun v hp => ?_)
    rcases hp with ⟨rfl, q150⟩ | ⟨rfl, q151, q152⟩ | ⟨rfl, q153, q154, q155⟩ | ⟨rfl, q156, q157, q158, q159⟩ | ⟨rfl, q160, q161, q162, q163⟩ | ⟨x164, rfl, q165, q166, q167, q168, q169⟩
    · refine W.lcmp hx hb dL_law_1115 ?_
      refine lv_topi (fun x170 e171 => ?_)
      refine lv_if_eq (tgt := 1187) hx hb dL_law_1116 (by decide) (fun c172 => ?_) (fun c172 => ?_)
      · have b173 := hw_cmpeq (e171 ▸ c172)
        have b174 : (-11) = (-2) := hw_Leq b173
        refine W.widen (k := k + 20) (n := n + 80) (by first | omega | (show _ ≤ _; omega)) (by first | omega | (show _ ≤ _; omega)) ?_
        exact hk9 _ _ _ ⟨G1, rx, rm, pnx, pcx, ksx, scx, udm, kym, lom, wkm, dkm, lnm, smm, fim, bem, rkm, rlm, rwm, clm, dgm, fq, la, sz9, fla, fsz, th, tt, fth, hH, hGe1, wx, wm, gx, gm, Rx, vx, ⟨by first | decide | omega, by first | decide | omega⟩, vq, hRK, Rm, vm, ⟨by first | decide | omega, by first | decide | omega⟩, ⟨by first | decide | omega, by first | decide | omega⟩, ⟨by first | decide | omega, by first | decide | omega⟩, ⟨by first | decide | omega, by first | decide | omega⟩, ⟨by first | decide | omega, by first | decide | omega⟩, ⟨by first | decide | omega, by first | decide | omega⟩, ⟨by first | decide | omega, by first | decide | omega⟩, ⟨by first | decide | omega, by first | decide | omega⟩, ⟨by first | decide | omega, by first | decide | omega⟩, ⟨by first | decide | omega, by first | decide | omega⟩, ⟨by first | decide | omega, by first | decide | omega⟩, ⟨by first | decide | omega, by first | decide | omega⟩, vla, vsz, qsz, hrel, vth, hrt⟩ hS hl
      · have b175 := hw_cmpneq (e171 ▸ c172)
        have b176 : (-11) ≠ (-2) := hw_Lne b175
        exfalso
        first | omega | contradiction | (subst_vars; omega)
    · refine W.lcmp hx hb dL_law_1115 ?_
      refine lv_topi (fun x177 e178 => ?_)
      refine lv_if_eq (tgt := 1187) hx hb dL_law_1116 (by decide) (fun c179 => ?_) (fun c179 => ?_)
      · have b180 := hw_cmpeq (e178 ▸ c179)
        have b181 : (-11) = (-3) := hw_Leq b180
        refine W.widen (k := k + 20) (n := n + 80) (by first | omega | (show _ ≤ _; omega)) (by first | omega | (show _ ≤ _; omega)) ?_
        exact hk9 _ _ _ ⟨G1, rx, rm, pnx, pcx, ksx, scx, udm, kym, lom, wkm, dkm, lnm, smm, fim, bem, rkm, rlm, rwm, clm, dgm, fq, la, sz9, fla, fsz, th, tt, fth, hH, hGe1, wx, wm, gx, gm, Rx, vx, ⟨by first | decide | omega, by first | decide | omega⟩, vq, hRK, Rm, vm, ⟨by first | decide | omega, by first | decide | omega⟩, ⟨by first | decide | omega, by first | decide | omega⟩, ⟨by first | decide | omega, by first | decide | omega⟩, ⟨by first | decide | omega, by first | decide | omega⟩, ⟨by first | decide | omega, by first | decide | omega⟩, ⟨by first | decide | omega, by first | decide | omega⟩, ⟨by first | decide | omega, by first | decide | omega⟩, ⟨by first | decide | omega, by first | decide | omega⟩, ⟨by first | decide | omega, by first | decide | omega⟩, ⟨by first | decide | omega, by first | decide | omega⟩, ⟨by first | decide | omega, by first | decide | omega⟩, ⟨by first | decide | omega, by first | decide | omega⟩, vla, vsz, qsz, hrel, vth, hrt⟩ hS hl
      · have b182 := hw_cmpneq (e178 ▸ c179)
        have b183 : (-11) ≠ (-3) := hw_Lne b182
        exfalso
        first | omega | contradiction | (subst_vars; omega)
    · refine W.lcmp hx hb dL_law_1115 ?_
      refine lv_topi (fun x184 e185 => ?_)
      refine lv_if_eq (tgt := 1187) hx hb dL_law_1116 (by decide) (fun c186 => ?_) (fun c186 => ?_)
      · have b187 := hw_cmpeq (e185 ▸ c186)
        have b188 : (-11) = (-11) := hw_Leq b187
        refine W.widen (k := k + 20) (n := n + 80) (by first | omega | (show _ ≤ _; omega)) (by first | omega | (show _ ≤ _; omega)) ?_
        exact hk9 _ _ _ ⟨G1, rx, rm, pnx, pcx, ksx, scx, udm, kym, lom, wkm, dkm, lnm, smm, fim, bem, rkm, rlm, rwm, clm, dgm, fq, la, sz9, fla, fsz, th, tt, fth, hH, hGe1, wx, wm, gx, gm, Rx, vx, ⟨by first | decide | omega, by first | decide | omega⟩, vq, hRK, Rm, vm, ⟨by first | decide | omega, by first | decide | omega⟩, ⟨by first | decide | omega, by first | decide | omega⟩, ⟨by first | decide | omega, by first | decide | omega⟩, ⟨by first | decide | omega, by first | decide | omega⟩, ⟨by first | decide | omega, by first | decide | omega⟩, ⟨by first | decide | omega, by first | decide | omega⟩, ⟨by first | decide | omega, by first | decide | omega⟩, ⟨by first | decide | omega, by first | decide | omega⟩, ⟨by first | decide | omega, by first | decide | omega⟩, ⟨by first | decide | omega, by first | decide | omega⟩, ⟨by first | decide | omega, by first | decide | omega⟩, ⟨by first | decide | omega, by first | decide | omega⟩, vla, vsz, qsz, hrel, vth, hrt⟩ hS hl
      · have b189 := hw_cmpneq (e185 ▸ c186)
        have b190 : (-11) ≠ (-11) := hw_Lne b189
        exfalso
        first | omega | contradiction | (subst_vars; omega)
    · refine W.lcmp hx hb dL_law_1115 ?_
      refine lv_topi (fun x191 e192 => ?_)
      refine lv_if_eq (tgt := 1187) hx hb dL_law_1116 (by decide) (fun c193 => ?_) (fun c193 => ?_)
      · have b194 := hw_cmpeq (e192 ▸ c193)
        have b195 : (-11) = (-12) := hw_Leq b194
        refine W.widen (k := k + 20) (n := n + 80) (by first | omega | (show _ ≤ _; omega)) (by first | omega | (show _ ≤ _; omega)) ?_
        exact hk9 _ _ _ ⟨G1, rx, rm, pnx, pcx, ksx, scx, udm, kym, lom, wkm, dkm, lnm, smm, fim, bem, rkm, rlm, rwm, clm, dgm, fq, la, sz9, fla, fsz, th, tt, fth, hH, hGe1, wx, wm, gx, gm, Rx, vx, ⟨by first | decide | omega, by first | decide | omega⟩, vq, hRK, Rm, vm, ⟨by first | decide | omega, by first | decide | omega⟩, ⟨by first | decide | omega, by first | decide | omega⟩, ⟨by first | decide | omega, by first | decide | omega⟩, ⟨by first | decide | omega, by first | decide | omega⟩, ⟨by first | decide | omega, by first | decide | omega⟩, ⟨by first | decide | omega, by first | decide | omega⟩, ⟨by first | decide | omega, by first | decide | omega⟩, ⟨by first | decide | omega, by first | decide | omega⟩, ⟨by first | decide | omega, by first | decide | omega⟩, ⟨by first | decide | omega, by first | decide | omega⟩, ⟨by first | decide | omega, by first | decide | omega⟩, ⟨by first | decide | omega, by first | decide | omega⟩, vla, vsz, qsz, hrel, vth, hrt⟩ hS hl
      · have b196 := hw_cmpneq (e192 ▸ c193)
        have b197 : (-11) ≠ (-12) := hw_Lne b196
        exfalso
        first | omega | contradiction | (subst_vars; omega)
    · refine W.lcmp hx hb dL_law_1115 ?_
      refine lv_topi (fun x198 e199 => ?_)
      refine lv_if_eq (tgt := 1187) hx hb dL_law_1116 (by decide) (fun c200 => ?_) (fun c200 => ?_)
      · have b201 := hw_cmpeq (e199 ▸ c200)
        have b202 : (-11) = (-16) := hw_Leq b201
        refine W.widen (k := k + 20) (n := n + 80) (by first | omega | (show _ ≤ _; omega)) (by first | omega | (show _ ≤ _; omega)) ?_
        exact hk9 _ _ _ ⟨G1, rx, rm, pnx, pcx, ksx, scx, udm, kym, lom, wkm, dkm, lnm, smm, fim, bem, rkm, rlm, rwm, clm, dgm, fq, la, sz9, fla, fsz, th, tt, fth, hH, hGe1, wx, wm, gx, gm, Rx, vx, ⟨by first | decide | omega, by first | decide | omega⟩, vq, hRK, Rm, vm, ⟨by first | decide | omega, by first | decide | omega⟩, ⟨by first | decide | omega, by first | decide | omega⟩, ⟨by first | decide | omega, by first | decide | omega⟩, ⟨by first | decide | omega, by first | decide | omega⟩, ⟨by first | decide | omega, by first | decide | omega⟩, ⟨by first | decide | omega, by first | decide | omega⟩, ⟨by first | decide | omega, by first | decide | omega⟩, ⟨by first | decide | omega, by first | decide | omega⟩, ⟨by first | decide | omega, by first | decide | omega⟩, ⟨by first | decide | omega, by first | decide | omega⟩, ⟨by first | decide | omega, by first | decide | omega⟩, ⟨by first | decide | omega, by first | decide | omega⟩, vla, vsz, qsz, hrel, vth, hrt⟩ hS hl
      · have b203 := hw_cmpneq (e199 ▸ c200)
        have b204 : (-11) ≠ (-16) := hw_Lne b203
        exfalso
        first | omega | contradiction | (subst_vars; omega)
    · refine W.lcmp hx hb dL_law_1115 ?_
      refine lv_topi (fun x205 e206 => ?_)
      refine lv_if_eq (tgt := 1187) hx hb dL_law_1116 (by decide) (fun c207 => ?_) (fun c207 => ?_)
      · have b208 := hw_cmpeq (e206 ▸ c207)
        have b209 : (-11) = x164.toInt := hw_Leq b208
        refine W.widen (k := k + 20) (n := n + 80) (by first | omega | (show _ ≤ _; omega)) (by first | omega | (show _ ≤ _; omega)) ?_
        exact hk9 _ _ _ ⟨G1, rx, rm, pnx, pcx, ksx, scx, udm, kym, lom, wkm, dkm, lnm, smm, fim, bem, rkm, rlm, rwm, clm, dgm, fq, la, sz9, fla, fsz, th, tt, fth, hH, hGe1, wx, wm, gx, gm, Rx, vx, ⟨by first | decide | omega, by first | decide | omega⟩, vq, hRK, Rm, vm, ⟨by first | decide | omega, by first | decide | omega⟩, ⟨by first | decide | omega, by first | decide | omega⟩, ⟨by first | decide | omega, by first | decide | omega⟩, ⟨by first | decide | omega, by first | decide | omega⟩, ⟨by first | decide | omega, by first | decide | omega⟩, ⟨by first | decide | omega, by first | decide | omega⟩, ⟨by first | decide | omega, by first | decide | omega⟩, ⟨by first | decide | omega, by first | decide | omega⟩, ⟨by first | decide | omega, by first | decide | omega⟩, ⟨by first | decide | omega, by first | decide | omega⟩, ⟨by first | decide | omega, by first | decide | omega⟩, ⟨by first | decide | omega, by first | decide | omega⟩, vla, vsz, qsz, hrel, vth, hrt⟩ hS hl
      · have b210 := hw_cmpneq (e206 ▸ c207)
        have b211 : (-11) ≠ x164.toInt := hw_Lne b210
        exfalso
        first | omega | contradiction | (subst_vars; omega)
  · have hr212 : 0 ≤ (xs (y3 + 1).toNatClampNeg).toInt ∧ (xs (y3 + 1).toNatClampNeg).toInt ≤ 3 → ((la (xs (y3 + 1).toNatClampNeg).toNatClampNeg).toInt = -1 ↔ (fsz (xs (y3 + 1).toNatClampNeg).toNatClampNeg).toInt < 0) ∧ ((la (xs (y3 + 1).toNatClampNeg).toNatClampNeg).toInt ≠ -1 → (fla (xs (y3 + 1).toNatClampNeg).toNatClampNeg).toInt = (la (xs (y3 + 1).toNatClampNeg).toNatClampNeg).toInt ∧ (fsz (xs (y3 + 1).toNatClampNeg).toNatClampNeg).toInt = (sz9 (xs (y3 + 1).toNatClampNeg).toNatClampNeg).toInt) := fun h9 => hrel _ (hw_i4 h9)
    refine lv_aload_n hx hb dL_law_1101 rfl (lv_at hl 1 rfl) ?_
    refine lv_aload_n hx hb dL_law_1102 rfl (lv_at hl 3 rfl) ?_
    refine lv_iload_n hx hb dL_law_1103 rfl (lv_at hl 0 rfl) ?_
    refine lv_iconst (v := 1) hx hb dL_law_1104 (by decide) ?_
    refine lv_iadd hx hb dL_law_1105 ?_
    refine va_sld hx hb hX hbl hbA hS (hw_in (by omega) (by omega)) dL_law_1106 ?_
    refine lv_aload_n hx hb dL_law_1107 rfl (lv_at hl 3 rfl) ?_
    refine lv_iload_n hx hb dL_law_1108 rfl (lv_at hl 0 rfl) ?_
    refine lv_iconst (v := 2) hx hb dL_law_1109 (by decide) ?_
    refine lv_iadd hx hb dL_law_1110 ?_
    refine va_sld hx hb hX hbl hbA hS (hw_in (by omega) (by omega)) dL_law_1111 ?_
    refine hw_cR (va_runV (As := [.int (xs (y3 + 1).toNatClampNeg), .int (xs (y3 + 2).toNatClampNeg)]) (rest := [.long (-12)]) ⟨hx, hb, hml, hown, hts⟩ (k3_X12_share l D G1 mo (xs (y3 + 1).toNatClampNeg) (xs (y3 + 2).toNatClampNeg) _ rm udm kym lom wkm dkm lnm smm fim bem rkm rlm rwm clm dgm fla fsz fth gm Rm ⟨by first | decide | omega, by first | decide | omega⟩ ⟨by first | decide | omega, by first | decide | omega⟩ ⟨by first | decide | omega, by first | decide | omega⟩ ⟨by first | decide | omega, by first | decide | omega⟩ ⟨by first | decide | omega, by first | decide | omega⟩ ⟨by first | decide | omega, by first | decide | omega⟩ ⟨by first | decide | omega, by first | decide | omega⟩ ⟨by first | decide | omega, by first | decide | omega⟩ ⟨by first | decide | omega, by first | decide | omega⟩ ⟨by first | decide | omega, by first | decide | omega⟩ ⟨by first | decide | omega, by first | decide | omega⟩ ⟨by first | decide | omega, by first | decide | omega⟩ qsz) (cwV 2 hts gL_law_X12_share rfl rfl rfl (by decide +kernel) ⟨Nat.le_of_ble_eq_true rfl, Nat.le_of_ble_eq_true rfl⟩) (hw_pV (hw_rc (q := (RX12, TX12, 45)) hK vm rfl) hH hK hST hS (by decide) (hw_hG hGe1) ⟨vm, vla, vsz, vth⟩) rfl rfl hl.1 rfl (lv_room (Nat.le_of_ble_eq_true rfl)) dL_law_1112 ⟨by show _ ≤ 600000; omega, by show _ ≤ 7302250; omega⟩) (fun v hp => ?_)
    rcases hp with ⟨rfl, q213⟩ | ⟨rfl, q214, q215⟩ | ⟨rfl, q216, q217, q218⟩ | ⟨rfl, q219, q220, q221, q222⟩ | ⟨rfl, q223, q224, q225, q226⟩ | ⟨x227, rfl, q228, q229, q230, q231, q232⟩
    · refine W.lcmp hx hb dL_law_1115 ?_
      refine lv_topi (fun x233 e234 => ?_)
      refine lv_if_eq (tgt := 1187) hx hb dL_law_1116 (by decide) (fun c235 => ?_) (fun c235 => ?_)
      · have b236 := hw_cmpeq (e234 ▸ c235)
        have b237 : (-12) = (-2) := hw_Leq b236
        refine W.widen (k := k + 20) (n := n + 80) (by first | omega | (show _ ≤ _; omega)) (by first | omega | (show _ ≤ _; omega)) ?_
        exact hk9 _ _ _ ⟨G1, rx, rm, pnx, pcx, ksx, scx, udm, kym, lom, wkm, dkm, lnm, smm, fim, bem, rkm, rlm, rwm, clm, dgm, fq, la, sz9, fla, fsz, th, tt, fth, hH, hGe1, wx, wm, gx, gm, Rx, vx, ⟨by first | decide | omega, by first | decide | omega⟩, vq, hRK, Rm, vm, ⟨by first | decide | omega, by first | decide | omega⟩, ⟨by first | decide | omega, by first | decide | omega⟩, ⟨by first | decide | omega, by first | decide | omega⟩, ⟨by first | decide | omega, by first | decide | omega⟩, ⟨by first | decide | omega, by first | decide | omega⟩, ⟨by first | decide | omega, by first | decide | omega⟩, ⟨by first | decide | omega, by first | decide | omega⟩, ⟨by first | decide | omega, by first | decide | omega⟩, ⟨by first | decide | omega, by first | decide | omega⟩, ⟨by first | decide | omega, by first | decide | omega⟩, ⟨by first | decide | omega, by first | decide | omega⟩, ⟨by first | decide | omega, by first | decide | omega⟩, vla, vsz, qsz, hrel, vth, hrt⟩ hS hl
      · have b238 := hw_cmpneq (e234 ▸ c235)
        have b239 : (-12) ≠ (-2) := hw_Lne b238
        exfalso
        first | omega | contradiction | (subst_vars; omega)
    · refine W.lcmp hx hb dL_law_1115 ?_
      refine lv_topi (fun x240 e241 => ?_)
      refine lv_if_eq (tgt := 1187) hx hb dL_law_1116 (by decide) (fun c242 => ?_) (fun c242 => ?_)
      · have b243 := hw_cmpeq (e241 ▸ c242)
        have b244 : (-12) = (-3) := hw_Leq b243
        refine W.widen (k := k + 20) (n := n + 80) (by first | omega | (show _ ≤ _; omega)) (by first | omega | (show _ ≤ _; omega)) ?_
        exact hk9 _ _ _ ⟨G1, rx, rm, pnx, pcx, ksx, scx, udm, kym, lom, wkm, dkm, lnm, smm, fim, bem, rkm, rlm, rwm, clm, dgm, fq, la, sz9, fla, fsz, th, tt, fth, hH, hGe1, wx, wm, gx, gm, Rx, vx, ⟨by first | decide | omega, by first | decide | omega⟩, vq, hRK, Rm, vm, ⟨by first | decide | omega, by first | decide | omega⟩, ⟨by first | decide | omega, by first | decide | omega⟩, ⟨by first | decide | omega, by first | decide | omega⟩, ⟨by first | decide | omega, by first | decide | omega⟩, ⟨by first | decide | omega, by first | decide | omega⟩, ⟨by first | decide | omega, by first | decide | omega⟩, ⟨by first | decide | omega, by first | decide | omega⟩, ⟨by first | decide | omega, by first | decide | omega⟩, ⟨by first | decide | omega, by first | decide | omega⟩, ⟨by first | decide | omega, by first | decide | omega⟩, ⟨by first | decide | omega, by first | decide | omega⟩, ⟨by first | decide | omega, by first | decide | omega⟩, vla, vsz, qsz, hrel, vth, hrt⟩ hS hl
      · have b245 := hw_cmpneq (e241 ▸ c242)
        have b246 : (-12) ≠ (-3) := hw_Lne b245
        exfalso
        first | omega | contradiction | (subst_vars; omega)
    · refine W.lcmp hx hb dL_law_1115 ?_
      refine lv_topi (fun x247 e248 => ?_)
      refine lv_if_eq (tgt := 1187) hx hb dL_law_1116 (by decide) (fun c249 => ?_) (fun c249 => ?_)
      · have b250 := hw_cmpeq (e248 ▸ c249)
        have b251 : (-12) = (-11) := hw_Leq b250
        refine W.widen (k := k + 20) (n := n + 80) (by first | omega | (show _ ≤ _; omega)) (by first | omega | (show _ ≤ _; omega)) ?_
        exact hk9 _ _ _ ⟨G1, rx, rm, pnx, pcx, ksx, scx, udm, kym, lom, wkm, dkm, lnm, smm, fim, bem, rkm, rlm, rwm, clm, dgm, fq, la, sz9, fla, fsz, th, tt, fth, hH, hGe1, wx, wm, gx, gm, Rx, vx, ⟨by first | decide | omega, by first | decide | omega⟩, vq, hRK, Rm, vm, ⟨by first | decide | omega, by first | decide | omega⟩, ⟨by first | decide | omega, by first | decide | omega⟩, ⟨by first | decide | omega, by first | decide | omega⟩, ⟨by first | decide | omega, by first | decide | omega⟩, ⟨by first | decide | omega, by first | decide | omega⟩, ⟨by first | decide | omega, by first | decide | omega⟩, ⟨by first | decide | omega, by first | decide | omega⟩, ⟨by first | decide | omega, by first | decide | omega⟩, ⟨by first | decide | omega, by first | decide | omega⟩, ⟨by first | decide | omega, by first | decide | omega⟩, ⟨by first | decide | omega, by first | decide | omega⟩, ⟨by first | decide | omega, by first | decide | omega⟩, vla, vsz, qsz, hrel, vth, hrt⟩ hS hl
      · have b252 := hw_cmpneq (e248 ▸ c249)
        have b253 : (-12) ≠ (-11) := hw_Lne b252
        exfalso
        first | omega | contradiction | (subst_vars; omega)
    · refine W.lcmp hx hb dL_law_1115 ?_
      refine lv_topi (fun x254 e255 => ?_)
      refine lv_if_eq (tgt := 1187) hx hb dL_law_1116 (by decide) (fun c256 => ?_) (fun c256 => ?_)
      · have b257 := hw_cmpeq (e255 ▸ c256)
        have b258 : (-12) = (-12) := hw_Leq b257
        refine W.widen (k := k + 20) (n := n + 80) (by first | omega | (show _ ≤ _; omega)) (by first | omega | (show _ ≤ _; omega)) ?_
        exact hk9 _ _ _ ⟨G1, rx, rm, pnx, pcx, ksx, scx, udm, kym, lom, wkm, dkm, lnm, smm, fim, bem, rkm, rlm, rwm, clm, dgm, fq, la, sz9, fla, fsz, th, tt, fth, hH, hGe1, wx, wm, gx, gm, Rx, vx, ⟨by first | decide | omega, by first | decide | omega⟩, vq, hRK, Rm, vm, ⟨by first | decide | omega, by first | decide | omega⟩, ⟨by first | decide | omega, by first | decide | omega⟩, ⟨by first | decide | omega, by first | decide | omega⟩, ⟨by first | decide | omega, by first | decide | omega⟩, ⟨by first | decide | omega, by first | decide | omega⟩, ⟨by first | decide | omega, by first | decide | omega⟩, ⟨by first | decide | omega, by first | decide | omega⟩, ⟨by first | decide | omega, by first | decide | omega⟩, ⟨by first | decide | omega, by first | decide | omega⟩, ⟨by first | decide | omega, by first | decide | omega⟩, ⟨by first | decide | omega, by first | decide | omega⟩, ⟨by first | decide | omega, by first | decide | omega⟩, vla, vsz, qsz, hrel, vth, hrt⟩ hS hl
      · have b259 := hw_cmpneq (e255 ▸ c256)
        have b260 : (-12) ≠ (-12) := hw_Lne b259
        exfalso
        first | omega | contradiction | (subst_vars; omega)
    · refine W.lcmp hx hb dL_law_1115 ?_
      refine lv_topi (fun x261 e262 => ?_)
      refine lv_if_eq (tgt := 1187) hx hb dL_law_1116 (by decide) (fun c263 => ?_) (fun c263 => ?_)
      · have b264 := hw_cmpeq (e262 ▸ c263)
        have b265 : (-12) = (-16) := hw_Leq b264
        refine W.widen (k := k + 20) (n := n + 80) (by first | omega | (show _ ≤ _; omega)) (by first | omega | (show _ ≤ _; omega)) ?_
        exact hk9 _ _ _ ⟨G1, rx, rm, pnx, pcx, ksx, scx, udm, kym, lom, wkm, dkm, lnm, smm, fim, bem, rkm, rlm, rwm, clm, dgm, fq, la, sz9, fla, fsz, th, tt, fth, hH, hGe1, wx, wm, gx, gm, Rx, vx, ⟨by first | decide | omega, by first | decide | omega⟩, vq, hRK, Rm, vm, ⟨by first | decide | omega, by first | decide | omega⟩, ⟨by first | decide | omega, by first | decide | omega⟩, ⟨by first | decide | omega, by first | decide | omega⟩, ⟨by first | decide | omega, by first | decide | omega⟩, ⟨by first | decide | omega, by first | decide | omega⟩, ⟨by first | decide | omega, by first | decide | omega⟩, ⟨by first | decide | omega, by first | decide | omega⟩, ⟨by first | decide | omega, by first | decide | omega⟩, ⟨by first | decide | omega, by first | decide | omega⟩, ⟨by first | decide | omega, by first | decide | omega⟩, ⟨by first | decide | omega, by first | decide | omega⟩, ⟨by first | decide | omega, by first | decide | omega⟩, vla, vsz, qsz, hrel, vth, hrt⟩ hS hl
      · have b266 := hw_cmpneq (e262 ▸ c263)
        have b267 : (-12) ≠ (-16) := hw_Lne b266
        exfalso
        first | omega | contradiction | (subst_vars; omega)
    · refine W.lcmp hx hb dL_law_1115 ?_
      refine lv_topi (fun x268 e269 => ?_)
      refine lv_if_eq (tgt := 1187) hx hb dL_law_1116 (by decide) (fun c270 => ?_) (fun c270 => ?_)
      · have b271 := hw_cmpeq (e269 ▸ c270)
        have b272 : (-12) = x227.toInt := hw_Leq b271
        refine W.widen (k := k + 20) (n := n + 80) (by first | omega | (show _ ≤ _; omega)) (by first | omega | (show _ ≤ _; omega)) ?_
        exact hk9 _ _ _ ⟨G1, rx, rm, pnx, pcx, ksx, scx, udm, kym, lom, wkm, dkm, lnm, smm, fim, bem, rkm, rlm, rwm, clm, dgm, fq, la, sz9, fla, fsz, th, tt, fth, hH, hGe1, wx, wm, gx, gm, Rx, vx, ⟨by first | decide | omega, by first | decide | omega⟩, vq, hRK, Rm, vm, ⟨by first | decide | omega, by first | decide | omega⟩, ⟨by first | decide | omega, by first | decide | omega⟩, ⟨by first | decide | omega, by first | decide | omega⟩, ⟨by first | decide | omega, by first | decide | omega⟩, ⟨by first | decide | omega, by first | decide | omega⟩, ⟨by first | decide | omega, by first | decide | omega⟩, ⟨by first | decide | omega, by first | decide | omega⟩, ⟨by first | decide | omega, by first | decide | omega⟩, ⟨by first | decide | omega, by first | decide | omega⟩, ⟨by first | decide | omega, by first | decide | omega⟩, ⟨by first | decide | omega, by first | decide | omega⟩, ⟨by first | decide | omega, by first | decide | omega⟩, vla, vsz, qsz, hrel, vth, hrt⟩ hS hl
      · have b273 := hw_cmpneq (e269 ▸ c270)
        have b274 : (-12) ≠ x227.toInt := hw_Lne b273
        exfalso
        first | omega | contradiction | (subst_vars; omega)
  · have hr275 : 0 ≤ (xs (y3 + 1).toNatClampNeg).toInt ∧ (xs (y3 + 1).toNatClampNeg).toInt ≤ 3 → ((la (xs (y3 + 1).toNatClampNeg).toNatClampNeg).toInt = -1 ↔ (fsz (xs (y3 + 1).toNatClampNeg).toNatClampNeg).toInt < 0) ∧ ((la (xs (y3 + 1).toNatClampNeg).toNatClampNeg).toInt ≠ -1 → (fla (xs (y3 + 1).toNatClampNeg).toNatClampNeg).toInt = (la (xs (y3 + 1).toNatClampNeg).toNatClampNeg).toInt ∧ (fsz (xs (y3 + 1).toNatClampNeg).toNatClampNeg).toInt = (sz9 (xs (y3 + 1).toNatClampNeg).toNatClampNeg).toInt) := fun h9 => hrel _ (hw_i4 h9)
    refine lv_aload_n hx hb dL_law_1101 rfl (lv_at hl 1 rfl) ?_
    refine lv_aload_n hx hb dL_law_1102 rfl (lv_at hl 3 rfl) ?_
    refine lv_iload_n hx hb dL_law_1103 rfl (lv_at hl 0 rfl) ?_
    refine lv_iconst (v := 1) hx hb dL_law_1104 (by decide) ?_
    refine lv_iadd hx hb dL_law_1105 ?_
    refine va_sld hx hb hX hbl hbA hS (hw_in (by omega) (by omega)) dL_law_1106 ?_
    refine lv_aload_n hx hb dL_law_1107 rfl (lv_at hl 3 rfl) ?_
    refine lv_iload_n hx hb dL_law_1108 rfl (lv_at hl 0 rfl) ?_
    refine lv_iconst (v := 2) hx hb dL_law_1109 (by decide) ?_
    refine lv_iadd hx hb dL_law_1110 ?_
    refine va_sld hx hb hX hbl hbA hS (hw_in (by omega) (by omega)) dL_law_1111 ?_
    refine hw_cR (va_runV (As := [.int (xs (y3 + 1).toNatClampNeg), .int (xs (y3 + 2).toNatClampNeg)]) (rest := [.long (-16)]) ⟨hx, hb, hml, hown, hts⟩ (k3_X12_share l D G1 mo (xs (y3 + 1).toNatClampNeg) (xs (y3 + 2).toNatClampNeg) _ rm udm kym lom wkm dkm lnm smm fim bem rkm rlm rwm clm dgm fla fsz fth gm Rm ⟨by first | decide | omega, by first | decide | omega⟩ ⟨by first | decide | omega, by first | decide | omega⟩ ⟨by first | decide | omega, by first | decide | omega⟩ ⟨by first | decide | omega, by first | decide | omega⟩ ⟨by first | decide | omega, by first | decide | omega⟩ ⟨by first | decide | omega, by first | decide | omega⟩ ⟨by first | decide | omega, by first | decide | omega⟩ ⟨by first | decide | omega, by first | decide | omega⟩ ⟨by first | decide | omega, by first | decide | omega⟩ ⟨by first | decide | omega, by first | decide | omega⟩ ⟨by first | decide | omega, by first | decide | omega⟩ ⟨by first | decide | omega, by first | decide | omega⟩ qsz) (cwV 2 hts gL_law_X12_share rfl rfl rfl (by decide +kernel) ⟨Nat.le_of_ble_eq_true rfl, Nat.le_of_ble_eq_true rfl⟩) (hw_pV (hw_rc (q := (RX12, TX12, 45)) hK vm rfl) hH hK hST hS (by decide) (hw_hG hGe1) ⟨vm, vla, vsz, vth⟩) rfl rfl hl.1 rfl (lv_room (Nat.le_of_ble_eq_true rfl)) dL_law_1112 ⟨by show _ ≤ 600000; omega, by show _ ≤ 7302250; omega⟩) (fun v hp => ?_)
    rcases hp with ⟨rfl, q276⟩ | ⟨rfl, q277, q278⟩ | ⟨rfl, q279, q280, q281⟩ | ⟨rfl, q282, q283, q284, q285⟩ | ⟨rfl, q286, q287, q288, q289⟩ | ⟨x290, rfl, q291, q292, q293, q294, q295⟩
    · refine W.lcmp hx hb dL_law_1115 ?_
      refine lv_topi (fun x296 e297 => ?_)
      refine lv_if_eq (tgt := 1187) hx hb dL_law_1116 (by decide) (fun c298 => ?_) (fun c298 => ?_)
      · have b299 := hw_cmpeq (e297 ▸ c298)
        have b300 : (-16) = (-2) := hw_Leq b299
        refine W.widen (k := k + 20) (n := n + 80) (by first | omega | (show _ ≤ _; omega)) (by first | omega | (show _ ≤ _; omega)) ?_
        exact hk9 _ _ _ ⟨G1, rx, rm, pnx, pcx, ksx, scx, udm, kym, lom, wkm, dkm, lnm, smm, fim, bem, rkm, rlm, rwm, clm, dgm, fq, la, sz9, fla, fsz, th, tt, fth, hH, hGe1, wx, wm, gx, gm, Rx, vx, ⟨by first | decide | omega, by first | decide | omega⟩, vq, hRK, Rm, vm, ⟨by first | decide | omega, by first | decide | omega⟩, ⟨by first | decide | omega, by first | decide | omega⟩, ⟨by first | decide | omega, by first | decide | omega⟩, ⟨by first | decide | omega, by first | decide | omega⟩, ⟨by first | decide | omega, by first | decide | omega⟩, ⟨by first | decide | omega, by first | decide | omega⟩, ⟨by first | decide | omega, by first | decide | omega⟩, ⟨by first | decide | omega, by first | decide | omega⟩, ⟨by first | decide | omega, by first | decide | omega⟩, ⟨by first | decide | omega, by first | decide | omega⟩, ⟨by first | decide | omega, by first | decide | omega⟩, ⟨by first | decide | omega, by first | decide | omega⟩, vla, vsz, qsz, hrel, vth, hrt⟩ hS hl
      · have b301 := hw_cmpneq (e297 ▸ c298)
        have b302 : (-16) ≠ (-2) := hw_Lne b301
        exfalso
        first | omega | contradiction | (subst_vars; omega)
    · refine W.lcmp hx hb dL_law_1115 ?_
      refine lv_topi (fun x303 e304 => ?_)
      refine lv_if_eq (tgt := 1187) hx hb dL_law_1116 (by decide) (fun c305 => ?_) (fun c305 => ?_)
      · have b306 := hw_cmpeq (e304 ▸ c305)
        have b307 : (-16) = (-3) := hw_Leq b306
        refine W.widen (k := k + 20) (n := n + 80) (by first | omega | (show _ ≤ _; omega)) (by first | omega | (show _ ≤ _; omega)) ?_
        exact hk9 _ _ _ ⟨G1, rx, rm, pnx, pcx, ksx, scx, udm, kym, lom, wkm, dkm, lnm, smm, fim, bem, rkm, rlm, rwm, clm, dgm, fq, la, sz9, fla, fsz, th, tt, fth, hH, hGe1, wx, wm, gx, gm, Rx, vx, ⟨by first | decide | omega, by first | decide | omega⟩, vq, hRK, Rm, vm, ⟨by first | decide | omega, by first | decide | omega⟩, ⟨by first | decide | omega, by first | decide | omega⟩, ⟨by first | decide | omega, by first | decide | omega⟩, ⟨by first | decide | omega, by first | decide | omega⟩, ⟨by first | decide | omega, by first | decide | omega⟩, ⟨by first | decide | omega, by first | decide | omega⟩, ⟨by first | decide | omega, by first | decide | omega⟩, ⟨by first | decide | omega, by first | decide | omega⟩, ⟨by first | decide | omega, by first | decide | omega⟩, ⟨by first | decide | omega, by first | decide | omega⟩, ⟨by first | decide | omega, by first | decide | omega⟩, ⟨by first | decide | omega, by first | decide | omega⟩, vla, vsz, qsz, hrel, vth, hrt⟩ hS hl
      · have b308 := hw_cmpneq (e304 ▸ c305)
        have b309 : (-16) ≠ (-3) := hw_Lne b308
        exfalso
        first | omega | contradiction | (subst_vars; omega)
    · refine W.lcmp hx hb dL_law_1115 ?_
      refine lv_topi (fun x310 e311 => ?_)
      refine lv_if_eq (tgt := 1187) hx hb dL_law_1116 (by decide) (fun c312 => ?_) (fun c312 => ?_)
      · have b313 := hw_cmpeq (e311 ▸ c312)
        have b314 : (-16) = (-11) := hw_Leq b313
        refine W.widen (k := k + 20) (n := n + 80) (by first | omega | (show _ ≤ _; omega)) (by first | omega | (show _ ≤ _; omega)) ?_
        exact hk9 _ _ _ ⟨G1, rx, rm, pnx, pcx, ksx, scx, udm, kym, lom, wkm, dkm, lnm, smm, fim, bem, rkm, rlm, rwm, clm, dgm, fq, la, sz9, fla, fsz, th, tt, fth, hH, hGe1, wx, wm, gx, gm, Rx, vx, ⟨by first | decide | omega, by first | decide | omega⟩, vq, hRK, Rm, vm, ⟨by first | decide | omega, by first | decide | omega⟩, ⟨by first | decide | omega, by first | decide | omega⟩, ⟨by first | decide | omega, by first | decide | omega⟩, ⟨by first | decide | omega, by first | decide | omega⟩, ⟨by first | decide | omega, by first | decide | omega⟩, ⟨by first | decide | omega, by first | decide | omega⟩, ⟨by first | decide | omega, by first | decide | omega⟩, ⟨by first | decide | omega, by first | decide | omega⟩, ⟨by first | decide | omega, by first | decide | omega⟩, ⟨by first | decide | omega, by first | decide | omega⟩, ⟨by first | decide | omega, by first | decide | omega⟩, ⟨by first | decide | omega, by first | decide | omega⟩, vla, vsz, qsz, hrel, vth, hrt⟩ hS hl
      · have b315 := hw_cmpneq (e311 ▸ c312)
        have b316 : (-16) ≠ (-11) := hw_Lne b315
        exfalso
        first | omega | contradiction | (subst_vars; omega)
    · refine W.lcmp hx hb dL_law_1115 ?_
      refine lv_topi (fun x317 e318 => ?_)
      refine lv_if_eq (tgt := 1187) hx hb dL_law_1116 (by decide) (fun c319 => ?_) (fun c319 => ?_)
      · have b320 := hw_cmpeq (e318 ▸ c319)
        have b321 : (-16) = (-12) := hw_Leq b320
        refine W.widen (k := k + 20) (n := n + 80) (by first | omega | (show _ ≤ _; omega)) (by first | omega | (show _ ≤ _; omega)) ?_
        exact hk9 _ _ _ ⟨G1, rx, rm, pnx, pcx, ksx, scx, udm, kym, lom, wkm, dkm, lnm, smm, fim, bem, rkm, rlm, rwm, clm, dgm, fq, la, sz9, fla, fsz, th, tt, fth, hH, hGe1, wx, wm, gx, gm, Rx, vx, ⟨by first | decide | omega, by first | decide | omega⟩, vq, hRK, Rm, vm, ⟨by first | decide | omega, by first | decide | omega⟩, ⟨by first | decide | omega, by first | decide | omega⟩, ⟨by first | decide | omega, by first | decide | omega⟩, ⟨by first | decide | omega, by first | decide | omega⟩, ⟨by first | decide | omega, by first | decide | omega⟩, ⟨by first | decide | omega, by first | decide | omega⟩, ⟨by first | decide | omega, by first | decide | omega⟩, ⟨by first | decide | omega, by first | decide | omega⟩, ⟨by first | decide | omega, by first | decide | omega⟩, ⟨by first | decide | omega, by first | decide | omega⟩, ⟨by first | decide | omega, by first | decide | omega⟩, ⟨by first | decide | omega, by first | decide | omega⟩, vla, vsz, qsz, hrel, vth, hrt⟩ hS hl
      · have b322 := hw_cmpneq (e318 ▸ c319)
        have b323 : (-16) ≠ (-12) := hw_Lne b322
        exfalso
        first | omega | contradiction | (subst_vars; omega)
    · refine W.lcmp hx hb dL_law_1115 ?_
      refine lv_topi (fun x324 e325 => ?_)
      refine lv_if_eq (tgt := 1187) hx hb dL_law_1116 (by decide) (fun c326 => ?_) (fun c326 => ?_)
      · have b327 := hw_cmpeq (e325 ▸ c326)
        have b328 : (-16) = (-16) := hw_Leq b327
        refine W.widen (k := k + 20) (n := n + 80) (by first | omega | (show _ ≤ _; omega)) (by first | omega | (show _ ≤ _; omega)) ?_
        exact hk9 _ _ _ ⟨G1, rx, rm, pnx, pcx, ksx, scx, udm, kym, lom, wkm, dkm, lnm, smm, fim, bem, rkm, rlm, rwm, clm, dgm, fq, la, sz9, fla, fsz, th, tt, fth, hH, hGe1, wx, wm, gx, gm, Rx, vx, ⟨by first | decide | omega, by first | decide | omega⟩, vq, hRK, Rm, vm, ⟨by first | decide | omega, by first | decide | omega⟩, ⟨by first | decide | omega, by first | decide | omega⟩, ⟨by first | decide | omega, by first | decide | omega⟩, ⟨by first | decide | omega, by first | decide | omega⟩, ⟨by first | decide | omega, by first | decide | omega⟩, ⟨by first | decide | omega, by first | decide | omega⟩, ⟨by first | decide | omega, by first | decide | omega⟩, ⟨by first | decide | omega, by first | decide | omega⟩, ⟨by first | decide | omega, by first | decide | omega⟩, ⟨by first | decide | omega, by first | decide | omega⟩, ⟨by first | decide | omega, by first | decide | omega⟩, ⟨by first | decide | omega, by first | decide | omega⟩, vla, vsz, qsz, hrel, vth, hrt⟩ hS hl
      · have b329 := hw_cmpneq (e325 ▸ c326)
        have b330 : (-16) ≠ (-16) := hw_Lne b329
        exfalso
        first | omega | contradiction | (subst_vars; omega)
    · refine W.lcmp hx hb dL_law_1115 ?_
      refine lv_topi (fun x331 e332 => ?_)
      refine lv_if_eq (tgt := 1187) hx hb dL_law_1116 (by decide) (fun c333 => ?_) (fun c333 => ?_)
      · have b334 := hw_cmpeq (e332 ▸ c333)
        have b335 : (-16) = x290.toInt := hw_Leq b334
        refine W.widen (k := k + 20) (n := n + 80) (by first | omega | (show _ ≤ _; omega)) (by first | omega | (show _ ≤ _; omega)) ?_
        exact hk9 _ _ _ ⟨G1, rx, rm, pnx, pcx, ksx, scx, udm, kym, lom, wkm, dkm, lnm, smm, fim, bem, rkm, rlm, rwm, clm, dgm, fq, la, sz9, fla, fsz, th, tt, fth, hH, hGe1, wx, wm, gx, gm, Rx, vx, ⟨by first | decide | omega, by first | decide | omega⟩, vq, hRK, Rm, vm, ⟨by first | decide | omega, by first | decide | omega⟩, ⟨by first | decide | omega, by first | decide | omega⟩, ⟨by first | decide | omega, by first | decide | omega⟩, ⟨by first | decide | omega, by first | decide | omega⟩, ⟨by first | decide | omega, by first | decide | omega⟩, ⟨by first | decide | omega, by first | decide | omega⟩, ⟨by first | decide | omega, by first | decide | omega⟩, ⟨by first | decide | omega, by first | decide | omega⟩, ⟨by first | decide | omega, by first | decide | omega⟩, ⟨by first | decide | omega, by first | decide | omega⟩, ⟨by first | decide | omega, by first | decide | omega⟩, ⟨by first | decide | omega, by first | decide | omega⟩, vla, vsz, qsz, hrel, vth, hrt⟩ hS hl
      · have b336 := hw_cmpneq (e332 ▸ c333)
        have b337 : (-16) ≠ x290.toInt := hw_Lne b336
        exfalso
        first | omega | contradiction | (subst_vars; omega)
  · have hr338 : 0 ≤ (xs (y3 + 1).toNatClampNeg).toInt ∧ (xs (y3 + 1).toNatClampNeg).toInt ≤ 3 → ((la (xs (y3 + 1).toNatClampNeg).toNatClampNeg).toInt = -1 ↔ (fsz (xs (y3 + 1).toNatClampNeg).toNatClampNeg).toInt < 0) ∧ ((la (xs (y3 + 1).toNatClampNeg).toNatClampNeg).toInt ≠ -1 → (fla (xs (y3 + 1).toNatClampNeg).toNatClampNeg).toInt = (la (xs (y3 + 1).toNatClampNeg).toNatClampNeg).toInt ∧ (fsz (xs (y3 + 1).toNatClampNeg).toNatClampNeg).toInt = (sz9 (xs (y3 + 1).toNatClampNeg).toNatClampNeg).toInt) := fun h9 => hrel _ (hw_i4 h9)
    refine lv_aload_n hx hb dL_law_1101 rfl (lv_at hl 1 rfl) ?_
    refine lv_aload_n hx hb dL_law_1102 rfl (lv_at hl 3 rfl) ?_
    refine lv_iload_n hx hb dL_law_1103 rfl (lv_at hl 0 rfl) ?_
    refine lv_iconst (v := 1) hx hb dL_law_1104 (by decide) ?_
    refine lv_iadd hx hb dL_law_1105 ?_
    refine va_sld hx hb hX hbl hbA hS (hw_in (by omega) (by omega)) dL_law_1106 ?_
    refine lv_aload_n hx hb dL_law_1107 rfl (lv_at hl 3 rfl) ?_
    refine lv_iload_n hx hb dL_law_1108 rfl (lv_at hl 0 rfl) ?_
    refine lv_iconst (v := 2) hx hb dL_law_1109 (by decide) ?_
    refine lv_iadd hx hb dL_law_1110 ?_
    refine va_sld hx hb hX hbl hbA hS (hw_in (by omega) (by omega)) dL_law_1111 ?_
    refine hw_cR (va_runV (As := [.int (xs (y3 + 1).toNatClampNeg), .int (xs (y3 + 2).toNatClampNeg)]) (rest := [.long x17]) ⟨hx, hb, hml, hown, hts⟩ (k3_X12_share l D G1 mo (xs (y3 + 1).toNatClampNeg) (xs (y3 + 2).toNatClampNeg) _ rm udm kym lom wkm dkm lnm smm fim bem rkm rlm rwm clm dgm fla fsz fth gm Rm ⟨by first | decide | omega, by first | decide | omega⟩ ⟨by first | decide | omega, by first | decide | omega⟩ ⟨by first | decide | omega, by first | decide | omega⟩ ⟨by first | decide | omega, by first | decide | omega⟩ ⟨by first | decide | omega, by first | decide | omega⟩ ⟨by first | decide | omega, by first | decide | omega⟩ ⟨by first | decide | omega, by first | decide | omega⟩ ⟨by first | decide | omega, by first | decide | omega⟩ ⟨by first | decide | omega, by first | decide | omega⟩ ⟨by first | decide | omega, by first | decide | omega⟩ ⟨by first | decide | omega, by first | decide | omega⟩ ⟨by first | decide | omega, by first | decide | omega⟩ qsz) (cwV 2 hts gL_law_X12_share rfl rfl rfl (by decide +kernel) ⟨Nat.le_of_ble_eq_true rfl, Nat.le_of_ble_eq_true rfl⟩) (hw_pV (hw_rc (q := (RX12, TX12, 45)) hK vm rfl) hH hK hST hS (by decide) (hw_hG hGe1) ⟨vm, vla, vsz, vth⟩) rfl rfl hl.1 rfl (lv_room (Nat.le_of_ble_eq_true rfl)) dL_law_1112 ⟨by show _ ≤ 600000; omega, by show _ ≤ 7302250; omega⟩) (fun v hp => ?_)
    rcases hp with ⟨rfl, q339⟩ | ⟨rfl, q340, q341⟩ | ⟨rfl, q342, q343, q344⟩ | ⟨rfl, q345, q346, q347, q348⟩ | ⟨rfl, q349, q350, q351, q352⟩ | ⟨x353, rfl, q354, q355, q356, q357, q358⟩
    · refine W.lcmp hx hb dL_law_1115 ?_
      refine lv_topi (fun x359 e360 => ?_)
      refine lv_if_eq (tgt := 1187) hx hb dL_law_1116 (by decide) (fun c361 => ?_) (fun c361 => ?_)
      · have b362 := hw_cmpeq (e360 ▸ c361)
        have b363 : x17.toInt = (-2) := hw_Leq b362
        refine W.widen (k := k + 20) (n := n + 80) (by first | omega | (show _ ≤ _; omega)) (by first | omega | (show _ ≤ _; omega)) ?_
        exact hk9 _ _ _ ⟨G1, rx, rm, pnx, pcx, ksx, scx, udm, kym, lom, wkm, dkm, lnm, smm, fim, bem, rkm, rlm, rwm, clm, dgm, fq, la, sz9, fla, fsz, th, tt, fth, hH, hGe1, wx, wm, gx, gm, Rx, vx, ⟨by first | decide | omega, by first | decide | omega⟩, vq, hRK, Rm, vm, ⟨by first | decide | omega, by first | decide | omega⟩, ⟨by first | decide | omega, by first | decide | omega⟩, ⟨by first | decide | omega, by first | decide | omega⟩, ⟨by first | decide | omega, by first | decide | omega⟩, ⟨by first | decide | omega, by first | decide | omega⟩, ⟨by first | decide | omega, by first | decide | omega⟩, ⟨by first | decide | omega, by first | decide | omega⟩, ⟨by first | decide | omega, by first | decide | omega⟩, ⟨by first | decide | omega, by first | decide | omega⟩, ⟨by first | decide | omega, by first | decide | omega⟩, ⟨by first | decide | omega, by first | decide | omega⟩, ⟨by first | decide | omega, by first | decide | omega⟩, vla, vsz, qsz, hrel, vth, hrt⟩ hS hl
      · have b364 := hw_cmpneq (e360 ▸ c361)
        have b365 : x17.toInt ≠ (-2) := hw_Lne b364
        exfalso
        first | omega | contradiction | (subst_vars; omega)
    · refine W.lcmp hx hb dL_law_1115 ?_
      refine lv_topi (fun x366 e367 => ?_)
      refine lv_if_eq (tgt := 1187) hx hb dL_law_1116 (by decide) (fun c368 => ?_) (fun c368 => ?_)
      · have b369 := hw_cmpeq (e367 ▸ c368)
        have b370 : x17.toInt = (-3) := hw_Leq b369
        refine W.widen (k := k + 20) (n := n + 80) (by first | omega | (show _ ≤ _; omega)) (by first | omega | (show _ ≤ _; omega)) ?_
        exact hk9 _ _ _ ⟨G1, rx, rm, pnx, pcx, ksx, scx, udm, kym, lom, wkm, dkm, lnm, smm, fim, bem, rkm, rlm, rwm, clm, dgm, fq, la, sz9, fla, fsz, th, tt, fth, hH, hGe1, wx, wm, gx, gm, Rx, vx, ⟨by first | decide | omega, by first | decide | omega⟩, vq, hRK, Rm, vm, ⟨by first | decide | omega, by first | decide | omega⟩, ⟨by first | decide | omega, by first | decide | omega⟩, ⟨by first | decide | omega, by first | decide | omega⟩, ⟨by first | decide | omega, by first | decide | omega⟩, ⟨by first | decide | omega, by first | decide | omega⟩, ⟨by first | decide | omega, by first | decide | omega⟩, ⟨by first | decide | omega, by first | decide | omega⟩, ⟨by first | decide | omega, by first | decide | omega⟩, ⟨by first | decide | omega, by first | decide | omega⟩, ⟨by first | decide | omega, by first | decide | omega⟩, ⟨by first | decide | omega, by first | decide | omega⟩, ⟨by first | decide | omega, by first | decide | omega⟩, vla, vsz, qsz, hrel, vth, hrt⟩ hS hl
      · have b371 := hw_cmpneq (e367 ▸ c368)
        have b372 : x17.toInt ≠ (-3) := hw_Lne b371
        exfalso
        first | omega | contradiction | (subst_vars; omega)
    · refine W.lcmp hx hb dL_law_1115 ?_
      refine lv_topi (fun x373 e374 => ?_)
      refine lv_if_eq (tgt := 1187) hx hb dL_law_1116 (by decide) (fun c375 => ?_) (fun c375 => ?_)
      · have b376 := hw_cmpeq (e374 ▸ c375)
        have b377 : x17.toInt = (-11) := hw_Leq b376
        refine W.widen (k := k + 20) (n := n + 80) (by first | omega | (show _ ≤ _; omega)) (by first | omega | (show _ ≤ _; omega)) ?_
        exact hk9 _ _ _ ⟨G1, rx, rm, pnx, pcx, ksx, scx, udm, kym, lom, wkm, dkm, lnm, smm, fim, bem, rkm, rlm, rwm, clm, dgm, fq, la, sz9, fla, fsz, th, tt, fth, hH, hGe1, wx, wm, gx, gm, Rx, vx, ⟨by first | decide | omega, by first | decide | omega⟩, vq, hRK, Rm, vm, ⟨by first | decide | omega, by first | decide | omega⟩, ⟨by first | decide | omega, by first | decide | omega⟩, ⟨by first | decide | omega, by first | decide | omega⟩, ⟨by first | decide | omega, by first | decide | omega⟩, ⟨by first | decide | omega, by first | decide | omega⟩, ⟨by first | decide | omega, by first | decide | omega⟩, ⟨by first | decide | omega, by first | decide | omega⟩, ⟨by first | decide | omega, by first | decide | omega⟩, ⟨by first | decide | omega, by first | decide | omega⟩, ⟨by first | decide | omega, by first | decide | omega⟩, ⟨by first | decide | omega, by first | decide | omega⟩, ⟨by first | decide | omega, by first | decide | omega⟩, vla, vsz, qsz, hrel, vth, hrt⟩ hS hl
      · have b378 := hw_cmpneq (e374 ▸ c375)
        have b379 : x17.toInt ≠ (-11) := hw_Lne b378
        exfalso
        first | omega | contradiction | (subst_vars; omega)
    · refine W.lcmp hx hb dL_law_1115 ?_
      refine lv_topi (fun x380 e381 => ?_)
      refine lv_if_eq (tgt := 1187) hx hb dL_law_1116 (by decide) (fun c382 => ?_) (fun c382 => ?_)
      · have b383 := hw_cmpeq (e381 ▸ c382)
        have b384 : x17.toInt = (-12) := hw_Leq b383
        refine W.widen (k := k + 20) (n := n + 80) (by first | omega | (show _ ≤ _; omega)) (by first | omega | (show _ ≤ _; omega)) ?_
        exact hk9 _ _ _ ⟨G1, rx, rm, pnx, pcx, ksx, scx, udm, kym, lom, wkm, dkm, lnm, smm, fim, bem, rkm, rlm, rwm, clm, dgm, fq, la, sz9, fla, fsz, th, tt, fth, hH, hGe1, wx, wm, gx, gm, Rx, vx, ⟨by first | decide | omega, by first | decide | omega⟩, vq, hRK, Rm, vm, ⟨by first | decide | omega, by first | decide | omega⟩, ⟨by first | decide | omega, by first | decide | omega⟩, ⟨by first | decide | omega, by first | decide | omega⟩, ⟨by first | decide | omega, by first | decide | omega⟩, ⟨by first | decide | omega, by first | decide | omega⟩, ⟨by first | decide | omega, by first | decide | omega⟩, ⟨by first | decide | omega, by first | decide | omega⟩, ⟨by first | decide | omega, by first | decide | omega⟩, ⟨by first | decide | omega, by first | decide | omega⟩, ⟨by first | decide | omega, by first | decide | omega⟩, ⟨by first | decide | omega, by first | decide | omega⟩, ⟨by first | decide | omega, by first | decide | omega⟩, vla, vsz, qsz, hrel, vth, hrt⟩ hS hl
      · have b385 := hw_cmpneq (e381 ▸ c382)
        have b386 : x17.toInt ≠ (-12) := hw_Lne b385
        exfalso
        first | omega | contradiction | (subst_vars; omega)
    · refine W.lcmp hx hb dL_law_1115 ?_
      refine lv_topi (fun x387 e388 => ?_)
      refine lv_if_eq (tgt := 1187) hx hb dL_law_1116 (by decide) (fun c389 => ?_) (fun c389 => ?_)
      · have b390 := hw_cmpeq (e388 ▸ c389)
        have b391 : x17.toInt = (-16) := hw_Leq b390
        refine W.widen (k := k + 20) (n := n + 80) (by first | omega | (show _ ≤ _; omega)) (by first | omega | (show _ ≤ _; omega)) ?_
        exact hk9 _ _ _ ⟨G1, rx, rm, pnx, pcx, ksx, scx, udm, kym, lom, wkm, dkm, lnm, smm, fim, bem, rkm, rlm, rwm, clm, dgm, fq, la, sz9, fla, fsz, th, tt, fth, hH, hGe1, wx, wm, gx, gm, Rx, vx, ⟨by first | decide | omega, by first | decide | omega⟩, vq, hRK, Rm, vm, ⟨by first | decide | omega, by first | decide | omega⟩, ⟨by first | decide | omega, by first | decide | omega⟩, ⟨by first | decide | omega, by first | decide | omega⟩, ⟨by first | decide | omega, by first | decide | omega⟩, ⟨by first | decide | omega, by first | decide | omega⟩, ⟨by first | decide | omega, by first | decide | omega⟩, ⟨by first | decide | omega, by first | decide | omega⟩, ⟨by first | decide | omega, by first | decide | omega⟩, ⟨by first | decide | omega, by first | decide | omega⟩, ⟨by first | decide | omega, by first | decide | omega⟩, ⟨by first | decide | omega, by first | decide | omega⟩, ⟨by first | decide | omega, by first | decide | omega⟩, vla, vsz, qsz, hrel, vth, hrt⟩ hS hl
      · have b392 := hw_cmpneq (e388 ▸ c389)
        have b393 : x17.toInt ≠ (-16) := hw_Lne b392
        exfalso
        first | omega | contradiction | (subst_vars; omega)
    · have heq := hw_share_eq hrt (((hrel _ (hw_i4 (x := (xs (y3 + 1).toNatClampNeg)) (by omega))).2 (by omega)).2) (by omega) (by omega) (by omega) q22 q358
      refine W.lcmp hx hb dL_law_1115 ?_
      refine lv_topi (fun x394 e395 => ?_)
      refine lv_if_eq (tgt := 1187) hx hb dL_law_1116 (by decide) (fun c396 => ?_) (fun c396 => ?_)
      · have b397 := hw_cmpeq (e395 ▸ c396)
        have b398 : x17.toInt = x353.toInt := hw_Leq b397
        refine W.widen (k := k + 20) (n := n + 80) (by first | omega | (show _ ≤ _; omega)) (by first | omega | (show _ ≤ _; omega)) ?_
        exact hk9 _ _ _ ⟨G1, rx, rm, pnx, pcx, ksx, scx, udm, kym, lom, wkm, dkm, lnm, smm, fim, bem, rkm, rlm, rwm, clm, dgm, fq, la, sz9, fla, fsz, th, tt, fth, hH, hGe1, wx, wm, gx, gm, Rx, vx, ⟨by first | decide | omega, by first | decide | omega⟩, vq, hRK, Rm, vm, ⟨by first | decide | omega, by first | decide | omega⟩, ⟨by first | decide | omega, by first | decide | omega⟩, ⟨by first | decide | omega, by first | decide | omega⟩, ⟨by first | decide | omega, by first | decide | omega⟩, ⟨by first | decide | omega, by first | decide | omega⟩, ⟨by first | decide | omega, by first | decide | omega⟩, ⟨by first | decide | omega, by first | decide | omega⟩, ⟨by first | decide | omega, by first | decide | omega⟩, ⟨by first | decide | omega, by first | decide | omega⟩, ⟨by first | decide | omega, by first | decide | omega⟩, ⟨by first | decide | omega, by first | decide | omega⟩, ⟨by first | decide | omega, by first | decide | omega⟩, vla, vsz, qsz, hrel, vth, hrt⟩ hS hl
      · have b399 := hw_cmpneq (e395 ▸ c396)
        have b400 : x17.toInt ≠ x353.toInt := hw_Lne b399
        exfalso
        first | omega | contradiction | (subst_vars; omega)

set_option maxHeartbeats 40000000 in
set_option maxRecDepth 100000 in
theorem hw_case1121 {p : Program} {e : Env} {s : State} {m : MethodId} {below : List Frame} {meth : Method} {c : Code} (l : Launch) {b L : Nat} {xs : Nat → Int32} {D : hw_D} {G : Nat → Nat} {H : Heap} {locs : List Loc} {x mo k n : Nat} {y3 : Int32} {ls : Array Slot} (hL : L ≤ 384) (hy0 : 0 ≤ y3.toInt ∧ y3.toInt ≤ 384) (hy : y3.toInt + 6 ≤ L) (hkc : k + 20 ≤ 600000) (hnc : n + 80 ≤ 7302250) (hx : p.tables.exec = Jvm.exec) (hb : c.code = code) (hr : meth.sig.returnType = ret) (hml : c.maxLocals = 4) (hown : s.vm.findClass R_law = some m.cls) (hts0 : ∀ w ∈ lw_tbl, w.before #[Value.ref b] s = true) (hts : ∀ w ∈ wsL_law, w.before #[Value.ref b] s = true) (hX : va_X b L xs s s.heap) (hbl : b < s.heap.size) (hlocks : meth.locks = false) (hG0 : G = fun _ => 0) (hK : va_K D.1 vwCl (hw_ty D.2.1) s) (hST : hw_ST D.2.2 G s.heap.size s) (hI : hw_I D G s H x mo) (hS : va_S (hw_AW G [1, 2, 3, 4, 5, 6, 7, 8, 9, 10, 11, 12, 13, 14, 15, 16, 17, 18, 19, 20, 21, 22, 23, 24, 25, 26, 27, 28, 29, 30, 31, 32, 40, 42, 44, 45, 46, 48, 49, 50, 51, 53, 55, 58, 59, 67, 68, 69, 70, 71, 72, 73, 74, 75, 76, 77, 78, 79, 80, 81, 82, 83, 84, 101, 102, 103, 104, 105, 106, 107, 108, 109, 127, 128, 129, 132] s.heap.size) s.heap H locs) (hl : lv_has ls 4 [(3, .int y3), (2, .ref mo), (1, .ref x), (0, .ref b)]) (hk9 : ∀ (H1 : Heap) (locs1 : List Loc) (ls1 : Array Slot), hw_I D G s H1 x mo → va_S (hw_AW G [1, 2, 3, 4, 5, 6, 7, 8, 9, 10, 11, 12, 13, 14, 15, 16, 17, 18, 19, 20, 21, 22, 23, 24, 25, 26, 27, 28, 29, 30, 31, 32, 40, 42, 44, 45, 46, 48, 49, 50, 51, 53, 55, 58, 59, 67, 68, 69, 70, 71, 72, 73, 74, 75, 76, 77, 78, 79, 80, 81, 82, 83, 84, 101, 102, 103, 104, 105, 106, 107, 108, 109, 127, 128, 129, 132] s.heap.size) s.heap H1 locs1 → lv_has ls1 4 [(3, .int y3), (2, .ref mo), (1, .ref x), (0, .ref b)] → W p l e room_1 s m #[Value.ref b] below meth c H1 locs1 (k + 20) (n + 80) (lw_Z below #[Value.ref b] s) (F0 m 1187 ls1 [])) : W p l e room_1 s m #[Value.ref b] below meth c H locs k n (lw_Z below #[Value.ref b] s) (F0 m 1121 ls []) := by
  have hH0 : hw_HT D G s.heap := fun a h => absurd (by rw [hG0]) h
  have hbA : ¬ (hw_AW G [1, 2, 3, 4, 5, 6, 7, 8, 9, 10, 11, 12, 13, 14, 15, 16, 17, 18, 19, 20, 21, 22, 23, 24, 25, 26, 27, 28, 29, 30, 31, 32, 40, 42, 44, 45, 46, 48, 49, 50, 51, 53, 55, 58, 59, 67, 68, 69, 70, 71, 72, 73, 74, 75, 76, 77, 78, 79, 80, 81, 82, 83, 84, 101, 102, 103, 104, 105, 106, 107, 108, 109, 127, 128, 129, 132] s.heap.size) b := hw_AWn (k := 0) (by rw [hG0]) (by decide) hbl
  have hLi : (Int32.ofNat L).toInt = (L : Int) := nI_toInt (by omega)
  refine hw_I_elim hI ?_
  intro G1 rx rm pnx pcx ksx scx udm kym lom wkm dkm lnm smm fim bem rkm rlm rwm clm dgm fq la sz9 fla fsz th tt fth hH hGe1 wx wm gx gm Rx vx gsc vq hRK Rm vm gm0 gm1 gm2 gm3 gm4 gm5 gm6 gm7 gm8 gm9 gm10 gm11 vla vsz qsz hrel vth hrt
  have hHs := hH0
  have hz24 := hw_hz24 hrel qsz
  have qq := hRK.q
  refine lv_aload_n hx hb dL_law_1121 rfl (lv_at hl 2 rfl) ?_
  refine lv_aload_n hx hb dL_law_1122 rfl (lv_at hl 3 rfl) ?_
  refine lv_iload_n hx hb dL_law_1123 rfl (lv_at hl 0 rfl) ?_
  refine lv_iconst (v := 1) hx hb dL_law_1124 (by decide) ?_
  refine lv_iadd hx hb dL_law_1125 ?_
  have t1 : (y3 + 1).toInt = y3.toInt + 1 := hw_add rfl rfl (by omega) (by omega)
  refine va_sld hx hb hX hbl hbA hS (hw_in (by omega) (by omega)) dL_law_1126 ?_
  refine lv_aload_n hx hb dL_law_1127 rfl (lv_at hl 3 rfl) ?_
  refine lv_iload_n hx hb dL_law_1128 rfl (lv_at hl 0 rfl) ?_
  refine lv_iconst (v := 2) hx hb dL_law_1129 (by decide) ?_
  refine lv_iadd hx hb dL_law_1130 ?_
  have t2 : (y3 + 2).toInt = y3.toInt + 2 := hw_add rfl rfl (by omega) (by omega)
  refine va_sld hx hb hX hbl hbA hS (hw_in (by omega) (by omega)) dL_law_1131 ?_
  refine lv_aload_n hx hb dL_law_1132 rfl (lv_at hl 3 rfl) ?_
  refine lv_iload_n hx hb dL_law_1133 rfl (lv_at hl 0 rfl) ?_
  refine lv_iconst (v := 3) hx hb dL_law_1134 (by decide) ?_
  refine lv_iadd hx hb dL_law_1135 ?_
  have t3 : (y3 + 3).toInt = y3.toInt + 3 := hw_add rfl rfl (by omega) (by omega)
  refine va_sld hx hb hX hbl hbA hS (hw_in (by omega) (by omega)) dL_law_1136 ?_
  obtain ⟨r4, kc_5, lc_6, wc_7, dk_8, v9, R10, g11, g12, g13⟩ := hH.oC (hw_RX_0 Rx)
  refine hw_cM0 (va_runV (As := [.int (xs (y3 + 1).toNatClampNeg), .int (xs (y3 + 2).toNatClampNeg), .int (xs (y3 + 3).toNatClampNeg)]) (rest := []) ⟨hx, hb, hml, hown, hts⟩ (k3_X11_film l D G1 x (xs (y3 + 1).toNatClampNeg) (xs (y3 + 2).toNatClampNeg) (xs (y3 + 3).toNatClampNeg) _ th la sz9 tt rx pnx pcx ksx scx fq r4 kc_5 lc_6 wc_7 dk_8 gx Rx ⟨by first | decide | omega, by first | decide | omega⟩ qq R10 ⟨by first | decide | omega, by first | decide | omega⟩ ⟨by first | decide | omega, by first | decide | omega⟩ ⟨by first | decide | omega, by first | decide | omega⟩) (cwV 3 hts gL_law_X11_film rfl rfl rfl (by decide +kernel) ⟨Nat.le_of_ble_eq_true rfl, Nat.le_of_ble_eq_true rfl⟩) (hw_pV (hw_rc (q := (RX11, TX11, 14)) hK vx rfl) hH hK hST hS (by decide) (hw_hG hGe1) ⟨vx, vq, v9, hRK⟩) rfl rfl hl.1 rfl (lv_room (Nat.le_of_ble_eq_true rfl)) dL_law_1137 ⟨by show _ ≤ 600000; omega, by show _ ≤ 7302250; omega⟩) hS (hw_AWsub (by decide) hGe1 hS.1) (fun v H locs hp hz hk hS => ?_)
  obtain ⟨x14, f15, rfl, hH, hRK, v16, v17, v18, q19⟩ := hp
  have vm := va_at.kept vm (hk _ (hw_lt vm) (hw_AWn gm (by decide) (hw_lt vm)))
  have vla := va_at.kept vla (hk _ (hw_lt vla) (hw_AWn (hw_RM_41 Rm) (by decide) (hw_lt vla)))
  have vsz := va_at.kept vsz (hk _ (hw_lt vsz) (hw_AWn (hw_RM_42 Rm) (by decide) (hw_lt vsz)))
  have vth := va_at.kept vth (hk _ (hw_lt vth) (hw_AWn (hw_RM_43 Rm) (by decide) (hw_lt vth)))
  refine lv_pop hx hb dL_law_1140 rfl ?_
  refine lv_aload_n hx hb dL_law_1141 rfl (lv_at hl 1 rfl) ?_
  refine lv_aload_n hx hb dL_law_1142 rfl (lv_at hl 3 rfl) ?_
  refine lv_iload_n hx hb dL_law_1143 rfl (lv_at hl 0 rfl) ?_
  refine lv_iconst (v := 1) hx hb dL_law_1144 (by decide) ?_
  refine lv_iadd hx hb dL_law_1145 ?_
  refine va_sld hx hb hX hbl hbA hS (hw_in (by omega) (by omega)) dL_law_1146 ?_
  refine lv_aload_n hx hb dL_law_1147 rfl (lv_at hl 3 rfl) ?_
  refine lv_iload_n hx hb dL_law_1148 rfl (lv_at hl 0 rfl) ?_
  refine lv_iconst (v := 2) hx hb dL_law_1149 (by decide) ?_
  refine lv_iadd hx hb dL_law_1150 ?_
  refine va_sld hx hb hX hbl hbA hS (hw_in (by omega) (by omega)) dL_law_1151 ?_
  refine lv_aload_n hx hb dL_law_1152 rfl (lv_at hl 3 rfl) ?_
  refine lv_iload_n hx hb dL_law_1153 rfl (lv_at hl 0 rfl) ?_
  refine lv_iconst (v := 3) hx hb dL_law_1154 (by decide) ?_
  refine lv_iadd hx hb dL_law_1155 ?_
  refine va_sld hx hb hX hbl hbA hS (hw_in (by omega) (by omega)) dL_law_1156 ?_
  refine hw_cM0 (va_runV (As := [.int (xs (y3 + 1).toNatClampNeg), .int (xs (y3 + 2).toNatClampNeg), .int (xs (y3 + 3).toNatClampNeg)]) (rest := []) ⟨hx, hb, hml, hown, hts⟩ (k3_X12_film l D G1 mo (xs (y3 + 1).toNatClampNeg) (xs (y3 + 2).toNatClampNeg) (xs (y3 + 3).toNatClampNeg) _ rm udm kym lom wkm dkm lnm smm fim bem rkm rlm rwm clm dgm fla fsz fth gm Rm ⟨by first | decide | omega, by first | decide | omega⟩ ⟨by first | decide | omega, by first | decide | omega⟩ ⟨by first | decide | omega, by first | decide | omega⟩ ⟨by first | decide | omega, by first | decide | omega⟩ ⟨by first | decide | omega, by first | decide | omega⟩ ⟨by first | decide | omega, by first | decide | omega⟩ ⟨by first | decide | omega, by first | decide | omega⟩ ⟨by first | decide | omega, by first | decide | omega⟩ ⟨by first | decide | omega, by first | decide | omega⟩ ⟨by first | decide | omega, by first | decide | omega⟩ ⟨by first | decide | omega, by first | decide | omega⟩ ⟨by first | decide | omega, by first | decide | omega⟩ qsz) (cwV 3 hts gL_law_X12_film rfl rfl rfl (by decide +kernel) ⟨Nat.le_of_ble_eq_true rfl, Nat.le_of_ble_eq_true rfl⟩) (hw_pV (hw_rc (q := (RX12, TX12, 45)) hK vm rfl) hH hK hST hS (by decide) (hw_hG hGe1) ⟨vm, vla, vsz, vth⟩) rfl rfl hl.1 rfl (lv_room (Nat.le_of_ble_eq_true rfl)) dL_law_1157 ⟨by show _ ≤ 600000; omega, by show _ ≤ 7302250; omega⟩) hS (hw_AWsub (by decide) hGe1 hS.1) (fun v H locs hp hz hk hS => ?_)
  obtain ⟨x20, f21, rfl, hH, v22, v23, v24, v25, q26⟩ := hp
  have hRK := hw_RK3.kept hRK (fun q9 h9 l9 => hk q9 l9 (by rcases h9 with h9 | h9 <;> exact hw_AWn h9 (by decide) l9))
  have v16 := va_at.kept v16 (hk _ (hw_lt v16) (hw_AWn gx (by decide) (hw_lt v16)))
  have v17 := va_at.kept v17 (hk _ (hw_lt v17) (hw_AWn (hw_RX_13 Rx) (by decide) (hw_lt v17)))
  have v18 := va_at.kept v18 (hk _ (hw_lt v18) (hw_AWn (hw_RX_0 Rx) (by decide) (hw_lt v18)))
  refine lv_pop hx hb dL_law_1160 rfl ?_
  refine lv_goto (tgt := 1187) hx hb dL_law_1161 (by decide) ?_
  refine W.widen (k := k + 20) (n := n + 80) (by first | omega | (show _ ≤ _; omega)) (by first | omega | (show _ ≤ _; omega)) ?_
  exact hk9 _ _ _ ⟨G1, rx, rm, pnx, pcx, ksx, scx, udm, kym, lom, wkm, dkm, lnm, smm, fim, bem, rkm, rlm, rwm, clm, dgm, fq, la, sz9, fla, fsz, th, f15, f21, hH, hGe1, wx, wm, gx, gm, Rx, v16, ⟨by first | decide | omega, by first | decide | omega⟩, v17, hRK, Rm, v22, ⟨by first | decide | omega, by first | decide | omega⟩, ⟨by first | decide | omega, by first | decide | omega⟩, ⟨by first | decide | omega, by first | decide | omega⟩, ⟨by first | decide | omega, by first | decide | omega⟩, ⟨by first | decide | omega, by first | decide | omega⟩, ⟨by first | decide | omega, by first | decide | omega⟩, ⟨by first | decide | omega, by first | decide | omega⟩, ⟨by first | decide | omega, by first | decide | omega⟩, ⟨by first | decide | omega, by first | decide | omega⟩, ⟨by first | decide | omega, by first | decide | omega⟩, ⟨by first | decide | omega, by first | decide | omega⟩, ⟨by first | decide | omega, by first | decide | omega⟩, v23, v24, qsz, hrel, v25, (hw_relT_film hrt (fun j hj h9 => ((hrel j hj).2 h9).1) q19 q26)⟩ hS hl

set_option maxHeartbeats 40000000 in
set_option maxRecDepth 100000 in
theorem hw_case1164 {p : Program} {e : Env} {s : State} {m : MethodId} {below : List Frame} {meth : Method} {c : Code} (l : Launch) {b L : Nat} {xs : Nat → Int32} {D : hw_D} {G : Nat → Nat} {H : Heap} {locs : List Loc} {x mo k n : Nat} {y3 : Int32} {ls : Array Slot} (hL : L ≤ 384) (hy0 : 0 ≤ y3.toInt ∧ y3.toInt ≤ 384) (hy : y3.toInt + 6 ≤ L) (hkc : k + 20 ≤ 600000) (hnc : n + 80 ≤ 7302250) (hx : p.tables.exec = Jvm.exec) (hb : c.code = code) (hr : meth.sig.returnType = ret) (hml : c.maxLocals = 4) (hown : s.vm.findClass R_law = some m.cls) (hts0 : ∀ w ∈ lw_tbl, w.before #[Value.ref b] s = true) (hts : ∀ w ∈ wsL_law, w.before #[Value.ref b] s = true) (hX : va_X b L xs s s.heap) (hbl : b < s.heap.size) (hlocks : meth.locks = false) (hG0 : G = fun _ => 0) (hK : va_K D.1 vwCl (hw_ty D.2.1) s) (hST : hw_ST D.2.2 G s.heap.size s) (hI : hw_I D G s H x mo) (hS : va_S (hw_AW G [1, 2, 3, 4, 5, 6, 7, 8, 9, 10, 11, 12, 13, 14, 15, 16, 17, 18, 19, 20, 21, 22, 23, 24, 25, 26, 27, 28, 29, 30, 31, 32, 40, 42, 44, 45, 46, 48, 49, 50, 51, 53, 55, 58, 59, 67, 68, 69, 70, 71, 72, 73, 74, 75, 76, 77, 78, 79, 80, 81, 82, 83, 84, 101, 102, 103, 104, 105, 106, 107, 108, 109, 127, 128, 129, 132] s.heap.size) s.heap H locs) (hl : lv_has ls 4 [(3, .int y3), (2, .ref mo), (1, .ref x), (0, .ref b)]) (hk9 : ∀ (H1 : Heap) (locs1 : List Loc) (ls1 : Array Slot), hw_I D G s H1 x mo → va_S (hw_AW G [1, 2, 3, 4, 5, 6, 7, 8, 9, 10, 11, 12, 13, 14, 15, 16, 17, 18, 19, 20, 21, 22, 23, 24, 25, 26, 27, 28, 29, 30, 31, 32, 40, 42, 44, 45, 46, 48, 49, 50, 51, 53, 55, 58, 59, 67, 68, 69, 70, 71, 72, 73, 74, 75, 76, 77, 78, 79, 80, 81, 82, 83, 84, 101, 102, 103, 104, 105, 106, 107, 108, 109, 127, 128, 129, 132] s.heap.size) s.heap H1 locs1 → lv_has ls1 4 [(3, .int y3), (2, .ref mo), (1, .ref x), (0, .ref b)] → W p l e room_1 s m #[Value.ref b] below meth c H1 locs1 (k + 20) (n + 80) (lw_Z below #[Value.ref b] s) (F0 m 1187 ls1 [])) : W p l e room_1 s m #[Value.ref b] below meth c H locs k n (lw_Z below #[Value.ref b] s) (F0 m 1164 ls []) := by
  have hH0 : hw_HT D G s.heap := fun a h => absurd (by rw [hG0]) h
  have hbA : ¬ (hw_AW G [1, 2, 3, 4, 5, 6, 7, 8, 9, 10, 11, 12, 13, 14, 15, 16, 17, 18, 19, 20, 21, 22, 23, 24, 25, 26, 27, 28, 29, 30, 31, 32, 40, 42, 44, 45, 46, 48, 49, 50, 51, 53, 55, 58, 59, 67, 68, 69, 70, 71, 72, 73, 74, 75, 76, 77, 78, 79, 80, 81, 82, 83, 84, 101, 102, 103, 104, 105, 106, 107, 108, 109, 127, 128, 129, 132] s.heap.size) b := hw_AWn (k := 0) (by rw [hG0]) (by decide) hbl
  have hLi : (Int32.ofNat L).toInt = (L : Int) := nI_toInt (by omega)
  refine hw_I_elim hI ?_
  intro G1 rx rm pnx pcx ksx scx udm kym lom wkm dkm lnm smm fim bem rkm rlm rwm clm dgm fq la sz9 fla fsz th tt fth hH hGe1 wx wm gx gm Rx vx gsc vq hRK Rm vm gm0 gm1 gm2 gm3 gm4 gm5 gm6 gm7 gm8 gm9 gm10 gm11 vla vsz qsz hrel vth hrt
  have hHs := hH0
  have hz24 := hw_hz24 hrel qsz
  have qq := hRK.q
  refine lv_aload_n hx hb dL_law_1164 rfl (lv_at hl 2 rfl) ?_
  refine lv_aload_n hx hb dL_law_1165 rfl (lv_at hl 3 rfl) ?_
  refine lv_iload_n hx hb dL_law_1166 rfl (lv_at hl 0 rfl) ?_
  refine lv_iconst (v := 1) hx hb dL_law_1167 (by decide) ?_
  refine lv_iadd hx hb dL_law_1168 ?_
  have t1 : (y3 + 1).toInt = y3.toInt + 1 := hw_add rfl rfl (by omega) (by omega)
  refine va_sld hx hb hX hbl hbA hS (hw_in (by omega) (by omega)) dL_law_1169 ?_
  obtain ⟨r2, kc_3, lc_4, wc_5, dk_6, v7, R8, g9, g10, g11⟩ := hH.oC (hw_RX_0 Rx)
  obtain ⟨r12, ln_13, cl_14, st_15, en_16, kf_17, lf_18, wf_19, v20, R21, g22, g23, g24, g25⟩ := hH.oT (hw_RX_1 Rx)
  obtain ⟨r26, td_27, fd_28, os_29, v30, R31⟩ := hH.oS (hw_RX_2 Rx)
  refine hw_cR (va_runV (As := [.int (xs (y3 + 1).toNatClampNeg)]) (rest := []) ⟨hx, hb, hml, hown, hts⟩ (k_X11_count l D G1 x (xs (y3 + 1).toNatClampNeg) _ la sz9 rx pnx pcx ksx scx r2 kc_3 lc_4 wc_5 dk_6 r12 ln_13 cl_14 st_15 en_16 kf_17 lf_18 wf_19 r26 td_27 fd_28 os_29 fq gx Rx ⟨by first | decide | omega, by first | decide | omega⟩ R8 ⟨by first | decide | omega, by first | decide | omega⟩ ⟨by first | decide | omega, by first | decide | omega⟩ ⟨by first | decide | omega, by first | decide | omega⟩ R21 ⟨by first | decide | omega, by first | decide | omega⟩ ⟨by first | decide | omega, by first | decide | omega⟩ ⟨by first | decide | omega, by first | decide | omega⟩ ⟨by first | decide | omega, by first | decide | omega⟩ R31 qq) (cwV 1 hts gL_law_X11_count rfl rfl rfl (by decide +kernel) ⟨Nat.le_of_ble_eq_true rfl, Nat.le_of_ble_eq_true rfl⟩) (hw_pV (hw_rc (q := (RX11, TX11, 14)) hK vx rfl) hH hK hST hS (by decide) (hw_hG hGe1) ⟨vx, v7, v20, v30, vq, hRK.racks⟩) rfl rfl hl.1 rfl (lv_room (Nat.le_of_ble_eq_true rfl)) dL_law_1170 ⟨by show _ ≤ 600000; omega, by show _ ≤ 7302250; omega⟩) (fun v hp => ?_)
  obtain ⟨x32, rfl, q33, q34, q35, q36, q37, q38, q39, q40, q41, q42, q43, q44, q45, q46⟩ := hp
  refine lv_pop hx hb dL_law_1173 rfl ?_
  refine lv_aload_n hx hb dL_law_1174 rfl (lv_at hl 1 rfl) ?_
  refine lv_aload_n hx hb dL_law_1175 rfl (lv_at hl 3 rfl) ?_
  refine lv_iload_n hx hb dL_law_1176 rfl (lv_at hl 0 rfl) ?_
  refine lv_iconst (v := 1) hx hb dL_law_1177 (by decide) ?_
  refine lv_iadd hx hb dL_law_1178 ?_
  refine va_sld hx hb hX hbl hbA hS (hw_in (by omega) (by omega)) dL_law_1179 ?_
  obtain ⟨f47, v48⟩ := hH.a40 (hw_RM_0 Rm)
  refine hw_cR (va_runV (As := [.int (xs (y3 + 1).toNatClampNeg)]) (rest := []) ⟨hx, hb, hml, hown, hts⟩ (k_X12_count l D G1 mo (xs (y3 + 1).toNatClampNeg) _ rm udm kym lom wkm dkm lnm smm fim bem rkm rlm rwm clm dgm fsz f47 gm Rm ⟨by first | decide | omega, by first | decide | omega⟩ ⟨by first | decide | omega, by first | decide | omega⟩ ⟨by first | decide | omega, by first | decide | omega⟩ ⟨by first | decide | omega, by first | decide | omega⟩ ⟨by first | decide | omega, by first | decide | omega⟩ ⟨by first | decide | omega, by first | decide | omega⟩ ⟨by first | decide | omega, by first | decide | omega⟩ ⟨by first | decide | omega, by first | decide | omega⟩ ⟨by first | decide | omega, by first | decide | omega⟩ ⟨by first | decide | omega, by first | decide | omega⟩ ⟨by first | decide | omega, by first | decide | omega⟩ ⟨by first | decide | omega, by first | decide | omega⟩ qsz) (cwV 1 hts gL_law_X12_count rfl rfl rfl (by decide +kernel) ⟨Nat.le_of_ble_eq_true rfl, Nat.le_of_ble_eq_true rfl⟩) (hw_pV (hw_rc (q := (RX12, TX12, 45)) hK vm rfl) hH hK hST hS (by decide) (hw_hG hGe1) ⟨vm, vsz, v48⟩) rfl rfl hl.1 rfl (lv_room (Nat.le_of_ble_eq_true rfl)) dL_law_1180 ⟨by show _ ≤ 600000; omega, by show _ ≤ 7302250; omega⟩) (fun v hp => ?_)
  obtain ⟨x50, rfl, q51, q52, q53, q54, q55, q56, q57, q58, q59, q60, q61, q62, q63, q64⟩ := hp
  refine lv_pop hx hb dL_law_1183 rfl ?_
  refine lv_goto (tgt := 1187) hx hb dL_law_1184 (by decide) ?_
  refine W.widen (k := k + 20) (n := n + 80) (by first | omega | (show _ ≤ _; omega)) (by first | omega | (show _ ≤ _; omega)) ?_
  exact hk9 _ _ _ ⟨G1, rx, rm, pnx, pcx, ksx, scx, udm, kym, lom, wkm, dkm, lnm, smm, fim, bem, rkm, rlm, rwm, clm, dgm, fq, la, sz9, fla, fsz, th, tt, fth, hH, hGe1, wx, wm, gx, gm, Rx, vx, ⟨by first | decide | omega, by first | decide | omega⟩, vq, hRK, Rm, vm, ⟨by first | decide | omega, by first | decide | omega⟩, ⟨by first | decide | omega, by first | decide | omega⟩, ⟨by first | decide | omega, by first | decide | omega⟩, ⟨by first | decide | omega, by first | decide | omega⟩, ⟨by first | decide | omega, by first | decide | omega⟩, ⟨by first | decide | omega, by first | decide | omega⟩, ⟨by first | decide | omega, by first | decide | omega⟩, ⟨by first | decide | omega, by first | decide | omega⟩, ⟨by first | decide | omega, by first | decide | omega⟩, ⟨by first | decide | omega, by first | decide | omega⟩, ⟨by first | decide | omega, by first | decide | omega⟩, ⟨by first | decide | omega, by first | decide | omega⟩, vla, vsz, qsz, hrel, vth, hrt⟩ hS hl

