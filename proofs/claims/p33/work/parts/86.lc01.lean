set_option maxHeartbeats 40000000 in
set_option maxRecDepth 100000 in
theorem hw_case523 {p : Program} {e : Env} {s : State} {m : MethodId} {below : List Frame} {meth : Method} {c : Code} (l : Launch) {b L : Nat} {xs : Nat → Int32} {D : hw_D} {G : Nat → Nat} {H : Heap} {locs : List Loc} {x mo k n : Nat} {y3 : Int32} {ls : Array Slot} (hL : L ≤ 384) (hy0 : 0 ≤ y3.toInt ∧ y3.toInt ≤ 384) (hy : y3.toInt + 6 ≤ L) (hkc : k + 20 ≤ 600000) (hnc : n + 80 ≤ 7302250) (hx : p.tables.exec = Jvm.exec) (hb : c.code = code) (hr : meth.sig.returnType = ret) (hml : c.maxLocals = 4) (hown : s.vm.findClass R_law = some m.cls) (hts0 : ∀ w ∈ lw_tbl, w.before #[Value.ref b] s = true) (hts : ∀ w ∈ wsL_law, w.before #[Value.ref b] s = true) (hX : va_X b L xs s s.heap) (hbl : b < s.heap.size) (hlocks : meth.locks = false) (hG0 : G = fun _ => 0) (hK : va_K D.1 vwCl (hw_ty D.2.1) s) (hST : hw_ST D.2.2 G s.heap.size s) (hI : hw_I D G s H x mo) (hS : va_S (hw_AW G [1, 2, 3, 4, 5, 6, 7, 8, 9, 10, 11, 12, 13, 14, 15, 16, 17, 18, 19, 20, 21, 22, 23, 24, 25, 26, 27, 28, 29, 30, 31, 32, 40, 42, 44, 45, 46, 48, 49, 50, 51, 53, 55, 58, 59, 67, 68, 69, 70, 71, 72, 73, 74, 75, 76, 77, 78, 79, 80, 81, 82, 83, 84, 101, 102, 103, 104, 105, 106, 107, 108, 109, 127, 128, 129, 132] s.heap.size) s.heap H locs) (hl : lv_has ls 4 [(3, .int y3), (2, .ref mo), (1, .ref x), (0, .ref b)]) (hk9 : ∀ (H1 : Heap) (locs1 : List Loc) (ls1 : Array Slot), hw_I D G s H1 x mo → va_S (hw_AW G [1, 2, 3, 4, 5, 6, 7, 8, 9, 10, 11, 12, 13, 14, 15, 16, 17, 18, 19, 20, 21, 22, 23, 24, 25, 26, 27, 28, 29, 30, 31, 32, 40, 42, 44, 45, 46, 48, 49, 50, 51, 53, 55, 58, 59, 67, 68, 69, 70, 71, 72, 73, 74, 75, 76, 77, 78, 79, 80, 81, 82, 83, 84, 101, 102, 103, 104, 105, 106, 107, 108, 109, 127, 128, 129, 132] s.heap.size) s.heap H1 locs1 → lv_has ls1 4 [(3, .int y3), (2, .ref mo), (1, .ref x), (0, .ref b)] → W p l e room_1 s m #[Value.ref b] below meth c H1 locs1 (k + 20) (n + 80) (lw_Z below #[Value.ref b] s) (F0 m 1187 ls1 [])) : W p l e room_1 s m #[Value.ref b] below meth c H locs k n (lw_Z below #[Value.ref b] s) (F0 m 523 ls []) := by
  have hH0 : hw_HT D G s.heap := fun a h => absurd (by rw [hG0]) h
  have hbA : ¬ (hw_AW G [1, 2, 3, 4, 5, 6, 7, 8, 9, 10, 11, 12, 13, 14, 15, 16, 17, 18, 19, 20, 21, 22, 23, 24, 25, 26, 27, 28, 29, 30, 31, 32, 40, 42, 44, 45, 46, 48, 49, 50, 51, 53, 55, 58, 59, 67, 68, 69, 70, 71, 72, 73, 74, 75, 76, 77, 78, 79, 80, 81, 82, 83, 84, 101, 102, 103, 104, 105, 106, 107, 108, 109, 127, 128, 129, 132] s.heap.size) b := hw_AWn (k := 0) (by rw [hG0]) (by decide) hbl
  have hLi : (Int32.ofNat L).toInt = (L : Int) := nI_toInt (by omega)
  refine hw_I_elim hI ?_
  intro G1 rx rm pnx pcx ksx scx udm kym lom wkm dkm lnm smm fim bem rkm rlm rwm clm dgm fq la sz9 fla fsz th tt fth hH hGe1 wx wm gx gm Rx vx gsc vq hRK Rm vm gm0 gm1 gm2 gm3 gm4 gm5 gm6 gm7 gm8 gm9 gm10 gm11 vla vsz qsz hrel vth hrt
  have hHs := hH0
  have hz24 := hw_hz24 hrel qsz
  have qq := hRK.q
  refine lv_aload_n hx hb dL_law_523 rfl (lv_at hl 2 rfl) ?_
  refine hw_cM0 (va_runV (As := []) (rest := []) ⟨hx, hb, hml, hown, hts⟩ (k_X11_undo l D G1 x _ rx pnx pcx ksx scx gx Rx ⟨by first | decide | omega, by first | decide | omega⟩) (cwV 0 hts gL_law_X11_undo rfl rfl rfl (by decide +kernel) ⟨Nat.le_of_ble_eq_true rfl, Nat.le_of_ble_eq_true rfl⟩) (hw_pV (hw_rc (q := (RX11, TX11, 14)) hK vx rfl) hH hK hST hS (by decide) (hw_hG hGe1) vx) rfl rfl hl.1 rfl (lv_room (Nat.le_of_ble_eq_true rfl)) dL_law_524 ⟨by show _ ≤ 600000; omega, by show _ ≤ 7302250; omega⟩) hS (hw_AWsub (by decide) hGe1 hS.1) (fun v H locs hp hz hk hS => ?_)
  obtain ⟨x1, x2, x3, rfl, hH, v4, q5⟩ := hp
  have hRK := hw_RK3.kept hRK (fun q9 h9 l9 => hk q9 l9 (by rcases h9 with h9 | h9 <;> exact hw_AWn h9 (by decide) l9))
  have vq := va_at.kept vq (hk _ (hw_lt vq) (hw_AWn (hw_RX_13 Rx) (by decide) (hw_lt vq)))
  have vm := va_at.kept vm (hk _ (hw_lt vm) (hw_AWn gm (by decide) (hw_lt vm)))
  have vla := va_at.kept vla (hk _ (hw_lt vla) (hw_AWn (hw_RM_41 Rm) (by decide) (hw_lt vla)))
  have vsz := va_at.kept vsz (hk _ (hw_lt vsz) (hw_AWn (hw_RM_42 Rm) (by decide) (hw_lt vsz)))
  have vth := va_at.kept vth (hk _ (hw_lt vth) (hw_AWn (hw_RM_43 Rm) (by decide) (hw_lt vth)))
  refine lv_pop hx hb dL_law_527 rfl ?_
  refine lv_aload_n hx hb dL_law_528 rfl (lv_at hl 1 rfl) ?_
  refine hw_cM0 (va_runV (As := []) (rest := []) ⟨hx, hb, hml, hown, hts⟩ (k_X12_undo l D G1 mo _ rm udm kym lom wkm dkm lnm smm fim bem rkm rlm rwm clm dgm gm Rm ⟨by first | decide | omega, by first | decide | omega⟩ ⟨by first | decide | omega, by first | decide | omega⟩ ⟨by first | decide | omega, by first | decide | omega⟩ ⟨by first | decide | omega, by first | decide | omega⟩ ⟨by first | decide | omega, by first | decide | omega⟩ ⟨by first | decide | omega, by first | decide | omega⟩ ⟨by first | decide | omega, by first | decide | omega⟩ ⟨by first | decide | omega, by first | decide | omega⟩ ⟨by first | decide | omega, by first | decide | omega⟩ ⟨by first | decide | omega, by first | decide | omega⟩ ⟨by first | decide | omega, by first | decide | omega⟩ ⟨by first | decide | omega, by first | decide | omega⟩) (cwV 0 hts gL_law_X12_undo rfl rfl rfl (by decide +kernel) ⟨Nat.le_of_ble_eq_true rfl, Nat.le_of_ble_eq_true rfl⟩) (hw_pV (hw_rc (q := (RX12, TX12, 45)) hK vm rfl) hH hK hST hS (by decide) (hw_hG hGe1) vm) rfl rfl hl.1 rfl (lv_room (Nat.le_of_ble_eq_true rfl)) dL_law_529 ⟨by show _ ≤ 600000; omega, by show _ ≤ 7302250; omega⟩) hS (hw_AWsub (by decide) hGe1 hS.1) (fun v H locs hp hz hk hS => ?_)
  obtain ⟨x6, x7, rfl, hH, v8, g9, q10⟩ := hp
  have hRK := hw_RK3.kept hRK (fun q9 h9 l9 => hk q9 l9 (by rcases h9 with h9 | h9 <;> exact hw_AWn h9 (by decide) l9))
  have v4 := va_at.kept v4 (hk _ (hw_lt v4) (hw_AWn gx (by decide) (hw_lt v4)))
  have vq := va_at.kept vq (hk _ (hw_lt vq) (hw_AWn (hw_RX_13 Rx) (by decide) (hw_lt vq)))
  have vla := va_at.kept vla (hk _ (hw_lt vla) (hw_AWn (hw_RM_41 Rm) (by decide) (hw_lt vla)))
  have vsz := va_at.kept vsz (hk _ (hw_lt vsz) (hw_AWn (hw_RM_42 Rm) (by decide) (hw_lt vsz)))
  have vth := va_at.kept vth (hk _ (hw_lt vth) (hw_AWn (hw_RM_43 Rm) (by decide) (hw_lt vth)))
  refine lv_pop hx hb dL_law_532 rfl ?_
  refine lv_goto (tgt := 1187) hx hb dL_law_533 (by decide) ?_
  refine W.widen (k := k + 20) (n := n + 80) (by first | omega | (show _ ≤ _; omega)) (by first | omega | (show _ ≤ _; omega)) ?_
  exact hk9 _ _ _ ⟨G1, rx, rm, x2, x3, ksx, scx, x7, kym, lom, wkm, dkm, lnm, smm, fim, bem, rkm, rlm, rwm, clm, dgm, fq, la, sz9, fla, fsz, th, tt, fth, hH, hGe1, wx, wm, gx, gm, Rx, v4, ⟨by first | decide | omega, by first | decide | omega⟩, vq, hRK, Rm, v8, ⟨by first | decide | omega, by first | decide | omega⟩, ⟨by first | decide | omega, by first | decide | omega⟩, ⟨by first | decide | omega, by first | decide | omega⟩, ⟨by first | decide | omega, by first | decide | omega⟩, ⟨by first | decide | omega, by first | decide | omega⟩, ⟨by first | decide | omega, by first | decide | omega⟩, ⟨by first | decide | omega, by first | decide | omega⟩, ⟨by first | decide | omega, by first | decide | omega⟩, ⟨by first | decide | omega, by first | decide | omega⟩, ⟨by first | decide | omega, by first | decide | omega⟩, ⟨by first | decide | omega, by first | decide | omega⟩, ⟨by first | decide | omega, by first | decide | omega⟩, vla, vsz, qsz, hrel, vth, hrt⟩ hS hl

set_option maxHeartbeats 40000000 in
set_option maxRecDepth 100000 in
theorem hw_case536 {p : Program} {e : Env} {s : State} {m : MethodId} {below : List Frame} {meth : Method} {c : Code} (l : Launch) {b L : Nat} {xs : Nat → Int32} {D : hw_D} {G : Nat → Nat} {H : Heap} {locs : List Loc} {x mo k n : Nat} {y3 : Int32} {ls : Array Slot} (hL : L ≤ 384) (hy0 : 0 ≤ y3.toInt ∧ y3.toInt ≤ 384) (hy : y3.toInt + 6 ≤ L) (hkc : k + 20 ≤ 600000) (hnc : n + 80 ≤ 7302250) (hx : p.tables.exec = Jvm.exec) (hb : c.code = code) (hr : meth.sig.returnType = ret) (hml : c.maxLocals = 4) (hown : s.vm.findClass R_law = some m.cls) (hts0 : ∀ w ∈ lw_tbl, w.before #[Value.ref b] s = true) (hts : ∀ w ∈ wsL_law, w.before #[Value.ref b] s = true) (hX : va_X b L xs s s.heap) (hbl : b < s.heap.size) (hlocks : meth.locks = false) (hG0 : G = fun _ => 0) (hK : va_K D.1 vwCl (hw_ty D.2.1) s) (hST : hw_ST D.2.2 G s.heap.size s) (hI : hw_I D G s H x mo) (hS : va_S (hw_AW G [1, 2, 3, 4, 5, 6, 7, 8, 9, 10, 11, 12, 13, 14, 15, 16, 17, 18, 19, 20, 21, 22, 23, 24, 25, 26, 27, 28, 29, 30, 31, 32, 40, 42, 44, 45, 46, 48, 49, 50, 51, 53, 55, 58, 59, 67, 68, 69, 70, 71, 72, 73, 74, 75, 76, 77, 78, 79, 80, 81, 82, 83, 84, 101, 102, 103, 104, 105, 106, 107, 108, 109, 127, 128, 129, 132] s.heap.size) s.heap H locs) (hl : lv_has ls 4 [(3, .int y3), (2, .ref mo), (1, .ref x), (0, .ref b)]) (hk9 : ∀ (H1 : Heap) (locs1 : List Loc) (ls1 : Array Slot), hw_I D G s H1 x mo → va_S (hw_AW G [1, 2, 3, 4, 5, 6, 7, 8, 9, 10, 11, 12, 13, 14, 15, 16, 17, 18, 19, 20, 21, 22, 23, 24, 25, 26, 27, 28, 29, 30, 31, 32, 40, 42, 44, 45, 46, 48, 49, 50, 51, 53, 55, 58, 59, 67, 68, 69, 70, 71, 72, 73, 74, 75, 76, 77, 78, 79, 80, 81, 82, 83, 84, 101, 102, 103, 104, 105, 106, 107, 108, 109, 127, 128, 129, 132] s.heap.size) s.heap H1 locs1 → lv_has ls1 4 [(3, .int y3), (2, .ref mo), (1, .ref x), (0, .ref b)] → W p l e room_1 s m #[Value.ref b] below meth c H1 locs1 (k + 20) (n + 80) (lw_Z below #[Value.ref b] s) (F0 m 1187 ls1 [])) : W p l e room_1 s m #[Value.ref b] below meth c H locs k n (lw_Z below #[Value.ref b] s) (F0 m 536 ls []) := by
  have hH0 : hw_HT D G s.heap := fun a h => absurd (by rw [hG0]) h
  have hbA : ¬ (hw_AW G [1, 2, 3, 4, 5, 6, 7, 8, 9, 10, 11, 12, 13, 14, 15, 16, 17, 18, 19, 20, 21, 22, 23, 24, 25, 26, 27, 28, 29, 30, 31, 32, 40, 42, 44, 45, 46, 48, 49, 50, 51, 53, 55, 58, 59, 67, 68, 69, 70, 71, 72, 73, 74, 75, 76, 77, 78, 79, 80, 81, 82, 83, 84, 101, 102, 103, 104, 105, 106, 107, 108, 109, 127, 128, 129, 132] s.heap.size) b := hw_AWn (k := 0) (by rw [hG0]) (by decide) hbl
  have hLi : (Int32.ofNat L).toInt = (L : Int) := nI_toInt (by omega)
  refine hw_I_elim hI ?_
  intro G1 rx rm pnx pcx ksx scx udm kym lom wkm dkm lnm smm fim bem rkm rlm rwm clm dgm fq la sz9 fla fsz th tt fth hH hGe1 wx wm gx gm Rx vx gsc vq hRK Rm vm gm0 gm1 gm2 gm3 gm4 gm5 gm6 gm7 gm8 gm9 gm10 gm11 vla vsz qsz hrel vth hrt
  have hHs := hH0
  have hz24 := hw_hz24 hrel qsz
  have qq := hRK.q
  refine lv_aload_n hx hb dL_law_536 rfl (lv_at hl 2 rfl) ?_
  refine lv_aload_n hx hb dL_law_537 rfl (lv_at hl 3 rfl) ?_
  refine lv_iload_n hx hb dL_law_538 rfl (lv_at hl 0 rfl) ?_
  refine lv_iconst (v := 1) hx hb dL_law_539 (by decide) ?_
  refine lv_iadd hx hb dL_law_540 ?_
  have t1 : (y3 + 1).toInt = y3.toInt + 1 := hw_add rfl rfl (by omega) (by omega)
  refine va_sld hx hb hX hbl hbA hS (hw_in (by omega) (by omega)) dL_law_541 ?_
  obtain ⟨r2, td_3, fd_4, os_5, v6, R7⟩ := hH.oS (hw_RX_2 Rx)
  refine hw_cM0 (va_runV (As := [.int (xs (y3 + 1).toNatClampNeg)]) (rest := []) ⟨hx, hb, hml, hown, hts⟩ (k_X11_keep l D G1 x (xs (y3 + 1).toNatClampNeg) _ rx pnx pcx ksx scx r2 td_3 fd_4 os_5 gx Rx ⟨by first | decide | omega, by first | decide | omega⟩ R7) (cwV 1 hts gL_law_X11_keep rfl rfl rfl (by decide +kernel) ⟨Nat.le_of_ble_eq_true rfl, Nat.le_of_ble_eq_true rfl⟩) (hw_pV (hw_rc (q := (RX11, TX11, 14)) hK vx rfl) hH hK hST hS (by decide) (hw_hG hGe1) ⟨vx, v6⟩) rfl rfl hl.1 rfl (lv_room (Nat.le_of_ble_eq_true rfl)) dL_law_542 ⟨by show _ ≤ 600000; omega, by show _ ≤ 7302250; omega⟩) hS (hw_AWsub (by decide) hGe1 hS.1) (fun v H locs hp hz hk hS => ?_)
  rcases hp with ⟨x8, x9, x10, rfl, hH, v11, v12, q13⟩ | ⟨x14, x15, x16, x17, rfl, hH, v18, v19, q20, q21⟩
  · have hRK := hw_RK3.kept hRK (fun q9 h9 l9 => hk q9 l9 (by rcases h9 with h9 | h9 <;> exact hw_AWn h9 (by decide) l9))
    have vq := va_at.kept vq (hk _ (hw_lt vq) (hw_AWn (hw_RX_13 Rx) (by decide) (hw_lt vq)))
    have vm := va_at.kept vm (hk _ (hw_lt vm) (hw_AWn gm (by decide) (hw_lt vm)))
    have vla := va_at.kept vla (hk _ (hw_lt vla) (hw_AWn (hw_RM_41 Rm) (by decide) (hw_lt vla)))
    have vsz := va_at.kept vsz (hk _ (hw_lt vsz) (hw_AWn (hw_RM_42 Rm) (by decide) (hw_lt vsz)))
    have vth := va_at.kept vth (hk _ (hw_lt vth) (hw_AWn (hw_RM_43 Rm) (by decide) (hw_lt vth)))
    refine lv_pop hx hb dL_law_545 rfl ?_
    refine lv_aload_n hx hb dL_law_546 rfl (lv_at hl 1 rfl) ?_
    refine lv_aload_n hx hb dL_law_547 rfl (lv_at hl 3 rfl) ?_
    refine lv_iload_n hx hb dL_law_548 rfl (lv_at hl 0 rfl) ?_
    refine lv_iconst (v := 1) hx hb dL_law_549 (by decide) ?_
    refine lv_iadd hx hb dL_law_550 ?_
    refine va_sld hx hb hX hbl hbA hS (hw_in (by omega) (by omega)) dL_law_551 ?_
    obtain ⟨f22, v23⟩ := hH.a40 (hw_RM_0 Rm)
    refine hw_cM0 (va_runV (As := [.int (xs (y3 + 1).toNatClampNeg)]) (rest := []) ⟨hx, hb, hml, hown, hts⟩ (k_X12_keep l D G1 mo (xs (y3 + 1).toNatClampNeg) _ rm udm kym lom wkm dkm lnm smm fim bem rkm rlm rwm clm dgm f22 gm Rm ⟨by first | decide | omega, by first | decide | omega⟩ ⟨by first | decide | omega, by first | decide | omega⟩ ⟨by first | decide | omega, by first | decide | omega⟩ ⟨by first | decide | omega, by first | decide | omega⟩ ⟨by first | decide | omega, by first | decide | omega⟩ ⟨by first | decide | omega, by first | decide | omega⟩ ⟨by first | decide | omega, by first | decide | omega⟩ ⟨by first | decide | omega, by first | decide | omega⟩ ⟨by first | decide | omega, by first | decide | omega⟩ ⟨by first | decide | omega, by first | decide | omega⟩ ⟨by first | decide | omega, by first | decide | omega⟩ ⟨by first | decide | omega, by first | decide | omega⟩) (cwV 1 hts gL_law_X12_keep rfl rfl rfl (by decide +kernel) ⟨Nat.le_of_ble_eq_true rfl, Nat.le_of_ble_eq_true rfl⟩) (hw_pV (hw_rc (q := (RX12, TX12, 45)) hK vm rfl) hH hK hST hS (by decide) (hw_hG hGe1) ⟨vm, v23⟩) rfl rfl hl.1 rfl (lv_room (Nat.le_of_ble_eq_true rfl)) dL_law_552 ⟨by show _ ≤ 600000; omega, by show _ ≤ 7302250; omega⟩) hS (hw_AWsub (by decide) hGe1 hS.1) (fun v H locs hp hz hk hS => ?_)
    rcases hp with ⟨f25, rfl, hH, v26, v27, q28⟩ | ⟨x29, f30, rfl, hH, v31, v32, q33, q34⟩
    · have hRK := hw_RK3.kept hRK (fun q9 h9 l9 => hk q9 l9 (by rcases h9 with h9 | h9 <;> exact hw_AWn h9 (by decide) l9))
      have v11 := va_at.kept v11 (hk _ (hw_lt v11) (hw_AWn gx (by decide) (hw_lt v11)))
      have vq := va_at.kept vq (hk _ (hw_lt vq) (hw_AWn (hw_RX_13 Rx) (by decide) (hw_lt vq)))
      have vla := va_at.kept vla (hk _ (hw_lt vla) (hw_AWn (hw_RM_41 Rm) (by decide) (hw_lt vla)))
      have vsz := va_at.kept vsz (hk _ (hw_lt vsz) (hw_AWn (hw_RM_42 Rm) (by decide) (hw_lt vsz)))
      have vth := va_at.kept vth (hk _ (hw_lt vth) (hw_AWn (hw_RM_43 Rm) (by decide) (hw_lt vth)))
      have v12 := va_at.kept v12 (hk _ (hw_lt v12) (hw_AWn (hw_RX_2 Rx) (by decide) (hw_lt v12)))
      refine lv_pop hx hb dL_law_555 rfl ?_
      refine lv_goto (tgt := 1187) hx hb dL_law_556 (by decide) ?_
      refine W.widen (k := k + 20) (n := n + 80) (by first | omega | (show _ ≤ _; omega)) (by first | omega | (show _ ≤ _; omega)) ?_
      exact hk9 _ _ _ ⟨G1, rx, rm, pnx, pcx, x8, scx, udm, kym, lom, wkm, dkm, lnm, smm, fim, bem, rkm, rlm, rwm, clm, dgm, fq, la, sz9, fla, fsz, th, tt, fth, hH, hGe1, wx, wm, gx, gm, Rx, v11, ⟨by first | decide | omega, by first | decide | omega⟩, vq, hRK, Rm, v26, ⟨by first | decide | omega, by first | decide | omega⟩, ⟨by first | decide | omega, by first | decide | omega⟩, ⟨by first | decide | omega, by first | decide | omega⟩, ⟨by first | decide | omega, by first | decide | omega⟩, ⟨by first | decide | omega, by first | decide | omega⟩, ⟨by first | decide | omega, by first | decide | omega⟩, ⟨by first | decide | omega, by first | decide | omega⟩, ⟨by first | decide | omega, by first | decide | omega⟩, ⟨by first | decide | omega, by first | decide | omega⟩, ⟨by first | decide | omega, by first | decide | omega⟩, ⟨by first | decide | omega, by first | decide | omega⟩, ⟨by first | decide | omega, by first | decide | omega⟩, vla, vsz, qsz, hrel, vth, hrt⟩ hS hl
    · have q34i := hw_ieq q34
      have hRK := hw_RK3.kept hRK (fun q9 h9 l9 => hk q9 l9 (by rcases h9 with h9 | h9 <;> exact hw_AWn h9 (by decide) l9))
      have v11 := va_at.kept v11 (hk _ (hw_lt v11) (hw_AWn gx (by decide) (hw_lt v11)))
      have vq := va_at.kept vq (hk _ (hw_lt vq) (hw_AWn (hw_RX_13 Rx) (by decide) (hw_lt vq)))
      have vla := va_at.kept vla (hk _ (hw_lt vla) (hw_AWn (hw_RM_41 Rm) (by decide) (hw_lt vla)))
      have vsz := va_at.kept vsz (hk _ (hw_lt vsz) (hw_AWn (hw_RM_42 Rm) (by decide) (hw_lt vsz)))
      have vth := va_at.kept vth (hk _ (hw_lt vth) (hw_AWn (hw_RM_43 Rm) (by decide) (hw_lt vth)))
      have v12 := va_at.kept v12 (hk _ (hw_lt v12) (hw_AWn (hw_RX_2 Rx) (by decide) (hw_lt v12)))
      refine lv_pop hx hb dL_law_555 rfl ?_
      refine lv_goto (tgt := 1187) hx hb dL_law_556 (by decide) ?_
      refine W.widen (k := k + 20) (n := n + 80) (by first | omega | (show _ ≤ _; omega)) (by first | omega | (show _ ≤ _; omega)) ?_
      exact hk9 _ _ _ ⟨G1, rx, rm, pnx, pcx, x8, scx, udm, kym, lom, wkm, dkm, lnm, smm, fim, bem, rkm, rlm, rwm, clm, dgm, fq, la, sz9, fla, fsz, th, tt, fth, hH, hGe1, wx, wm, gx, gm, Rx, v11, ⟨by first | decide | omega, by first | decide | omega⟩, vq, hRK, Rm, v31, ⟨by first | decide | omega, by first | decide | omega⟩, ⟨by first | decide | omega, by first | decide | omega⟩, ⟨by first | decide | omega, by first | decide | omega⟩, ⟨by first | decide | omega, by first | decide | omega⟩, ⟨by first | decide | omega, by first | decide | omega⟩, ⟨by first | decide | omega, by first | decide | omega⟩, ⟨by first | decide | omega, by first | decide | omega⟩, ⟨by first | decide | omega, by first | decide | omega⟩, ⟨by first | decide | omega, by first | decide | omega⟩, ⟨by first | decide | omega, by first | decide | omega⟩, ⟨by first | decide | omega, by first | decide | omega⟩, ⟨by first | decide | omega, by first | decide | omega⟩, vla, vsz, qsz, hrel, vth, hrt⟩ hS hl
  · have q21i := hw_ieq q21
    have hRK := hw_RK3.kept hRK (fun q9 h9 l9 => hk q9 l9 (by rcases h9 with h9 | h9 <;> exact hw_AWn h9 (by decide) l9))
    have vq := va_at.kept vq (hk _ (hw_lt vq) (hw_AWn (hw_RX_13 Rx) (by decide) (hw_lt vq)))
    have vm := va_at.kept vm (hk _ (hw_lt vm) (hw_AWn gm (by decide) (hw_lt vm)))
    have vla := va_at.kept vla (hk _ (hw_lt vla) (hw_AWn (hw_RM_41 Rm) (by decide) (hw_lt vla)))
    have vsz := va_at.kept vsz (hk _ (hw_lt vsz) (hw_AWn (hw_RM_42 Rm) (by decide) (hw_lt vsz)))
    have vth := va_at.kept vth (hk _ (hw_lt vth) (hw_AWn (hw_RM_43 Rm) (by decide) (hw_lt vth)))
    refine lv_pop hx hb dL_law_545 rfl ?_
    refine lv_aload_n hx hb dL_law_546 rfl (lv_at hl 1 rfl) ?_
    refine lv_aload_n hx hb dL_law_547 rfl (lv_at hl 3 rfl) ?_
    refine lv_iload_n hx hb dL_law_548 rfl (lv_at hl 0 rfl) ?_
    refine lv_iconst (v := 1) hx hb dL_law_549 (by decide) ?_
    refine lv_iadd hx hb dL_law_550 ?_
    refine va_sld hx hb hX hbl hbA hS (hw_in (by omega) (by omega)) dL_law_551 ?_
    obtain ⟨f35, v36⟩ := hH.a40 (hw_RM_0 Rm)
    refine hw_cM0 (va_runV (As := [.int (xs (y3 + 1).toNatClampNeg)]) (rest := []) ⟨hx, hb, hml, hown, hts⟩ (k_X12_keep l D G1 mo (xs (y3 + 1).toNatClampNeg) _ rm udm kym lom wkm dkm lnm smm fim bem rkm rlm rwm clm dgm f35 gm Rm ⟨by first | decide | omega, by first | decide | omega⟩ ⟨by first | decide | omega, by first | decide | omega⟩ ⟨by first | decide | omega, by first | decide | omega⟩ ⟨by first | decide | omega, by first | decide | omega⟩ ⟨by first | decide | omega, by first | decide | omega⟩ ⟨by first | decide | omega, by first | decide | omega⟩ ⟨by first | decide | omega, by first | decide | omega⟩ ⟨by first | decide | omega, by first | decide | omega⟩ ⟨by first | decide | omega, by first | decide | omega⟩ ⟨by first | decide | omega, by first | decide | omega⟩ ⟨by first | decide | omega, by first | decide | omega⟩ ⟨by first | decide | omega, by first | decide | omega⟩) (cwV 1 hts gL_law_X12_keep rfl rfl rfl (by decide +kernel) ⟨Nat.le_of_ble_eq_true rfl, Nat.le_of_ble_eq_true rfl⟩) (hw_pV (hw_rc (q := (RX12, TX12, 45)) hK vm rfl) hH hK hST hS (by decide) (hw_hG hGe1) ⟨vm, v36⟩) rfl rfl hl.1 rfl (lv_room (Nat.le_of_ble_eq_true rfl)) dL_law_552 ⟨by show _ ≤ 600000; omega, by show _ ≤ 7302250; omega⟩) hS (hw_AWsub (by decide) hGe1 hS.1) (fun v H locs hp hz hk hS => ?_)
    rcases hp with ⟨f38, rfl, hH, v39, v40, q41⟩ | ⟨x42, f43, rfl, hH, v44, v45, q46, q47⟩
    · have hRK := hw_RK3.kept hRK (fun q9 h9 l9 => hk q9 l9 (by rcases h9 with h9 | h9 <;> exact hw_AWn h9 (by decide) l9))
      have v18 := va_at.kept v18 (hk _ (hw_lt v18) (hw_AWn gx (by decide) (hw_lt v18)))
      have vq := va_at.kept vq (hk _ (hw_lt vq) (hw_AWn (hw_RX_13 Rx) (by decide) (hw_lt vq)))
      have vla := va_at.kept vla (hk _ (hw_lt vla) (hw_AWn (hw_RM_41 Rm) (by decide) (hw_lt vla)))
      have vsz := va_at.kept vsz (hk _ (hw_lt vsz) (hw_AWn (hw_RM_42 Rm) (by decide) (hw_lt vsz)))
      have vth := va_at.kept vth (hk _ (hw_lt vth) (hw_AWn (hw_RM_43 Rm) (by decide) (hw_lt vth)))
      have v19 := va_at.kept v19 (hk _ (hw_lt v19) (hw_AWn (hw_RX_2 Rx) (by decide) (hw_lt v19)))
      refine lv_pop hx hb dL_law_555 rfl ?_
      refine lv_goto (tgt := 1187) hx hb dL_law_556 (by decide) ?_
      refine W.widen (k := k + 20) (n := n + 80) (by first | omega | (show _ ≤ _; omega)) (by first | omega | (show _ ≤ _; omega)) ?_
      exact hk9 _ _ _ ⟨G1, rx, rm, pnx, pcx, x15, scx, udm, kym, lom, wkm, dkm, lnm, smm, fim, bem, rkm, rlm, rwm, clm, dgm, fq, la, sz9, fla, fsz, th, tt, fth, hH, hGe1, wx, wm, gx, gm, Rx, v18, ⟨by first | decide | omega, by first | decide | omega⟩, vq, hRK, Rm, v39, ⟨by first | decide | omega, by first | decide | omega⟩, ⟨by first | decide | omega, by first | decide | omega⟩, ⟨by first | decide | omega, by first | decide | omega⟩, ⟨by first | decide | omega, by first | decide | omega⟩, ⟨by first | decide | omega, by first | decide | omega⟩, ⟨by first | decide | omega, by first | decide | omega⟩, ⟨by first | decide | omega, by first | decide | omega⟩, ⟨by first | decide | omega, by first | decide | omega⟩, ⟨by first | decide | omega, by first | decide | omega⟩, ⟨by first | decide | omega, by first | decide | omega⟩, ⟨by first | decide | omega, by first | decide | omega⟩, ⟨by first | decide | omega, by first | decide | omega⟩, vla, vsz, qsz, hrel, vth, hrt⟩ hS hl
    · have q47i := hw_ieq q47
      have hRK := hw_RK3.kept hRK (fun q9 h9 l9 => hk q9 l9 (by rcases h9 with h9 | h9 <;> exact hw_AWn h9 (by decide) l9))
      have v18 := va_at.kept v18 (hk _ (hw_lt v18) (hw_AWn gx (by decide) (hw_lt v18)))
      have vq := va_at.kept vq (hk _ (hw_lt vq) (hw_AWn (hw_RX_13 Rx) (by decide) (hw_lt vq)))
      have vla := va_at.kept vla (hk _ (hw_lt vla) (hw_AWn (hw_RM_41 Rm) (by decide) (hw_lt vla)))
      have vsz := va_at.kept vsz (hk _ (hw_lt vsz) (hw_AWn (hw_RM_42 Rm) (by decide) (hw_lt vsz)))
      have vth := va_at.kept vth (hk _ (hw_lt vth) (hw_AWn (hw_RM_43 Rm) (by decide) (hw_lt vth)))
      have v19 := va_at.kept v19 (hk _ (hw_lt v19) (hw_AWn (hw_RX_2 Rx) (by decide) (hw_lt v19)))
      refine lv_pop hx hb dL_law_555 rfl ?_
      refine lv_goto (tgt := 1187) hx hb dL_law_556 (by decide) ?_
      refine W.widen (k := k + 20) (n := n + 80) (by first | omega | (show _ ≤ _; omega)) (by first | omega | (show _ ≤ _; omega)) ?_
      exact hk9 _ _ _ ⟨G1, rx, rm, pnx, pcx, x15, scx, udm, kym, lom, wkm, dkm, lnm, smm, fim, bem, rkm, rlm, rwm, clm, dgm, fq, la, sz9, fla, fsz, th, tt, fth, hH, hGe1, wx, wm, gx, gm, Rx, v18, ⟨by first | decide | omega, by first | decide | omega⟩, vq, hRK, Rm, v44, ⟨by first | decide | omega, by first | decide | omega⟩, ⟨by first | decide | omega, by first | decide | omega⟩, ⟨by first | decide | omega, by first | decide | omega⟩, ⟨by first | decide | omega, by first | decide | omega⟩, ⟨by first | decide | omega, by first | decide | omega⟩, ⟨by first | decide | omega, by first | decide | omega⟩, ⟨by first | decide | omega, by first | decide | omega⟩, ⟨by first | decide | omega, by first | decide | omega⟩, ⟨by first | decide | omega, by first | decide | omega⟩, ⟨by first | decide | omega, by first | decide | omega⟩, ⟨by first | decide | omega, by first | decide | omega⟩, ⟨by first | decide | omega, by first | decide | omega⟩, vla, vsz, qsz, hrel, vth, hrt⟩ hS hl

set_option maxHeartbeats 40000000 in
set_option maxRecDepth 100000 in
theorem hw_case559 {p : Program} {e : Env} {s : State} {m : MethodId} {below : List Frame} {meth : Method} {c : Code} (l : Launch) {b L : Nat} {xs : Nat → Int32} {D : hw_D} {G : Nat → Nat} {H : Heap} {locs : List Loc} {x mo k n : Nat} {y3 : Int32} {ls : Array Slot} (hL : L ≤ 384) (hy0 : 0 ≤ y3.toInt ∧ y3.toInt ≤ 384) (hy : y3.toInt + 6 ≤ L) (hkc : k + 20 ≤ 600000) (hnc : n + 80 ≤ 7302250) (hx : p.tables.exec = Jvm.exec) (hb : c.code = code) (hr : meth.sig.returnType = ret) (hml : c.maxLocals = 4) (hown : s.vm.findClass R_law = some m.cls) (hts0 : ∀ w ∈ lw_tbl, w.before #[Value.ref b] s = true) (hts : ∀ w ∈ wsL_law, w.before #[Value.ref b] s = true) (hX : va_X b L xs s s.heap) (hbl : b < s.heap.size) (hlocks : meth.locks = false) (hG0 : G = fun _ => 0) (hK : va_K D.1 vwCl (hw_ty D.2.1) s) (hST : hw_ST D.2.2 G s.heap.size s) (hI : hw_I D G s H x mo) (hS : va_S (hw_AW G [1, 2, 3, 4, 5, 6, 7, 8, 9, 10, 11, 12, 13, 14, 15, 16, 17, 18, 19, 20, 21, 22, 23, 24, 25, 26, 27, 28, 29, 30, 31, 32, 40, 42, 44, 45, 46, 48, 49, 50, 51, 53, 55, 58, 59, 67, 68, 69, 70, 71, 72, 73, 74, 75, 76, 77, 78, 79, 80, 81, 82, 83, 84, 101, 102, 103, 104, 105, 106, 107, 108, 109, 127, 128, 129, 132] s.heap.size) s.heap H locs) (hl : lv_has ls 4 [(3, .int y3), (2, .ref mo), (1, .ref x), (0, .ref b)]) (hk9 : ∀ (H1 : Heap) (locs1 : List Loc) (ls1 : Array Slot), hw_I D G s H1 x mo → va_S (hw_AW G [1, 2, 3, 4, 5, 6, 7, 8, 9, 10, 11, 12, 13, 14, 15, 16, 17, 18, 19, 20, 21, 22, 23, 24, 25, 26, 27, 28, 29, 30, 31, 32, 40, 42, 44, 45, 46, 48, 49, 50, 51, 53, 55, 58, 59, 67, 68, 69, 70, 71, 72, 73, 74, 75, 76, 77, 78, 79, 80, 81, 82, 83, 84, 101, 102, 103, 104, 105, 106, 107, 108, 109, 127, 128, 129, 132] s.heap.size) s.heap H1 locs1 → lv_has ls1 4 [(3, .int y3), (2, .ref mo), (1, .ref x), (0, .ref b)] → W p l e room_1 s m #[Value.ref b] below meth c H1 locs1 (k + 20) (n + 80) (lw_Z below #[Value.ref b] s) (F0 m 1187 ls1 [])) : W p l e room_1 s m #[Value.ref b] below meth c H locs k n (lw_Z below #[Value.ref b] s) (F0 m 559 ls []) := by
  have hH0 : hw_HT D G s.heap := fun a h => absurd (by rw [hG0]) h
  have hbA : ¬ (hw_AW G [1, 2, 3, 4, 5, 6, 7, 8, 9, 10, 11, 12, 13, 14, 15, 16, 17, 18, 19, 20, 21, 22, 23, 24, 25, 26, 27, 28, 29, 30, 31, 32, 40, 42, 44, 45, 46, 48, 49, 50, 51, 53, 55, 58, 59, 67, 68, 69, 70, 71, 72, 73, 74, 75, 76, 77, 78, 79, 80, 81, 82, 83, 84, 101, 102, 103, 104, 105, 106, 107, 108, 109, 127, 128, 129, 132] s.heap.size) b := hw_AWn (k := 0) (by rw [hG0]) (by decide) hbl
  have hLi : (Int32.ofNat L).toInt = (L : Int) := nI_toInt (by omega)
  refine hw_I_elim hI ?_
  intro G1 rx rm pnx pcx ksx scx udm kym lom wkm dkm lnm smm fim bem rkm rlm rwm clm dgm fq la sz9 fla fsz th tt fth hH hGe1 wx wm gx gm Rx vx gsc vq hRK Rm vm gm0 gm1 gm2 gm3 gm4 gm5 gm6 gm7 gm8 gm9 gm10 gm11 vla vsz qsz hrel vth hrt
  have hHs := hH0
  have hz24 := hw_hz24 hrel qsz
  have qq := hRK.q
  refine lv_aload_n hx hb dL_law_559 rfl (lv_at hl 2 rfl) ?_
  refine lv_aload_n hx hb dL_law_560 rfl (lv_at hl 3 rfl) ?_
  refine lv_iload_n hx hb dL_law_561 rfl (lv_at hl 0 rfl) ?_
  refine lv_iconst (v := 1) hx hb dL_law_562 (by decide) ?_
  refine lv_iadd hx hb dL_law_563 ?_
  have t1 : (y3 + 1).toInt = y3.toInt + 1 := hw_add rfl rfl (by omega) (by omega)
  refine va_sld hx hb hX hbl hbA hS (hw_in (by omega) (by omega)) dL_law_564 ?_
  refine hw_cM0 (va_runV (As := [.int (xs (y3 + 1).toNatClampNeg)]) (rest := []) ⟨hx, hb, hml, hown, hts⟩ (k_X11_back l D G1 x (xs (y3 + 1).toNatClampNeg) _ rx pnx pcx ksx scx gx Rx ⟨by first | decide | omega, by first | decide | omega⟩) (cwV 1 hts gL_law_X11_back rfl rfl rfl (by decide +kernel) ⟨Nat.le_of_ble_eq_true rfl, Nat.le_of_ble_eq_true rfl⟩) (hw_pV (hw_rc (q := (RX11, TX11, 14)) hK vx rfl) hH hK hST hS (by decide) (hw_hG hGe1) vx) rfl rfl hl.1 rfl (lv_room (Nat.le_of_ble_eq_true rfl)) dL_law_565 ⟨by show _ ≤ 600000; omega, by show _ ≤ 7302250; omega⟩) hS (hw_AWsub (by decide) hGe1 hS.1) (fun v H locs hp hz hk hS => ?_)
  rcases hp with ⟨x2, rfl, hH, v3, q4⟩ | ⟨x5, rfl, hH, v6, q7⟩ | ⟨x8, x9, rfl, hH, v10, q11, q12⟩
  · have hRK := hw_RK3.kept hRK (fun q9 h9 l9 => hk q9 l9 (by rcases h9 with h9 | h9 <;> exact hw_AWn h9 (by decide) l9))
    have vq := va_at.kept vq (hk _ (hw_lt vq) (hw_AWn (hw_RX_13 Rx) (by decide) (hw_lt vq)))
    have vm := va_at.kept vm (hk _ (hw_lt vm) (hw_AWn gm (by decide) (hw_lt vm)))
    have vla := va_at.kept vla (hk _ (hw_lt vla) (hw_AWn (hw_RM_41 Rm) (by decide) (hw_lt vla)))
    have vsz := va_at.kept vsz (hk _ (hw_lt vsz) (hw_AWn (hw_RM_42 Rm) (by decide) (hw_lt vsz)))
    have vth := va_at.kept vth (hk _ (hw_lt vth) (hw_AWn (hw_RM_43 Rm) (by decide) (hw_lt vth)))
    refine lv_pop hx hb dL_law_568 rfl ?_
    refine lv_aload_n hx hb dL_law_569 rfl (lv_at hl 1 rfl) ?_
    refine lv_aload_n hx hb dL_law_570 rfl (lv_at hl 3 rfl) ?_
    refine lv_iload_n hx hb dL_law_571 rfl (lv_at hl 0 rfl) ?_
    refine lv_iconst (v := 1) hx hb dL_law_572 (by decide) ?_
    refine lv_iadd hx hb dL_law_573 ?_
    refine va_sld hx hb hX hbl hbA hS (hw_in (by omega) (by omega)) dL_law_574 ?_
    obtain ⟨f13, v14⟩ := hH.a42 (hw_RM_2 Rm)
    refine hw_cM0 (va_runV (As := [.int (xs (y3 + 1).toNatClampNeg)]) (rest := []) ⟨hx, hb, hml, hown, hts⟩ (k_X12_back l D G1 mo (xs (y3 + 1).toNatClampNeg) _ rm udm kym lom wkm dkm lnm smm fim bem rkm rlm rwm clm dgm f13 gm Rm ⟨by first | decide | omega, by first | decide | omega⟩ ⟨by first | decide | omega, by first | decide | omega⟩ ⟨by first | decide | omega, by first | decide | omega⟩ ⟨by first | decide | omega, by first | decide | omega⟩ ⟨by first | decide | omega, by first | decide | omega⟩ ⟨by first | decide | omega, by first | decide | omega⟩ ⟨by first | decide | omega, by first | decide | omega⟩ ⟨by first | decide | omega, by first | decide | omega⟩ ⟨by first | decide | omega, by first | decide | omega⟩ ⟨by first | decide | omega, by first | decide | omega⟩ ⟨by first | decide | omega, by first | decide | omega⟩ ⟨by first | decide | omega, by first | decide | omega⟩) (cwV 1 hts gL_law_X12_back rfl rfl rfl (by decide +kernel) ⟨Nat.le_of_ble_eq_true rfl, Nat.le_of_ble_eq_true rfl⟩) (hw_pV (hw_rc (q := (RX12, TX12, 45)) hK vm rfl) hH hK hST hS (by decide) (hw_hG hGe1) ⟨vm, v14⟩) rfl rfl hl.1 rfl (lv_room (Nat.le_of_ble_eq_true rfl)) dL_law_575 ⟨by show _ ≤ 600000; omega, by show _ ≤ 7302250; omega⟩) hS (hw_AWsub (by decide) hGe1 hS.1) (fun v H locs hp hz hk hS => ?_)
    rcases hp with ⟨x16, rfl, hH, v17, v18, g19, q20⟩ | ⟨x21, rfl, hH, v22, v23, g24, q25⟩ | ⟨x26, x27, rfl, hH, v28, v29, g30, q31, q32⟩
    · have hRK := hw_RK3.kept hRK (fun q9 h9 l9 => hk q9 l9 (by rcases h9 with h9 | h9 <;> exact hw_AWn h9 (by decide) l9))
      have v3 := va_at.kept v3 (hk _ (hw_lt v3) (hw_AWn gx (by decide) (hw_lt v3)))
      have vq := va_at.kept vq (hk _ (hw_lt vq) (hw_AWn (hw_RX_13 Rx) (by decide) (hw_lt vq)))
      have vla := va_at.kept vla (hk _ (hw_lt vla) (hw_AWn (hw_RM_41 Rm) (by decide) (hw_lt vla)))
      have vsz := va_at.kept vsz (hk _ (hw_lt vsz) (hw_AWn (hw_RM_42 Rm) (by decide) (hw_lt vsz)))
      have vth := va_at.kept vth (hk _ (hw_lt vth) (hw_AWn (hw_RM_43 Rm) (by decide) (hw_lt vth)))
      refine lv_pop hx hb dL_law_578 rfl ?_
      refine lv_goto (tgt := 1187) hx hb dL_law_579 (by decide) ?_
      refine W.widen (k := k + 20) (n := n + 80) (by first | omega | (show _ ≤ _; omega)) (by first | omega | (show _ ≤ _; omega)) ?_
      exact hk9 _ _ _ ⟨G1, rx, rm, pnx, x2, ksx, scx, x16, kym, lom, wkm, dkm, lnm, smm, fim, bem, rkm, rlm, rwm, clm, dgm, fq, la, sz9, fla, fsz, th, tt, fth, hH, hGe1, wx, wm, gx, gm, Rx, v3, ⟨by first | decide | omega, by first | decide | omega⟩, vq, hRK, Rm, v17, ⟨by first | decide | omega, by first | decide | omega⟩, ⟨by first | decide | omega, by first | decide | omega⟩, ⟨by first | decide | omega, by first | decide | omega⟩, ⟨by first | decide | omega, by first | decide | omega⟩, ⟨by first | decide | omega, by first | decide | omega⟩, ⟨by first | decide | omega, by first | decide | omega⟩, ⟨by first | decide | omega, by first | decide | omega⟩, ⟨by first | decide | omega, by first | decide | omega⟩, ⟨by first | decide | omega, by first | decide | omega⟩, ⟨by first | decide | omega, by first | decide | omega⟩, ⟨by first | decide | omega, by first | decide | omega⟩, ⟨by first | decide | omega, by first | decide | omega⟩, vla, vsz, qsz, hrel, vth, hrt⟩ hS hl
    · have hRK := hw_RK3.kept hRK (fun q9 h9 l9 => hk q9 l9 (by rcases h9 with h9 | h9 <;> exact hw_AWn h9 (by decide) l9))
      have v3 := va_at.kept v3 (hk _ (hw_lt v3) (hw_AWn gx (by decide) (hw_lt v3)))
      have vq := va_at.kept vq (hk _ (hw_lt vq) (hw_AWn (hw_RX_13 Rx) (by decide) (hw_lt vq)))
      have vla := va_at.kept vla (hk _ (hw_lt vla) (hw_AWn (hw_RM_41 Rm) (by decide) (hw_lt vla)))
      have vsz := va_at.kept vsz (hk _ (hw_lt vsz) (hw_AWn (hw_RM_42 Rm) (by decide) (hw_lt vsz)))
      have vth := va_at.kept vth (hk _ (hw_lt vth) (hw_AWn (hw_RM_43 Rm) (by decide) (hw_lt vth)))
      refine lv_pop hx hb dL_law_578 rfl ?_
      refine lv_goto (tgt := 1187) hx hb dL_law_579 (by decide) ?_
      refine W.widen (k := k + 20) (n := n + 80) (by first | omega | (show _ ≤ _; omega)) (by first | omega | (show _ ≤ _; omega)) ?_
      exact hk9 _ _ _ ⟨G1, rx, rm, pnx, x2, ksx, scx, x21, kym, lom, wkm, dkm, lnm, smm, fim, bem, rkm, rlm, rwm, clm, dgm, fq, la, sz9, fla, fsz, th, tt, fth, hH, hGe1, wx, wm, gx, gm, Rx, v3, ⟨by first | decide | omega, by first | decide | omega⟩, vq, hRK, Rm, v22, ⟨by first | decide | omega, by first | decide | omega⟩, ⟨by first | decide | omega, by first | decide | omega⟩, ⟨by first | decide | omega, by first | decide | omega⟩, ⟨by first | decide | omega, by first | decide | omega⟩, ⟨by first | decide | omega, by first | decide | omega⟩, ⟨by first | decide | omega, by first | decide | omega⟩, ⟨by first | decide | omega, by first | decide | omega⟩, ⟨by first | decide | omega, by first | decide | omega⟩, ⟨by first | decide | omega, by first | decide | omega⟩, ⟨by first | decide | omega, by first | decide | omega⟩, ⟨by first | decide | omega, by first | decide | omega⟩, ⟨by first | decide | omega, by first | decide | omega⟩, vla, vsz, qsz, hrel, vth, hrt⟩ hS hl
    · have hRK := hw_RK3.kept hRK (fun q9 h9 l9 => hk q9 l9 (by rcases h9 with h9 | h9 <;> exact hw_AWn h9 (by decide) l9))
      have v3 := va_at.kept v3 (hk _ (hw_lt v3) (hw_AWn gx (by decide) (hw_lt v3)))
      have vq := va_at.kept vq (hk _ (hw_lt vq) (hw_AWn (hw_RX_13 Rx) (by decide) (hw_lt vq)))
      have vla := va_at.kept vla (hk _ (hw_lt vla) (hw_AWn (hw_RM_41 Rm) (by decide) (hw_lt vla)))
      have vsz := va_at.kept vsz (hk _ (hw_lt vsz) (hw_AWn (hw_RM_42 Rm) (by decide) (hw_lt vsz)))
      have vth := va_at.kept vth (hk _ (hw_lt vth) (hw_AWn (hw_RM_43 Rm) (by decide) (hw_lt vth)))
      refine lv_pop hx hb dL_law_578 rfl ?_
      refine lv_goto (tgt := 1187) hx hb dL_law_579 (by decide) ?_
      refine W.widen (k := k + 20) (n := n + 80) (by first | omega | (show _ ≤ _; omega)) (by first | omega | (show _ ≤ _; omega)) ?_
      exact hk9 _ _ _ ⟨G1, rx, rm, pnx, x2, ksx, scx, x27, kym, lom, wkm, dkm, lnm, smm, fim, bem, rkm, rlm, rwm, clm, dgm, fq, la, sz9, fla, fsz, th, tt, fth, hH, hGe1, wx, wm, gx, gm, Rx, v3, ⟨by first | decide | omega, by first | decide | omega⟩, vq, hRK, Rm, v28, ⟨by first | decide | omega, by first | decide | omega⟩, ⟨by first | decide | omega, by first | decide | omega⟩, ⟨by first | decide | omega, by first | decide | omega⟩, ⟨by first | decide | omega, by first | decide | omega⟩, ⟨by first | decide | omega, by first | decide | omega⟩, ⟨by first | decide | omega, by first | decide | omega⟩, ⟨by first | decide | omega, by first | decide | omega⟩, ⟨by first | decide | omega, by first | decide | omega⟩, ⟨by first | decide | omega, by first | decide | omega⟩, ⟨by first | decide | omega, by first | decide | omega⟩, ⟨by first | decide | omega, by first | decide | omega⟩, ⟨by first | decide | omega, by first | decide | omega⟩, vla, vsz, qsz, hrel, vth, hrt⟩ hS hl
  · have hRK := hw_RK3.kept hRK (fun q9 h9 l9 => hk q9 l9 (by rcases h9 with h9 | h9 <;> exact hw_AWn h9 (by decide) l9))
    have vq := va_at.kept vq (hk _ (hw_lt vq) (hw_AWn (hw_RX_13 Rx) (by decide) (hw_lt vq)))
    have vm := va_at.kept vm (hk _ (hw_lt vm) (hw_AWn gm (by decide) (hw_lt vm)))
    have vla := va_at.kept vla (hk _ (hw_lt vla) (hw_AWn (hw_RM_41 Rm) (by decide) (hw_lt vla)))
    have vsz := va_at.kept vsz (hk _ (hw_lt vsz) (hw_AWn (hw_RM_42 Rm) (by decide) (hw_lt vsz)))
    have vth := va_at.kept vth (hk _ (hw_lt vth) (hw_AWn (hw_RM_43 Rm) (by decide) (hw_lt vth)))
    refine lv_pop hx hb dL_law_568 rfl ?_
    refine lv_aload_n hx hb dL_law_569 rfl (lv_at hl 1 rfl) ?_
    refine lv_aload_n hx hb dL_law_570 rfl (lv_at hl 3 rfl) ?_
    refine lv_iload_n hx hb dL_law_571 rfl (lv_at hl 0 rfl) ?_
    refine lv_iconst (v := 1) hx hb dL_law_572 (by decide) ?_
    refine lv_iadd hx hb dL_law_573 ?_
    refine va_sld hx hb hX hbl hbA hS (hw_in (by omega) (by omega)) dL_law_574 ?_
    obtain ⟨f33, v34⟩ := hH.a42 (hw_RM_2 Rm)
    refine hw_cM0 (va_runV (As := [.int (xs (y3 + 1).toNatClampNeg)]) (rest := []) ⟨hx, hb, hml, hown, hts⟩ (k_X12_back l D G1 mo (xs (y3 + 1).toNatClampNeg) _ rm udm kym lom wkm dkm lnm smm fim bem rkm rlm rwm clm dgm f33 gm Rm ⟨by first | decide | omega, by first | decide | omega⟩ ⟨by first | decide | omega, by first | decide | omega⟩ ⟨by first | decide | omega, by first | decide | omega⟩ ⟨by first | decide | omega, by first | decide | omega⟩ ⟨by first | decide | omega, by first | decide | omega⟩ ⟨by first | decide | omega, by first | decide | omega⟩ ⟨by first | decide | omega, by first | decide | omega⟩ ⟨by first | decide | omega, by first | decide | omega⟩ ⟨by first | decide | omega, by first | decide | omega⟩ ⟨by first | decide | omega, by first | decide | omega⟩ ⟨by first | decide | omega, by first | decide | omega⟩ ⟨by first | decide | omega, by first | decide | omega⟩) (cwV 1 hts gL_law_X12_back rfl rfl rfl (by decide +kernel) ⟨Nat.le_of_ble_eq_true rfl, Nat.le_of_ble_eq_true rfl⟩) (hw_pV (hw_rc (q := (RX12, TX12, 45)) hK vm rfl) hH hK hST hS (by decide) (hw_hG hGe1) ⟨vm, v34⟩) rfl rfl hl.1 rfl (lv_room (Nat.le_of_ble_eq_true rfl)) dL_law_575 ⟨by show _ ≤ 600000; omega, by show _ ≤ 7302250; omega⟩) hS (hw_AWsub (by decide) hGe1 hS.1) (fun v H locs hp hz hk hS => ?_)
    rcases hp with ⟨x36, rfl, hH, v37, v38, g39, q40⟩ | ⟨x41, rfl, hH, v42, v43, g44, q45⟩ | ⟨x46, x47, rfl, hH, v48, v49, g50, q51, q52⟩
    · have hRK := hw_RK3.kept hRK (fun q9 h9 l9 => hk q9 l9 (by rcases h9 with h9 | h9 <;> exact hw_AWn h9 (by decide) l9))
      have v6 := va_at.kept v6 (hk _ (hw_lt v6) (hw_AWn gx (by decide) (hw_lt v6)))
      have vq := va_at.kept vq (hk _ (hw_lt vq) (hw_AWn (hw_RX_13 Rx) (by decide) (hw_lt vq)))
      have vla := va_at.kept vla (hk _ (hw_lt vla) (hw_AWn (hw_RM_41 Rm) (by decide) (hw_lt vla)))
      have vsz := va_at.kept vsz (hk _ (hw_lt vsz) (hw_AWn (hw_RM_42 Rm) (by decide) (hw_lt vsz)))
      have vth := va_at.kept vth (hk _ (hw_lt vth) (hw_AWn (hw_RM_43 Rm) (by decide) (hw_lt vth)))
      refine lv_pop hx hb dL_law_578 rfl ?_
      refine lv_goto (tgt := 1187) hx hb dL_law_579 (by decide) ?_
      refine W.widen (k := k + 20) (n := n + 80) (by first | omega | (show _ ≤ _; omega)) (by first | omega | (show _ ≤ _; omega)) ?_
      exact hk9 _ _ _ ⟨G1, rx, rm, pnx, x5, ksx, scx, x36, kym, lom, wkm, dkm, lnm, smm, fim, bem, rkm, rlm, rwm, clm, dgm, fq, la, sz9, fla, fsz, th, tt, fth, hH, hGe1, wx, wm, gx, gm, Rx, v6, ⟨by first | decide | omega, by first | decide | omega⟩, vq, hRK, Rm, v37, ⟨by first | decide | omega, by first | decide | omega⟩, ⟨by first | decide | omega, by first | decide | omega⟩, ⟨by first | decide | omega, by first | decide | omega⟩, ⟨by first | decide | omega, by first | decide | omega⟩, ⟨by first | decide | omega, by first | decide | omega⟩, ⟨by first | decide | omega, by first | decide | omega⟩, ⟨by first | decide | omega, by first | decide | omega⟩, ⟨by first | decide | omega, by first | decide | omega⟩, ⟨by first | decide | omega, by first | decide | omega⟩, ⟨by first | decide | omega, by first | decide | omega⟩, ⟨by first | decide | omega, by first | decide | omega⟩, ⟨by first | decide | omega, by first | decide | omega⟩, vla, vsz, qsz, hrel, vth, hrt⟩ hS hl
    · have hRK := hw_RK3.kept hRK (fun q9 h9 l9 => hk q9 l9 (by rcases h9 with h9 | h9 <;> exact hw_AWn h9 (by decide) l9))
      have v6 := va_at.kept v6 (hk _ (hw_lt v6) (hw_AWn gx (by decide) (hw_lt v6)))
      have vq := va_at.kept vq (hk _ (hw_lt vq) (hw_AWn (hw_RX_13 Rx) (by decide) (hw_lt vq)))
      have vla := va_at.kept vla (hk _ (hw_lt vla) (hw_AWn (hw_RM_41 Rm) (by decide) (hw_lt vla)))
      have vsz := va_at.kept vsz (hk _ (hw_lt vsz) (hw_AWn (hw_RM_42 Rm) (by decide) (hw_lt vsz)))
      have vth := va_at.kept vth (hk _ (hw_lt vth) (hw_AWn (hw_RM_43 Rm) (by decide) (hw_lt vth)))
      refine lv_pop hx hb dL_law_578 rfl ?_
      refine lv_goto (tgt := 1187) hx hb dL_law_579 (by decide) ?_
      refine W.widen (k := k + 20) (n := n + 80) (by first | omega | (show _ ≤ _; omega)) (by first | omega | (show _ ≤ _; omega)) ?_
      exact hk9 _ _ _ ⟨G1, rx, rm, pnx, x5, ksx, scx, x41, kym, lom, wkm, dkm, lnm, smm, fim, bem, rkm, rlm, rwm, clm, dgm, fq, la, sz9, fla, fsz, th, tt, fth, hH, hGe1, wx, wm, gx, gm, Rx, v6, ⟨by first | decide | omega, by first | decide | omega⟩, vq, hRK, Rm, v42, ⟨by first | decide | omega, by first | decide | omega⟩, ⟨by first | decide | omega, by first | decide | omega⟩, ⟨by first | decide | omega, by first | decide | omega⟩, ⟨by first | decide | omega, by first | decide | omega⟩, ⟨by first | decide | omega, by first | decide | omega⟩, ⟨by first | decide | omega, by first | decide | omega⟩, ⟨by first | decide | omega, by first | decide | omega⟩, ⟨by first | decide | omega, by first | decide | omega⟩, ⟨by first | decide | omega, by first | decide | omega⟩, ⟨by first | decide | omega, by first | decide | omega⟩, ⟨by first | decide | omega, by first | decide | omega⟩, ⟨by first | decide | omega, by first | decide | omega⟩, vla, vsz, qsz, hrel, vth, hrt⟩ hS hl
    · have hRK := hw_RK3.kept hRK (fun q9 h9 l9 => hk q9 l9 (by rcases h9 with h9 | h9 <;> exact hw_AWn h9 (by decide) l9))
      have v6 := va_at.kept v6 (hk _ (hw_lt v6) (hw_AWn gx (by decide) (hw_lt v6)))
      have vq := va_at.kept vq (hk _ (hw_lt vq) (hw_AWn (hw_RX_13 Rx) (by decide) (hw_lt vq)))
      have vla := va_at.kept vla (hk _ (hw_lt vla) (hw_AWn (hw_RM_41 Rm) (by decide) (hw_lt vla)))
      have vsz := va_at.kept vsz (hk _ (hw_lt vsz) (hw_AWn (hw_RM_42 Rm) (by decide) (hw_lt vsz)))
      have vth := va_at.kept vth (hk _ (hw_lt vth) (hw_AWn (hw_RM_43 Rm) (by decide) (hw_lt vth)))
      refine lv_pop hx hb dL_law_578 rfl ?_
      refine lv_goto (tgt := 1187) hx hb dL_law_579 (by decide) ?_
      refine W.widen (k := k + 20) (n := n + 80) (by first | omega | (show _ ≤ _; omega)) (by first | omega | (show _ ≤ _; omega)) ?_
      exact hk9 _ _ _ ⟨G1, rx, rm, pnx, x5, ksx, scx, x47, kym, lom, wkm, dkm, lnm, smm, fim, bem, rkm, rlm, rwm, clm, dgm, fq, la, sz9, fla, fsz, th, tt, fth, hH, hGe1, wx, wm, gx, gm, Rx, v6, ⟨by first | decide | omega, by first | decide | omega⟩, vq, hRK, Rm, v48, ⟨by first | decide | omega, by first | decide | omega⟩, ⟨by first | decide | omega, by first | decide | omega⟩, ⟨by first | decide | omega, by first | decide | omega⟩, ⟨by first | decide | omega, by first | decide | omega⟩, ⟨by first | decide | omega, by first | decide | omega⟩, ⟨by first | decide | omega, by first | decide | omega⟩, ⟨by first | decide | omega, by first | decide | omega⟩, ⟨by first | decide | omega, by first | decide | omega⟩, ⟨by first | decide | omega, by first | decide | omega⟩, ⟨by first | decide | omega, by first | decide | omega⟩, ⟨by first | decide | omega, by first | decide | omega⟩, ⟨by first | decide | omega, by first | decide | omega⟩, vla, vsz, qsz, hrel, vth, hrt⟩ hS hl
  · have hRK := hw_RK3.kept hRK (fun q9 h9 l9 => hk q9 l9 (by rcases h9 with h9 | h9 <;> exact hw_AWn h9 (by decide) l9))
    have vq := va_at.kept vq (hk _ (hw_lt vq) (hw_AWn (hw_RX_13 Rx) (by decide) (hw_lt vq)))
    have vm := va_at.kept vm (hk _ (hw_lt vm) (hw_AWn gm (by decide) (hw_lt vm)))
    have vla := va_at.kept vla (hk _ (hw_lt vla) (hw_AWn (hw_RM_41 Rm) (by decide) (hw_lt vla)))
    have vsz := va_at.kept vsz (hk _ (hw_lt vsz) (hw_AWn (hw_RM_42 Rm) (by decide) (hw_lt vsz)))
    have vth := va_at.kept vth (hk _ (hw_lt vth) (hw_AWn (hw_RM_43 Rm) (by decide) (hw_lt vth)))
    refine lv_pop hx hb dL_law_568 rfl ?_
    refine lv_aload_n hx hb dL_law_569 rfl (lv_at hl 1 rfl) ?_
    refine lv_aload_n hx hb dL_law_570 rfl (lv_at hl 3 rfl) ?_
    refine lv_iload_n hx hb dL_law_571 rfl (lv_at hl 0 rfl) ?_
    refine lv_iconst (v := 1) hx hb dL_law_572 (by decide) ?_
    refine lv_iadd hx hb dL_law_573 ?_
    refine va_sld hx hb hX hbl hbA hS (hw_in (by omega) (by omega)) dL_law_574 ?_
    obtain ⟨f53, v54⟩ := hH.a42 (hw_RM_2 Rm)
    refine hw_cM0 (va_runV (As := [.int (xs (y3 + 1).toNatClampNeg)]) (rest := []) ⟨hx, hb, hml, hown, hts⟩ (k_X12_back l D G1 mo (xs (y3 + 1).toNatClampNeg) _ rm udm kym lom wkm dkm lnm smm fim bem rkm rlm rwm clm dgm f53 gm Rm ⟨by first | decide | omega, by first | decide | omega⟩ ⟨by first | decide | omega, by first | decide | omega⟩ ⟨by first | decide | omega, by first | decide | omega⟩ ⟨by first | decide | omega, by first | decide | omega⟩ ⟨by first | decide | omega, by first | decide | omega⟩ ⟨by first | decide | omega, by first | decide | omega⟩ ⟨by first | decide | omega, by first | decide | omega⟩ ⟨by first | decide | omega, by first | decide | omega⟩ ⟨by first | decide | omega, by first | decide | omega⟩ ⟨by first | decide | omega, by first | decide | omega⟩ ⟨by first | decide | omega, by first | decide | omega⟩ ⟨by first | decide | omega, by first | decide | omega⟩) (cwV 1 hts gL_law_X12_back rfl rfl rfl (by decide +kernel) ⟨Nat.le_of_ble_eq_true rfl, Nat.le_of_ble_eq_true rfl⟩) (hw_pV (hw_rc (q := (RX12, TX12, 45)) hK vm rfl) hH hK hST hS (by decide) (hw_hG hGe1) ⟨vm, v54⟩) rfl rfl hl.1 rfl (lv_room (Nat.le_of_ble_eq_true rfl)) dL_law_575 ⟨by show _ ≤ 600000; omega, by show _ ≤ 7302250; omega⟩) hS (hw_AWsub (by decide) hGe1 hS.1) (fun v H locs hp hz hk hS => ?_)
    rcases hp with ⟨x56, rfl, hH, v57, v58, g59, q60⟩ | ⟨x61, rfl, hH, v62, v63, g64, q65⟩ | ⟨x66, x67, rfl, hH, v68, v69, g70, q71, q72⟩
    · have hRK := hw_RK3.kept hRK (fun q9 h9 l9 => hk q9 l9 (by rcases h9 with h9 | h9 <;> exact hw_AWn h9 (by decide) l9))
      have v10 := va_at.kept v10 (hk _ (hw_lt v10) (hw_AWn gx (by decide) (hw_lt v10)))
      have vq := va_at.kept vq (hk _ (hw_lt vq) (hw_AWn (hw_RX_13 Rx) (by decide) (hw_lt vq)))
      have vla := va_at.kept vla (hk _ (hw_lt vla) (hw_AWn (hw_RM_41 Rm) (by decide) (hw_lt vla)))
      have vsz := va_at.kept vsz (hk _ (hw_lt vsz) (hw_AWn (hw_RM_42 Rm) (by decide) (hw_lt vsz)))
      have vth := va_at.kept vth (hk _ (hw_lt vth) (hw_AWn (hw_RM_43 Rm) (by decide) (hw_lt vth)))
      refine lv_pop hx hb dL_law_578 rfl ?_
      refine lv_goto (tgt := 1187) hx hb dL_law_579 (by decide) ?_
      refine W.widen (k := k + 20) (n := n + 80) (by first | omega | (show _ ≤ _; omega)) (by first | omega | (show _ ≤ _; omega)) ?_
      exact hk9 _ _ _ ⟨G1, rx, rm, pnx, x9, ksx, scx, x56, kym, lom, wkm, dkm, lnm, smm, fim, bem, rkm, rlm, rwm, clm, dgm, fq, la, sz9, fla, fsz, th, tt, fth, hH, hGe1, wx, wm, gx, gm, Rx, v10, ⟨by first | decide | omega, by first | decide | omega⟩, vq, hRK, Rm, v57, ⟨by first | decide | omega, by first | decide | omega⟩, ⟨by first | decide | omega, by first | decide | omega⟩, ⟨by first | decide | omega, by first | decide | omega⟩, ⟨by first | decide | omega, by first | decide | omega⟩, ⟨by first | decide | omega, by first | decide | omega⟩, ⟨by first | decide | omega, by first | decide | omega⟩, ⟨by first | decide | omega, by first | decide | omega⟩, ⟨by first | decide | omega, by first | decide | omega⟩, ⟨by first | decide | omega, by first | decide | omega⟩, ⟨by first | decide | omega, by first | decide | omega⟩, ⟨by first | decide | omega, by first | decide | omega⟩, ⟨by first | decide | omega, by first | decide | omega⟩, vla, vsz, qsz, hrel, vth, hrt⟩ hS hl
    · have hRK := hw_RK3.kept hRK (fun q9 h9 l9 => hk q9 l9 (by rcases h9 with h9 | h9 <;> exact hw_AWn h9 (by decide) l9))
      have v10 := va_at.kept v10 (hk _ (hw_lt v10) (hw_AWn gx (by decide) (hw_lt v10)))
      have vq := va_at.kept vq (hk _ (hw_lt vq) (hw_AWn (hw_RX_13 Rx) (by decide) (hw_lt vq)))
      have vla := va_at.kept vla (hk _ (hw_lt vla) (hw_AWn (hw_RM_41 Rm) (by decide) (hw_lt vla)))
      have vsz := va_at.kept vsz (hk _ (hw_lt vsz) (hw_AWn (hw_RM_42 Rm) (by decide) (hw_lt vsz)))
      have vth := va_at.kept vth (hk _ (hw_lt vth) (hw_AWn (hw_RM_43 Rm) (by decide) (hw_lt vth)))
      refine lv_pop hx hb dL_law_578 rfl ?_
      refine lv_goto (tgt := 1187) hx hb dL_law_579 (by decide) ?_
      refine W.widen (k := k + 20) (n := n + 80) (by first | omega | (show _ ≤ _; omega)) (by first | omega | (show _ ≤ _; omega)) ?_
      exact hk9 _ _ _ ⟨G1, rx, rm, pnx, x9, ksx, scx, x61, kym, lom, wkm, dkm, lnm, smm, fim, bem, rkm, rlm, rwm, clm, dgm, fq, la, sz9, fla, fsz, th, tt, fth, hH, hGe1, wx, wm, gx, gm, Rx, v10, ⟨by first | decide | omega, by first | decide | omega⟩, vq, hRK, Rm, v62, ⟨by first | decide | omega, by first | decide | omega⟩, ⟨by first | decide | omega, by first | decide | omega⟩, ⟨by first | decide | omega, by first | decide | omega⟩, ⟨by first | decide | omega, by first | decide | omega⟩, ⟨by first | decide | omega, by first | decide | omega⟩, ⟨by first | decide | omega, by first | decide | omega⟩, ⟨by first | decide | omega, by first | decide | omega⟩, ⟨by first | decide | omega, by first | decide | omega⟩, ⟨by first | decide | omega, by first | decide | omega⟩, ⟨by first | decide | omega, by first | decide | omega⟩, ⟨by first | decide | omega, by first | decide | omega⟩, ⟨by first | decide | omega, by first | decide | omega⟩, vla, vsz, qsz, hrel, vth, hrt⟩ hS hl
    · have hRK := hw_RK3.kept hRK (fun q9 h9 l9 => hk q9 l9 (by rcases h9 with h9 | h9 <;> exact hw_AWn h9 (by decide) l9))
      have v10 := va_at.kept v10 (hk _ (hw_lt v10) (hw_AWn gx (by decide) (hw_lt v10)))
      have vq := va_at.kept vq (hk _ (hw_lt vq) (hw_AWn (hw_RX_13 Rx) (by decide) (hw_lt vq)))
      have vla := va_at.kept vla (hk _ (hw_lt vla) (hw_AWn (hw_RM_41 Rm) (by decide) (hw_lt vla)))
      have vsz := va_at.kept vsz (hk _ (hw_lt vsz) (hw_AWn (hw_RM_42 Rm) (by decide) (hw_lt vsz)))
      have vth := va_at.kept vth (hk _ (hw_lt vth) (hw_AWn (hw_RM_43 Rm) (by decide) (hw_lt vth)))
      refine lv_pop hx hb dL_law_578 rfl ?_
      refine lv_goto (tgt := 1187) hx hb dL_law_579 (by decide) ?_
      refine W.widen (k := k + 20) (n := n + 80) (by first | omega | (show _ ≤ _; omega)) (by first | omega | (show _ ≤ _; omega)) ?_
      exact hk9 _ _ _ ⟨G1, rx, rm, pnx, x9, ksx, scx, x67, kym, lom, wkm, dkm, lnm, smm, fim, bem, rkm, rlm, rwm, clm, dgm, fq, la, sz9, fla, fsz, th, tt, fth, hH, hGe1, wx, wm, gx, gm, Rx, v10, ⟨by first | decide | omega, by first | decide | omega⟩, vq, hRK, Rm, v68, ⟨by first | decide | omega, by first | decide | omega⟩, ⟨by first | decide | omega, by first | decide | omega⟩, ⟨by first | decide | omega, by first | decide | omega⟩, ⟨by first | decide | omega, by first | decide | omega⟩, ⟨by first | decide | omega, by first | decide | omega⟩, ⟨by first | decide | omega, by first | decide | omega⟩, ⟨by first | decide | omega, by first | decide | omega⟩, ⟨by first | decide | omega, by first | decide | omega⟩, ⟨by first | decide | omega, by first | decide | omega⟩, ⟨by first | decide | omega, by first | decide | omega⟩, ⟨by first | decide | omega, by first | decide | omega⟩, ⟨by first | decide | omega, by first | decide | omega⟩, vla, vsz, qsz, hrel, vth, hrt⟩ hS hl

set_option maxHeartbeats 40000000 in
set_option maxRecDepth 100000 in
theorem hw_case582 {p : Program} {e : Env} {s : State} {m : MethodId} {below : List Frame} {meth : Method} {c : Code} (l : Launch) {b L : Nat} {xs : Nat → Int32} {D : hw_D} {G : Nat → Nat} {H : Heap} {locs : List Loc} {x mo k n : Nat} {y3 : Int32} {ls : Array Slot} (hL : L ≤ 384) (hy0 : 0 ≤ y3.toInt ∧ y3.toInt ≤ 384) (hy : y3.toInt + 6 ≤ L) (hkc : k + 20 ≤ 600000) (hnc : n + 80 ≤ 7302250) (hx : p.tables.exec = Jvm.exec) (hb : c.code = code) (hr : meth.sig.returnType = ret) (hml : c.maxLocals = 4) (hown : s.vm.findClass R_law = some m.cls) (hts0 : ∀ w ∈ lw_tbl, w.before #[Value.ref b] s = true) (hts : ∀ w ∈ wsL_law, w.before #[Value.ref b] s = true) (hX : va_X b L xs s s.heap) (hbl : b < s.heap.size) (hlocks : meth.locks = false) (hG0 : G = fun _ => 0) (hK : va_K D.1 vwCl (hw_ty D.2.1) s) (hST : hw_ST D.2.2 G s.heap.size s) (hI : hw_I D G s H x mo) (hS : va_S (hw_AW G [1, 2, 3, 4, 5, 6, 7, 8, 9, 10, 11, 12, 13, 14, 15, 16, 17, 18, 19, 20, 21, 22, 23, 24, 25, 26, 27, 28, 29, 30, 31, 32, 40, 42, 44, 45, 46, 48, 49, 50, 51, 53, 55, 58, 59, 67, 68, 69, 70, 71, 72, 73, 74, 75, 76, 77, 78, 79, 80, 81, 82, 83, 84, 101, 102, 103, 104, 105, 106, 107, 108, 109, 127, 128, 129, 132] s.heap.size) s.heap H locs) (hl : lv_has ls 4 [(3, .int y3), (2, .ref mo), (1, .ref x), (0, .ref b)]) (hk9 : ∀ (H1 : Heap) (locs1 : List Loc) (ls1 : Array Slot), hw_I D G s H1 x mo → va_S (hw_AW G [1, 2, 3, 4, 5, 6, 7, 8, 9, 10, 11, 12, 13, 14, 15, 16, 17, 18, 19, 20, 21, 22, 23, 24, 25, 26, 27, 28, 29, 30, 31, 32, 40, 42, 44, 45, 46, 48, 49, 50, 51, 53, 55, 58, 59, 67, 68, 69, 70, 71, 72, 73, 74, 75, 76, 77, 78, 79, 80, 81, 82, 83, 84, 101, 102, 103, 104, 105, 106, 107, 108, 109, 127, 128, 129, 132] s.heap.size) s.heap H1 locs1 → lv_has ls1 4 [(3, .int y3), (2, .ref mo), (1, .ref x), (0, .ref b)] → W p l e room_1 s m #[Value.ref b] below meth c H1 locs1 (k + 20) (n + 80) (lw_Z below #[Value.ref b] s) (F0 m 1187 ls1 [])) : W p l e room_1 s m #[Value.ref b] below meth c H locs k n (lw_Z below #[Value.ref b] s) (F0 m 582 ls []) := by
  have hH0 : hw_HT D G s.heap := fun a h => absurd (by rw [hG0]) h
  have hbA : ¬ (hw_AW G [1, 2, 3, 4, 5, 6, 7, 8, 9, 10, 11, 12, 13, 14, 15, 16, 17, 18, 19, 20, 21, 22, 23, 24, 25, 26, 27, 28, 29, 30, 31, 32, 40, 42, 44, 45, 46, 48, 49, 50, 51, 53, 55, 58, 59, 67, 68, 69, 70, 71, 72, 73, 74, 75, 76, 77, 78, 79, 80, 81, 82, 83, 84, 101, 102, 103, 104, 105, 106, 107, 108, 109, 127, 128, 129, 132] s.heap.size) b := hw_AWn (k := 0) (by rw [hG0]) (by decide) hbl
  have hLi : (Int32.ofNat L).toInt = (L : Int) := nI_toInt (by omega)
  refine hw_I_elim hI ?_
  intro G1 rx rm pnx pcx ksx scx udm kym lom wkm dkm lnm smm fim bem rkm rlm rwm clm dgm fq la sz9 fla fsz th tt fth hH hGe1 wx wm gx gm Rx vx gsc vq hRK Rm vm gm0 gm1 gm2 gm3 gm4 gm5 gm6 gm7 gm8 gm9 gm10 gm11 vla vsz qsz hrel vth hrt
  have hHs := hH0
  have hz24 := hw_hz24 hrel qsz
  have qq := hRK.q
  refine lv_aload_n hx hb dL_law_582 rfl (lv_at hl 2 rfl) ?_
  refine lv_aload_n hx hb dL_law_583 rfl (lv_at hl 3 rfl) ?_
  refine lv_iload_n hx hb dL_law_584 rfl (lv_at hl 0 rfl) ?_
  refine lv_iconst (v := 1) hx hb dL_law_585 (by decide) ?_
  refine lv_iadd hx hb dL_law_586 ?_
  have t1 : (y3 + 1).toInt = y3.toInt + 1 := hw_add rfl rfl (by omega) (by omega)
  refine va_sld hx hb hX hbl hbA hS (hw_in (by omega) (by omega)) dL_law_587 ?_
  obtain ⟨r2, kc_3, lc_4, wc_5, dk_6, v7, R8, g9, g10, g11⟩ := hH.oC (hw_RX_0 Rx)
  refine hw_cR (va_runV (As := [.int (xs (y3 + 1).toNatClampNeg)]) (rest := []) ⟨hx, hb, hml, hown, hts⟩ (k_X11_belongs l D G1 x (xs (y3 + 1).toNatClampNeg) _ rx pnx pcx ksx scx r2 kc_3 lc_4 wc_5 dk_6 gx Rx ⟨by first | decide | omega, by first | decide | omega⟩ R8 ⟨by first | decide | omega, by first | decide | omega⟩ ⟨by first | decide | omega, by first | decide | omega⟩ ⟨by first | decide | omega, by first | decide | omega⟩) (cwV 1 hts gL_law_X11_belongs rfl rfl rfl (by decide +kernel) ⟨Nat.le_of_ble_eq_true rfl, Nat.le_of_ble_eq_true rfl⟩) (hw_pV (hw_rc (q := (RX11, TX11, 14)) hK vx rfl) hH hK hST hS (by decide) (hw_hG hGe1) ⟨vx, v7⟩) rfl rfl hl.1 rfl (lv_room (Nat.le_of_ble_eq_true rfl)) dL_law_588 ⟨by show _ ≤ 600000; omega, by show _ ≤ 7302250; omega⟩) (fun v hp => ?_)
  obtain ⟨x12, rfl, q13⟩ := hp
  refine lv_pop hx hb dL_law_591 rfl ?_
  refine lv_aload_n hx hb dL_law_592 rfl (lv_at hl 1 rfl) ?_
  refine lv_aload_n hx hb dL_law_593 rfl (lv_at hl 3 rfl) ?_
  refine lv_iload_n hx hb dL_law_594 rfl (lv_at hl 0 rfl) ?_
  refine lv_iconst (v := 1) hx hb dL_law_595 (by decide) ?_
  refine lv_iadd hx hb dL_law_596 ?_
  refine va_sld hx hb hX hbl hbA hS (hw_in (by omega) (by omega)) dL_law_597 ?_
  refine hw_cR (va_runV (As := [.int (xs (y3 + 1).toNatClampNeg)]) (rest := []) ⟨hx, hb, hml, hown, hts⟩ (k_X12_belongs l D G1 mo (xs (y3 + 1).toNatClampNeg) _ rm udm kym lom wkm dkm lnm smm fim bem rkm rlm rwm clm dgm gm Rm ⟨by first | decide | omega, by first | decide | omega⟩ ⟨by first | decide | omega, by first | decide | omega⟩ ⟨by first | decide | omega, by first | decide | omega⟩ ⟨by first | decide | omega, by first | decide | omega⟩ ⟨by first | decide | omega, by first | decide | omega⟩ ⟨by first | decide | omega, by first | decide | omega⟩ ⟨by first | decide | omega, by first | decide | omega⟩ ⟨by first | decide | omega, by first | decide | omega⟩ ⟨by first | decide | omega, by first | decide | omega⟩ ⟨by first | decide | omega, by first | decide | omega⟩ ⟨by first | decide | omega, by first | decide | omega⟩ ⟨by first | decide | omega, by first | decide | omega⟩) (cwV 1 hts gL_law_X12_belongs rfl rfl rfl (by decide +kernel) ⟨Nat.le_of_ble_eq_true rfl, Nat.le_of_ble_eq_true rfl⟩) (hw_pV (hw_rc (q := (RX12, TX12, 45)) hK vm rfl) hH hK hST hS (by decide) (hw_hG hGe1) vm) rfl rfl hl.1 rfl (lv_room (Nat.le_of_ble_eq_true rfl)) dL_law_598 ⟨by show _ ≤ 600000; omega, by show _ ≤ 7302250; omega⟩) (fun v hp => ?_)
  obtain ⟨x14, rfl, q15⟩ := hp
  refine lv_pop hx hb dL_law_601 rfl ?_
  refine lv_goto (tgt := 1187) hx hb dL_law_602 (by decide) ?_
  refine W.widen (k := k + 20) (n := n + 80) (by first | omega | (show _ ≤ _; omega)) (by first | omega | (show _ ≤ _; omega)) ?_
  exact hk9 _ _ _ ⟨G1, rx, rm, pnx, pcx, ksx, scx, udm, kym, lom, wkm, dkm, lnm, smm, fim, bem, rkm, rlm, rwm, clm, dgm, fq, la, sz9, fla, fsz, th, tt, fth, hH, hGe1, wx, wm, gx, gm, Rx, vx, ⟨by first | decide | omega, by first | decide | omega⟩, vq, hRK, Rm, vm, ⟨by first | decide | omega, by first | decide | omega⟩, ⟨by first | decide | omega, by first | decide | omega⟩, ⟨by first | decide | omega, by first | decide | omega⟩, ⟨by first | decide | omega, by first | decide | omega⟩, ⟨by first | decide | omega, by first | decide | omega⟩, ⟨by first | decide | omega, by first | decide | omega⟩, ⟨by first | decide | omega, by first | decide | omega⟩, ⟨by first | decide | omega, by first | decide | omega⟩, ⟨by first | decide | omega, by first | decide | omega⟩, ⟨by first | decide | omega, by first | decide | omega⟩, ⟨by first | decide | omega, by first | decide | omega⟩, ⟨by first | decide | omega, by first | decide | omega⟩, vla, vsz, qsz, hrel, vth, hrt⟩ hS hl

set_option maxHeartbeats 40000000 in
set_option maxRecDepth 100000 in
theorem hw_case605 {p : Program} {e : Env} {s : State} {m : MethodId} {below : List Frame} {meth : Method} {c : Code} (l : Launch) {b L : Nat} {xs : Nat → Int32} {D : hw_D} {G : Nat → Nat} {H : Heap} {locs : List Loc} {x mo k n : Nat} {y3 : Int32} {ls : Array Slot} (hL : L ≤ 384) (hy0 : 0 ≤ y3.toInt ∧ y3.toInt ≤ 384) (hy : y3.toInt + 6 ≤ L) (hkc : k + 20 ≤ 600000) (hnc : n + 80 ≤ 7302250) (hx : p.tables.exec = Jvm.exec) (hb : c.code = code) (hr : meth.sig.returnType = ret) (hml : c.maxLocals = 4) (hown : s.vm.findClass R_law = some m.cls) (hts0 : ∀ w ∈ lw_tbl, w.before #[Value.ref b] s = true) (hts : ∀ w ∈ wsL_law, w.before #[Value.ref b] s = true) (hX : va_X b L xs s s.heap) (hbl : b < s.heap.size) (hlocks : meth.locks = false) (hG0 : G = fun _ => 0) (hK : va_K D.1 vwCl (hw_ty D.2.1) s) (hST : hw_ST D.2.2 G s.heap.size s) (hI : hw_I D G s H x mo) (hS : va_S (hw_AW G [1, 2, 3, 4, 5, 6, 7, 8, 9, 10, 11, 12, 13, 14, 15, 16, 17, 18, 19, 20, 21, 22, 23, 24, 25, 26, 27, 28, 29, 30, 31, 32, 40, 42, 44, 45, 46, 48, 49, 50, 51, 53, 55, 58, 59, 67, 68, 69, 70, 71, 72, 73, 74, 75, 76, 77, 78, 79, 80, 81, 82, 83, 84, 101, 102, 103, 104, 105, 106, 107, 108, 109, 127, 128, 129, 132] s.heap.size) s.heap H locs) (hl : lv_has ls 4 [(3, .int y3), (2, .ref mo), (1, .ref x), (0, .ref b)]) (hk9 : ∀ (H1 : Heap) (locs1 : List Loc) (ls1 : Array Slot), hw_I D G s H1 x mo → va_S (hw_AW G [1, 2, 3, 4, 5, 6, 7, 8, 9, 10, 11, 12, 13, 14, 15, 16, 17, 18, 19, 20, 21, 22, 23, 24, 25, 26, 27, 28, 29, 30, 31, 32, 40, 42, 44, 45, 46, 48, 49, 50, 51, 53, 55, 58, 59, 67, 68, 69, 70, 71, 72, 73, 74, 75, 76, 77, 78, 79, 80, 81, 82, 83, 84, 101, 102, 103, 104, 105, 106, 107, 108, 109, 127, 128, 129, 132] s.heap.size) s.heap H1 locs1 → lv_has ls1 4 [(3, .int y3), (2, .ref mo), (1, .ref x), (0, .ref b)] → W p l e room_1 s m #[Value.ref b] below meth c H1 locs1 (k + 20) (n + 80) (lw_Z below #[Value.ref b] s) (F0 m 1187 ls1 [])) : W p l e room_1 s m #[Value.ref b] below meth c H locs k n (lw_Z below #[Value.ref b] s) (F0 m 605 ls []) := by
  have hH0 : hw_HT D G s.heap := fun a h => absurd (by rw [hG0]) h
  have hbA : ¬ (hw_AW G [1, 2, 3, 4, 5, 6, 7, 8, 9, 10, 11, 12, 13, 14, 15, 16, 17, 18, 19, 20, 21, 22, 23, 24, 25, 26, 27, 28, 29, 30, 31, 32, 40, 42, 44, 45, 46, 48, 49, 50, 51, 53, 55, 58, 59, 67, 68, 69, 70, 71, 72, 73, 74, 75, 76, 77, 78, 79, 80, 81, 82, 83, 84, 101, 102, 103, 104, 105, 106, 107, 108, 109, 127, 128, 129, 132] s.heap.size) b := hw_AWn (k := 0) (by rw [hG0]) (by decide) hbl
  have hLi : (Int32.ofNat L).toInt = (L : Int) := nI_toInt (by omega)
  refine hw_I_elim hI ?_
  intro G1 rx rm pnx pcx ksx scx udm kym lom wkm dkm lnm smm fim bem rkm rlm rwm clm dgm fq la sz9 fla fsz th tt fth hH hGe1 wx wm gx gm Rx vx gsc vq hRK Rm vm gm0 gm1 gm2 gm3 gm4 gm5 gm6 gm7 gm8 gm9 gm10 gm11 vla vsz qsz hrel vth hrt
  have hHs := hH0
  have hz24 := hw_hz24 hrel qsz
  have qq := hRK.q
  refine lv_aload_n hx hb dL_law_605 rfl (lv_at hl 2 rfl) ?_
  refine lv_aload_n hx hb dL_law_606 rfl (lv_at hl 3 rfl) ?_
  refine lv_iload_n hx hb dL_law_607 rfl (lv_at hl 0 rfl) ?_
  refine lv_iconst (v := 1) hx hb dL_law_608 (by decide) ?_
  refine lv_iadd hx hb dL_law_609 ?_
  have t1 : (y3 + 1).toInt = y3.toInt + 1 := hw_add rfl rfl (by omega) (by omega)
  refine va_sld hx hb hX hbl hbA hS (hw_in (by omega) (by omega)) dL_law_610 ?_
  obtain ⟨r2, kc_3, lc_4, wc_5, dk_6, v7, R8, g9, g10, g11⟩ := hH.oC (hw_RX_0 Rx)
  refine hw_cR (va_runV (As := [.int (xs (y3 + 1).toNatClampNeg)]) (rest := []) ⟨hx, hb, hml, hown, hts⟩ (k_X11_openers l D G1 x (xs (y3 + 1).toNatClampNeg) _ rx pnx pcx ksx scx r2 kc_3 lc_4 wc_5 dk_6 gx Rx ⟨by first | decide | omega, by first | decide | omega⟩ R8 ⟨by first | decide | omega, by first | decide | omega⟩ ⟨by first | decide | omega, by first | decide | omega⟩ ⟨by first | decide | omega, by first | decide | omega⟩) (cwV 1 hts gL_law_X11_openers rfl rfl rfl (by decide +kernel) ⟨Nat.le_of_ble_eq_true rfl, Nat.le_of_ble_eq_true rfl⟩) (hw_pV (hw_rc (q := (RX11, TX11, 14)) hK vx rfl) hH hK hST hS (by decide) (hw_hG hGe1) ⟨vx, v7⟩) rfl rfl hl.1 rfl (lv_room (Nat.le_of_ble_eq_true rfl)) dL_law_611 ⟨by show _ ≤ 600000; omega, by show _ ≤ 7302250; omega⟩) (fun v hp => ?_)
  obtain ⟨x12, rfl, q13⟩ := hp
  refine lv_pop hx hb dL_law_614 rfl ?_
  refine lv_aload_n hx hb dL_law_615 rfl (lv_at hl 1 rfl) ?_
  refine lv_aload_n hx hb dL_law_616 rfl (lv_at hl 3 rfl) ?_
  refine lv_iload_n hx hb dL_law_617 rfl (lv_at hl 0 rfl) ?_
  refine lv_iconst (v := 1) hx hb dL_law_618 (by decide) ?_
  refine lv_iadd hx hb dL_law_619 ?_
  refine va_sld hx hb hX hbl hbA hS (hw_in (by omega) (by omega)) dL_law_620 ?_
  refine hw_cR (va_runV (As := [.int (xs (y3 + 1).toNatClampNeg)]) (rest := []) ⟨hx, hb, hml, hown, hts⟩ (k_X12_openers l D G1 mo (xs (y3 + 1).toNatClampNeg) _ rm udm kym lom wkm dkm lnm smm fim bem rkm rlm rwm clm dgm gm Rm ⟨by first | decide | omega, by first | decide | omega⟩ ⟨by first | decide | omega, by first | decide | omega⟩ ⟨by first | decide | omega, by first | decide | omega⟩ ⟨by first | decide | omega, by first | decide | omega⟩ ⟨by first | decide | omega, by first | decide | omega⟩ ⟨by first | decide | omega, by first | decide | omega⟩ ⟨by first | decide | omega, by first | decide | omega⟩ ⟨by first | decide | omega, by first | decide | omega⟩ ⟨by first | decide | omega, by first | decide | omega⟩ ⟨by first | decide | omega, by first | decide | omega⟩ ⟨by first | decide | omega, by first | decide | omega⟩ ⟨by first | decide | omega, by first | decide | omega⟩) (cwV 1 hts gL_law_X12_openers rfl rfl rfl (by decide +kernel) ⟨Nat.le_of_ble_eq_true rfl, Nat.le_of_ble_eq_true rfl⟩) (hw_pV (hw_rc (q := (RX12, TX12, 45)) hK vm rfl) hH hK hST hS (by decide) (hw_hG hGe1) vm) rfl rfl hl.1 rfl (lv_room (Nat.le_of_ble_eq_true rfl)) dL_law_621 ⟨by show _ ≤ 600000; omega, by show _ ≤ 7302250; omega⟩) (fun v hp => ?_)
  obtain ⟨x14, rfl, q15⟩ := hp
  refine lv_pop hx hb dL_law_624 rfl ?_
  refine lv_goto (tgt := 1187) hx hb dL_law_625 (by decide) ?_
  refine W.widen (k := k + 20) (n := n + 80) (by first | omega | (show _ ≤ _; omega)) (by first | omega | (show _ ≤ _; omega)) ?_
  exact hk9 _ _ _ ⟨G1, rx, rm, pnx, pcx, ksx, scx, udm, kym, lom, wkm, dkm, lnm, smm, fim, bem, rkm, rlm, rwm, clm, dgm, fq, la, sz9, fla, fsz, th, tt, fth, hH, hGe1, wx, wm, gx, gm, Rx, vx, ⟨by first | decide | omega, by first | decide | omega⟩, vq, hRK, Rm, vm, ⟨by first | decide | omega, by first | decide | omega⟩, ⟨by first | decide | omega, by first | decide | omega⟩, ⟨by first | decide | omega, by first | decide | omega⟩, ⟨by first | decide | omega, by first | decide | omega⟩, ⟨by first | decide | omega, by first | decide | omega⟩, ⟨by first | decide | omega, by first | decide | omega⟩, ⟨by first | decide | omega, by first | decide | omega⟩, ⟨by first | decide | omega, by first | decide | omega⟩, ⟨by first | decide | omega, by first | decide | omega⟩, ⟨by first | decide | omega, by first | decide | omega⟩, ⟨by first | decide | omega, by first | decide | omega⟩, ⟨by first | decide | omega, by first | decide | omega⟩, vla, vsz, qsz, hrel, vth, hrt⟩ hS hl

set_option maxHeartbeats 40000000 in
set_option maxRecDepth 100000 in
theorem hw_case628 {p : Program} {e : Env} {s : State} {m : MethodId} {below : List Frame} {meth : Method} {c : Code} (l : Launch) {b L : Nat} {xs : Nat → Int32} {D : hw_D} {G : Nat → Nat} {H : Heap} {locs : List Loc} {x mo k n : Nat} {y3 : Int32} {ls : Array Slot} (hL : L ≤ 384) (hy0 : 0 ≤ y3.toInt ∧ y3.toInt ≤ 384) (hy : y3.toInt + 6 ≤ L) (hkc : k + 20 ≤ 600000) (hnc : n + 80 ≤ 7302250) (hx : p.tables.exec = Jvm.exec) (hb : c.code = code) (hr : meth.sig.returnType = ret) (hml : c.maxLocals = 4) (hown : s.vm.findClass R_law = some m.cls) (hts0 : ∀ w ∈ lw_tbl, w.before #[Value.ref b] s = true) (hts : ∀ w ∈ wsL_law, w.before #[Value.ref b] s = true) (hX : va_X b L xs s s.heap) (hbl : b < s.heap.size) (hlocks : meth.locks = false) (hG0 : G = fun _ => 0) (hK : va_K D.1 vwCl (hw_ty D.2.1) s) (hST : hw_ST D.2.2 G s.heap.size s) (hI : hw_I D G s H x mo) (hS : va_S (hw_AW G [1, 2, 3, 4, 5, 6, 7, 8, 9, 10, 11, 12, 13, 14, 15, 16, 17, 18, 19, 20, 21, 22, 23, 24, 25, 26, 27, 28, 29, 30, 31, 32, 40, 42, 44, 45, 46, 48, 49, 50, 51, 53, 55, 58, 59, 67, 68, 69, 70, 71, 72, 73, 74, 75, 76, 77, 78, 79, 80, 81, 82, 83, 84, 101, 102, 103, 104, 105, 106, 107, 108, 109, 127, 128, 129, 132] s.heap.size) s.heap H locs) (hl : lv_has ls 4 [(3, .int y3), (2, .ref mo), (1, .ref x), (0, .ref b)]) (hk9 : ∀ (H1 : Heap) (locs1 : List Loc) (ls1 : Array Slot), hw_I D G s H1 x mo → va_S (hw_AW G [1, 2, 3, 4, 5, 6, 7, 8, 9, 10, 11, 12, 13, 14, 15, 16, 17, 18, 19, 20, 21, 22, 23, 24, 25, 26, 27, 28, 29, 30, 31, 32, 40, 42, 44, 45, 46, 48, 49, 50, 51, 53, 55, 58, 59, 67, 68, 69, 70, 71, 72, 73, 74, 75, 76, 77, 78, 79, 80, 81, 82, 83, 84, 101, 102, 103, 104, 105, 106, 107, 108, 109, 127, 128, 129, 132] s.heap.size) s.heap H1 locs1 → lv_has ls1 4 [(3, .int y3), (2, .ref mo), (1, .ref x), (0, .ref b)] → W p l e room_1 s m #[Value.ref b] below meth c H1 locs1 (k + 20) (n + 80) (lw_Z below #[Value.ref b] s) (F0 m 1187 ls1 [])) : W p l e room_1 s m #[Value.ref b] below meth c H locs k n (lw_Z below #[Value.ref b] s) (F0 m 628 ls []) := by
  have hH0 : hw_HT D G s.heap := fun a h => absurd (by rw [hG0]) h
  have hbA : ¬ (hw_AW G [1, 2, 3, 4, 5, 6, 7, 8, 9, 10, 11, 12, 13, 14, 15, 16, 17, 18, 19, 20, 21, 22, 23, 24, 25, 26, 27, 28, 29, 30, 31, 32, 40, 42, 44, 45, 46, 48, 49, 50, 51, 53, 55, 58, 59, 67, 68, 69, 70, 71, 72, 73, 74, 75, 76, 77, 78, 79, 80, 81, 82, 83, 84, 101, 102, 103, 104, 105, 106, 107, 108, 109, 127, 128, 129, 132] s.heap.size) b := hw_AWn (k := 0) (by rw [hG0]) (by decide) hbl
  have hLi : (Int32.ofNat L).toInt = (L : Int) := nI_toInt (by omega)
  refine hw_I_elim hI ?_
  intro G1 rx rm pnx pcx ksx scx udm kym lom wkm dkm lnm smm fim bem rkm rlm rwm clm dgm fq la sz9 fla fsz th tt fth hH hGe1 wx wm gx gm Rx vx gsc vq hRK Rm vm gm0 gm1 gm2 gm3 gm4 gm5 gm6 gm7 gm8 gm9 gm10 gm11 vla vsz qsz hrel vth hrt
  have hHs := hH0
  have hz24 := hw_hz24 hrel qsz
  have qq := hRK.q
  refine lv_aload_n hx hb dL_law_628 rfl (lv_at hl 2 rfl) ?_
  refine lv_aload_n hx hb dL_law_629 rfl (lv_at hl 3 rfl) ?_
  refine lv_iload_n hx hb dL_law_630 rfl (lv_at hl 0 rfl) ?_
  refine lv_iconst (v := 1) hx hb dL_law_631 (by decide) ?_
  refine lv_iadd hx hb dL_law_632 ?_
  have t1 : (y3 + 1).toInt = y3.toInt + 1 := hw_add rfl rfl (by omega) (by omega)
  refine va_sld hx hb hX hbl hbA hS (hw_in (by omega) (by omega)) dL_law_633 ?_
  obtain ⟨r2, kc_3, lc_4, wc_5, dk_6, v7, R8, g9, g10, g11⟩ := hH.oC (hw_RX_0 Rx)
  refine hw_cR (va_runV (As := [.int (xs (y3 + 1).toNatClampNeg)]) (rest := []) ⟨hx, hb, hml, hown, hts⟩ (k_X11_twins l D G1 x (xs (y3 + 1).toNatClampNeg) _ rx pnx pcx ksx scx r2 kc_3 lc_4 wc_5 dk_6 gx Rx ⟨by first | decide | omega, by first | decide | omega⟩ R8 ⟨by first | decide | omega, by first | decide | omega⟩ ⟨by first | decide | omega, by first | decide | omega⟩ ⟨by first | decide | omega, by first | decide | omega⟩) (cwV 1 hts gL_law_X11_twins rfl rfl rfl (by decide +kernel) ⟨Nat.le_of_ble_eq_true rfl, Nat.le_of_ble_eq_true rfl⟩) (hw_pV (hw_rc (q := (RX11, TX11, 14)) hK vx rfl) hH hK hST hS (by decide) (hw_hG hGe1) ⟨vx, v7⟩) rfl rfl hl.1 rfl (lv_room (Nat.le_of_ble_eq_true rfl)) dL_law_634 ⟨by show _ ≤ 600000; omega, by show _ ≤ 7302250; omega⟩) (fun v hp => ?_)
  rcases hp with ⟨rfl, q12⟩ | ⟨x13, rfl, q14, q15, q16⟩
  · refine lv_pop hx hb dL_law_637 rfl ?_
    refine lv_aload_n hx hb dL_law_638 rfl (lv_at hl 1 rfl) ?_
    refine lv_aload_n hx hb dL_law_639 rfl (lv_at hl 3 rfl) ?_
    refine lv_iload_n hx hb dL_law_640 rfl (lv_at hl 0 rfl) ?_
    refine lv_iconst (v := 1) hx hb dL_law_641 (by decide) ?_
    refine lv_iadd hx hb dL_law_642 ?_
    refine va_sld hx hb hX hbl hbA hS (hw_in (by omega) (by omega)) dL_law_643 ?_
    refine hw_cR (va_runV (As := [.int (xs (y3 + 1).toNatClampNeg)]) (rest := []) ⟨hx, hb, hml, hown, hts⟩ (k_X12_twins l D G1 mo (xs (y3 + 1).toNatClampNeg) _ rm udm kym lom wkm dkm lnm smm fim bem rkm rlm rwm clm dgm gm Rm ⟨by first | decide | omega, by first | decide | omega⟩ ⟨by first | decide | omega, by first | decide | omega⟩ ⟨by first | decide | omega, by first | decide | omega⟩ ⟨by first | decide | omega, by first | decide | omega⟩ ⟨by first | decide | omega, by first | decide | omega⟩ ⟨by first | decide | omega, by first | decide | omega⟩ ⟨by first | decide | omega, by first | decide | omega⟩ ⟨by first | decide | omega, by first | decide | omega⟩ ⟨by first | decide | omega, by first | decide | omega⟩ ⟨by first | decide | omega, by first | decide | omega⟩ ⟨by first | decide | omega, by first | decide | omega⟩ ⟨by first | decide | omega, by first | decide | omega⟩) (cwV 1 hts gL_law_X12_twins rfl rfl rfl (by decide +kernel) ⟨Nat.le_of_ble_eq_true rfl, Nat.le_of_ble_eq_true rfl⟩) (hw_pV (hw_rc (q := (RX12, TX12, 45)) hK vm rfl) hH hK hST hS (by decide) (hw_hG hGe1) vm) rfl rfl hl.1 rfl (lv_room (Nat.le_of_ble_eq_true rfl)) dL_law_644 ⟨by show _ ≤ 600000; omega, by show _ ≤ 7302250; omega⟩) (fun v hp => ?_)
    rcases hp with ⟨rfl, q17⟩ | ⟨x18, rfl, q19, q20, q21⟩
    · refine lv_pop hx hb dL_law_647 rfl ?_
      refine lv_goto (tgt := 1187) hx hb dL_law_648 (by decide) ?_
      refine W.widen (k := k + 20) (n := n + 80) (by first | omega | (show _ ≤ _; omega)) (by first | omega | (show _ ≤ _; omega)) ?_
      exact hk9 _ _ _ ⟨G1, rx, rm, pnx, pcx, ksx, scx, udm, kym, lom, wkm, dkm, lnm, smm, fim, bem, rkm, rlm, rwm, clm, dgm, fq, la, sz9, fla, fsz, th, tt, fth, hH, hGe1, wx, wm, gx, gm, Rx, vx, ⟨by first | decide | omega, by first | decide | omega⟩, vq, hRK, Rm, vm, ⟨by first | decide | omega, by first | decide | omega⟩, ⟨by first | decide | omega, by first | decide | omega⟩, ⟨by first | decide | omega, by first | decide | omega⟩, ⟨by first | decide | omega, by first | decide | omega⟩, ⟨by first | decide | omega, by first | decide | omega⟩, ⟨by first | decide | omega, by first | decide | omega⟩, ⟨by first | decide | omega, by first | decide | omega⟩, ⟨by first | decide | omega, by first | decide | omega⟩, ⟨by first | decide | omega, by first | decide | omega⟩, ⟨by first | decide | omega, by first | decide | omega⟩, ⟨by first | decide | omega, by first | decide | omega⟩, ⟨by first | decide | omega, by first | decide | omega⟩, vla, vsz, qsz, hrel, vth, hrt⟩ hS hl
    · refine lv_pop hx hb dL_law_647 rfl ?_
      refine lv_goto (tgt := 1187) hx hb dL_law_648 (by decide) ?_
      refine W.widen (k := k + 20) (n := n + 80) (by first | omega | (show _ ≤ _; omega)) (by first | omega | (show _ ≤ _; omega)) ?_
      exact hk9 _ _ _ ⟨G1, rx, rm, pnx, pcx, ksx, scx, udm, kym, lom, wkm, dkm, lnm, smm, fim, bem, rkm, rlm, rwm, clm, dgm, fq, la, sz9, fla, fsz, th, tt, fth, hH, hGe1, wx, wm, gx, gm, Rx, vx, ⟨by first | decide | omega, by first | decide | omega⟩, vq, hRK, Rm, vm, ⟨by first | decide | omega, by first | decide | omega⟩, ⟨by first | decide | omega, by first | decide | omega⟩, ⟨by first | decide | omega, by first | decide | omega⟩, ⟨by first | decide | omega, by first | decide | omega⟩, ⟨by first | decide | omega, by first | decide | omega⟩, ⟨by first | decide | omega, by first | decide | omega⟩, ⟨by first | decide | omega, by first | decide | omega⟩, ⟨by first | decide | omega, by first | decide | omega⟩, ⟨by first | decide | omega, by first | decide | omega⟩, ⟨by first | decide | omega, by first | decide | omega⟩, ⟨by first | decide | omega, by first | decide | omega⟩, ⟨by first | decide | omega, by first | decide | omega⟩, vla, vsz, qsz, hrel, vth, hrt⟩ hS hl
  · refine lv_pop hx hb dL_law_637 rfl ?_
    refine lv_aload_n hx hb dL_law_638 rfl (lv_at hl 1 rfl) ?_
    refine lv_aload_n hx hb dL_law_639 rfl (lv_at hl 3 rfl) ?_
    refine lv_iload_n hx hb dL_law_640 rfl (lv_at hl 0 rfl) ?_
    refine lv_iconst (v := 1) hx hb dL_law_641 (by decide) ?_
    refine lv_iadd hx hb dL_law_642 ?_
    refine va_sld hx hb hX hbl hbA hS (hw_in (by omega) (by omega)) dL_law_643 ?_
    refine hw_cR (va_runV (As := [.int (xs (y3 + 1).toNatClampNeg)]) (rest := []) ⟨hx, hb, hml, hown, hts⟩ (k_X12_twins l D G1 mo (xs (y3 + 1).toNatClampNeg) _ rm udm kym lom wkm dkm lnm smm fim bem rkm rlm rwm clm dgm gm Rm ⟨by first | decide | omega, by first | decide | omega⟩ ⟨by first | decide | omega, by first | decide | omega⟩ ⟨by first | decide | omega, by first | decide | omega⟩ ⟨by first | decide | omega, by first | decide | omega⟩ ⟨by first | decide | omega, by first | decide | omega⟩ ⟨by first | decide | omega, by first | decide | omega⟩ ⟨by first | decide | omega, by first | decide | omega⟩ ⟨by first | decide | omega, by first | decide | omega⟩ ⟨by first | decide | omega, by first | decide | omega⟩ ⟨by first | decide | omega, by first | decide | omega⟩ ⟨by first | decide | omega, by first | decide | omega⟩ ⟨by first | decide | omega, by first | decide | omega⟩) (cwV 1 hts gL_law_X12_twins rfl rfl rfl (by decide +kernel) ⟨Nat.le_of_ble_eq_true rfl, Nat.le_of_ble_eq_true rfl⟩) (hw_pV (hw_rc (q := (RX12, TX12, 45)) hK vm rfl) hH hK hST hS (by decide) (hw_hG hGe1) vm) rfl rfl hl.1 rfl (lv_room (Nat.le_of_ble_eq_true rfl)) dL_law_644 ⟨by show _ ≤ 600000; omega, by show _ ≤ 7302250; omega⟩) (fun v hp => ?_)
    rcases hp with ⟨rfl, q22⟩ | ⟨x23, rfl, q24, q25, q26⟩
    · refine lv_pop hx hb dL_law_647 rfl ?_
      refine lv_goto (tgt := 1187) hx hb dL_law_648 (by decide) ?_
      refine W.widen (k := k + 20) (n := n + 80) (by first | omega | (show _ ≤ _; omega)) (by first | omega | (show _ ≤ _; omega)) ?_
      exact hk9 _ _ _ ⟨G1, rx, rm, pnx, pcx, ksx, scx, udm, kym, lom, wkm, dkm, lnm, smm, fim, bem, rkm, rlm, rwm, clm, dgm, fq, la, sz9, fla, fsz, th, tt, fth, hH, hGe1, wx, wm, gx, gm, Rx, vx, ⟨by first | decide | omega, by first | decide | omega⟩, vq, hRK, Rm, vm, ⟨by first | decide | omega, by first | decide | omega⟩, ⟨by first | decide | omega, by first | decide | omega⟩, ⟨by first | decide | omega, by first | decide | omega⟩, ⟨by first | decide | omega, by first | decide | omega⟩, ⟨by first | decide | omega, by first | decide | omega⟩, ⟨by first | decide | omega, by first | decide | omega⟩, ⟨by first | decide | omega, by first | decide | omega⟩, ⟨by first | decide | omega, by first | decide | omega⟩, ⟨by first | decide | omega, by first | decide | omega⟩, ⟨by first | decide | omega, by first | decide | omega⟩, ⟨by first | decide | omega, by first | decide | omega⟩, ⟨by first | decide | omega, by first | decide | omega⟩, vla, vsz, qsz, hrel, vth, hrt⟩ hS hl
    · refine lv_pop hx hb dL_law_647 rfl ?_
      refine lv_goto (tgt := 1187) hx hb dL_law_648 (by decide) ?_
      refine W.widen (k := k + 20) (n := n + 80) (by first | omega | (show _ ≤ _; omega)) (by first | omega | (show _ ≤ _; omega)) ?_
      exact hk9 _ _ _ ⟨G1, rx, rm, pnx, pcx, ksx, scx, udm, kym, lom, wkm, dkm, lnm, smm, fim, bem, rkm, rlm, rwm, clm, dgm, fq, la, sz9, fla, fsz, th, tt, fth, hH, hGe1, wx, wm, gx, gm, Rx, vx, ⟨by first | decide | omega, by first | decide | omega⟩, vq, hRK, Rm, vm, ⟨by first | decide | omega, by first | decide | omega⟩, ⟨by first | decide | omega, by first | decide | omega⟩, ⟨by first | decide | omega, by first | decide | omega⟩, ⟨by first | decide | omega, by first | decide | omega⟩, ⟨by first | decide | omega, by first | decide | omega⟩, ⟨by first | decide | omega, by first | decide | omega⟩, ⟨by first | decide | omega, by first | decide | omega⟩, ⟨by first | decide | omega, by first | decide | omega⟩, ⟨by first | decide | omega, by first | decide | omega⟩, ⟨by first | decide | omega, by first | decide | omega⟩, ⟨by first | decide | omega, by first | decide | omega⟩, ⟨by first | decide | omega, by first | decide | omega⟩, vla, vsz, qsz, hrel, vth, hrt⟩ hS hl

set_option maxHeartbeats 40000000 in
set_option maxRecDepth 100000 in
theorem hw_case651 {p : Program} {e : Env} {s : State} {m : MethodId} {below : List Frame} {meth : Method} {c : Code} (l : Launch) {b L : Nat} {xs : Nat → Int32} {D : hw_D} {G : Nat → Nat} {H : Heap} {locs : List Loc} {x mo k n : Nat} {y3 : Int32} {ls : Array Slot} (hL : L ≤ 384) (hy0 : 0 ≤ y3.toInt ∧ y3.toInt ≤ 384) (hy : y3.toInt + 6 ≤ L) (hkc : k + 20 ≤ 600000) (hnc : n + 80 ≤ 7302250) (hx : p.tables.exec = Jvm.exec) (hb : c.code = code) (hr : meth.sig.returnType = ret) (hml : c.maxLocals = 4) (hown : s.vm.findClass R_law = some m.cls) (hts0 : ∀ w ∈ lw_tbl, w.before #[Value.ref b] s = true) (hts : ∀ w ∈ wsL_law, w.before #[Value.ref b] s = true) (hX : va_X b L xs s s.heap) (hbl : b < s.heap.size) (hlocks : meth.locks = false) (hG0 : G = fun _ => 0) (hK : va_K D.1 vwCl (hw_ty D.2.1) s) (hST : hw_ST D.2.2 G s.heap.size s) (hI : hw_I D G s H x mo) (hS : va_S (hw_AW G [1, 2, 3, 4, 5, 6, 7, 8, 9, 10, 11, 12, 13, 14, 15, 16, 17, 18, 19, 20, 21, 22, 23, 24, 25, 26, 27, 28, 29, 30, 31, 32, 40, 42, 44, 45, 46, 48, 49, 50, 51, 53, 55, 58, 59, 67, 68, 69, 70, 71, 72, 73, 74, 75, 76, 77, 78, 79, 80, 81, 82, 83, 84, 101, 102, 103, 104, 105, 106, 107, 108, 109, 127, 128, 129, 132] s.heap.size) s.heap H locs) (hl : lv_has ls 4 [(3, .int y3), (2, .ref mo), (1, .ref x), (0, .ref b)]) (hk9 : ∀ (H1 : Heap) (locs1 : List Loc) (ls1 : Array Slot), hw_I D G s H1 x mo → va_S (hw_AW G [1, 2, 3, 4, 5, 6, 7, 8, 9, 10, 11, 12, 13, 14, 15, 16, 17, 18, 19, 20, 21, 22, 23, 24, 25, 26, 27, 28, 29, 30, 31, 32, 40, 42, 44, 45, 46, 48, 49, 50, 51, 53, 55, 58, 59, 67, 68, 69, 70, 71, 72, 73, 74, 75, 76, 77, 78, 79, 80, 81, 82, 83, 84, 101, 102, 103, 104, 105, 106, 107, 108, 109, 127, 128, 129, 132] s.heap.size) s.heap H1 locs1 → lv_has ls1 4 [(3, .int y3), (2, .ref mo), (1, .ref x), (0, .ref b)] → W p l e room_1 s m #[Value.ref b] below meth c H1 locs1 (k + 20) (n + 80) (lw_Z below #[Value.ref b] s) (F0 m 1187 ls1 [])) : W p l e room_1 s m #[Value.ref b] below meth c H locs k n (lw_Z below #[Value.ref b] s) (F0 m 651 ls []) := by
  have hH0 : hw_HT D G s.heap := fun a h => absurd (by rw [hG0]) h
  have hbA : ¬ (hw_AW G [1, 2, 3, 4, 5, 6, 7, 8, 9, 10, 11, 12, 13, 14, 15, 16, 17, 18, 19, 20, 21, 22, 23, 24, 25, 26, 27, 28, 29, 30, 31, 32, 40, 42, 44, 45, 46, 48, 49, 50, 51, 53, 55, 58, 59, 67, 68, 69, 70, 71, 72, 73, 74, 75, 76, 77, 78, 79, 80, 81, 82, 83, 84, 101, 102, 103, 104, 105, 106, 107, 108, 109, 127, 128, 129, 132] s.heap.size) b := hw_AWn (k := 0) (by rw [hG0]) (by decide) hbl
  have hLi : (Int32.ofNat L).toInt = (L : Int) := nI_toInt (by omega)
  refine hw_I_elim hI ?_
  intro G1 rx rm pnx pcx ksx scx udm kym lom wkm dkm lnm smm fim bem rkm rlm rwm clm dgm fq la sz9 fla fsz th tt fth hH hGe1 wx wm gx gm Rx vx gsc vq hRK Rm vm gm0 gm1 gm2 gm3 gm4 gm5 gm6 gm7 gm8 gm9 gm10 gm11 vla vsz qsz hrel vth hrt
  have hHs := hH0
  have hz24 := hw_hz24 hrel qsz
  have qq := hRK.q
  refine lv_aload_n hx hb dL_law_651 rfl (lv_at hl 2 rfl) ?_
  refine lv_aload_n hx hb dL_law_652 rfl (lv_at hl 3 rfl) ?_
  refine lv_iload_n hx hb dL_law_653 rfl (lv_at hl 0 rfl) ?_
  refine lv_iconst (v := 1) hx hb dL_law_654 (by decide) ?_
  refine lv_iadd hx hb dL_law_655 ?_
  have t1 : (y3 + 1).toInt = y3.toInt + 1 := hw_add rfl rfl (by omega) (by omega)
  refine va_sld hx hb hX hbl hbA hS (hw_in (by omega) (by omega)) dL_law_656 ?_
  obtain ⟨r2, kc_3, lc_4, wc_5, dk_6, v7, R8, g9, g10, g11⟩ := hH.oC (hw_RX_0 Rx)
  refine hw_cM0 (va_runV (As := [.int (xs (y3 + 1).toNatClampNeg)]) (rest := []) ⟨hx, hb, hml, hown, hts⟩ (k_X11_match l D G1 x (xs (y3 + 1).toNatClampNeg) _ rx pnx pcx ksx scx r2 kc_3 lc_4 wc_5 dk_6 gx Rx ⟨by first | decide | omega, by first | decide | omega⟩ R8 ⟨by first | decide | omega, by first | decide | omega⟩ ⟨by first | decide | omega, by first | decide | omega⟩ ⟨by first | decide | omega, by first | decide | omega⟩) (cwV 1 hts gL_law_X11_match rfl rfl rfl (by decide +kernel) ⟨Nat.le_of_ble_eq_true rfl, Nat.le_of_ble_eq_true rfl⟩) (hw_pV (hw_rc (q := (RX11, TX11, 14)) hK vx rfl) hH hK hST hS (by decide) (hw_hG hGe1) ⟨vx, v7⟩) rfl rfl hl.1 rfl (lv_room (Nat.le_of_ble_eq_true rfl)) dL_law_657 ⟨by show _ ≤ 600000; omega, by show _ ≤ 7302250; omega⟩) hS (hw_AWsub (by decide) hGe1 hS.1) (fun v H locs hp hz hk hS => ?_)
  obtain ⟨x12, rfl, hH, v13, v14⟩ := hp
  have hRK := hw_RK3.kept hRK (fun q9 h9 l9 => hk q9 l9 (by rcases h9 with h9 | h9 <;> exact hw_AWn h9 (by decide) l9))
  have vq := va_at.kept vq (hk _ (hw_lt vq) (hw_AWn (hw_RX_13 Rx) (by decide) (hw_lt vq)))
  have vm := va_at.kept vm (hk _ (hw_lt vm) (hw_AWn gm (by decide) (hw_lt vm)))
  have vla := va_at.kept vla (hk _ (hw_lt vla) (hw_AWn (hw_RM_41 Rm) (by decide) (hw_lt vla)))
  have vsz := va_at.kept vsz (hk _ (hw_lt vsz) (hw_AWn (hw_RM_42 Rm) (by decide) (hw_lt vsz)))
  have vth := va_at.kept vth (hk _ (hw_lt vth) (hw_AWn (hw_RM_43 Rm) (by decide) (hw_lt vth)))
  refine lv_pop hx hb dL_law_660 rfl ?_
  refine lv_aload_n hx hb dL_law_661 rfl (lv_at hl 1 rfl) ?_
  refine lv_aload_n hx hb dL_law_662 rfl (lv_at hl 3 rfl) ?_
  refine lv_iload_n hx hb dL_law_663 rfl (lv_at hl 0 rfl) ?_
  refine lv_iconst (v := 1) hx hb dL_law_664 (by decide) ?_
  refine lv_iadd hx hb dL_law_665 ?_
  refine va_sld hx hb hX hbl hbA hS (hw_in (by omega) (by omega)) dL_law_666 ?_
  refine hw_cM0 (va_runV (As := [.int (xs (y3 + 1).toNatClampNeg)]) (rest := []) ⟨hx, hb, hml, hown, hts⟩ (k_X12_match l D G1 mo (xs (y3 + 1).toNatClampNeg) _ rm udm kym lom wkm dkm lnm smm fim bem rkm rlm rwm clm dgm gm Rm ⟨by first | decide | omega, by first | decide | omega⟩ ⟨by first | decide | omega, by first | decide | omega⟩ ⟨by first | decide | omega, by first | decide | omega⟩ ⟨by first | decide | omega, by first | decide | omega⟩ ⟨by first | decide | omega, by first | decide | omega⟩ ⟨by first | decide | omega, by first | decide | omega⟩ ⟨by first | decide | omega, by first | decide | omega⟩ ⟨by first | decide | omega, by first | decide | omega⟩ ⟨by first | decide | omega, by first | decide | omega⟩ ⟨by first | decide | omega, by first | decide | omega⟩ ⟨by first | decide | omega, by first | decide | omega⟩ ⟨by first | decide | omega, by first | decide | omega⟩) (cwV 1 hts gL_law_X12_match rfl rfl rfl (by decide +kernel) ⟨Nat.le_of_ble_eq_true rfl, Nat.le_of_ble_eq_true rfl⟩) (hw_pV (hw_rc (q := (RX12, TX12, 45)) hK vm rfl) hH hK hST hS (by decide) (hw_hG hGe1) vm) rfl rfl hl.1 rfl (lv_room (Nat.le_of_ble_eq_true rfl)) dL_law_667 ⟨by show _ ≤ 600000; omega, by show _ ≤ 7302250; omega⟩) hS (hw_AWsub (by decide) hGe1 hS.1) (fun v H locs hp hz hk hS => ?_)
  obtain ⟨x15, rfl, hH, v16, q17, q18⟩ := hp
  have hRK := hw_RK3.kept hRK (fun q9 h9 l9 => hk q9 l9 (by rcases h9 with h9 | h9 <;> exact hw_AWn h9 (by decide) l9))
  have v13 := va_at.kept v13 (hk _ (hw_lt v13) (hw_AWn gx (by decide) (hw_lt v13)))
  have vq := va_at.kept vq (hk _ (hw_lt vq) (hw_AWn (hw_RX_13 Rx) (by decide) (hw_lt vq)))
  have vla := va_at.kept vla (hk _ (hw_lt vla) (hw_AWn (hw_RM_41 Rm) (by decide) (hw_lt vla)))
  have vsz := va_at.kept vsz (hk _ (hw_lt vsz) (hw_AWn (hw_RM_42 Rm) (by decide) (hw_lt vsz)))
  have vth := va_at.kept vth (hk _ (hw_lt vth) (hw_AWn (hw_RM_43 Rm) (by decide) (hw_lt vth)))
  have v14 := va_at.kept v14 (hk _ (hw_lt v14) (hw_AWn (hw_RX_0 Rx) (by decide) (hw_lt v14)))
  refine lv_pop hx hb dL_law_670 rfl ?_
  refine lv_goto (tgt := 1187) hx hb dL_law_671 (by decide) ?_
  refine W.widen (k := k + 20) (n := n + 80) (by first | omega | (show _ ≤ _; omega)) (by first | omega | (show _ ≤ _; omega)) ?_
  exact hk9 _ _ _ ⟨G1, rx, rm, pnx, pcx, ksx, scx, udm, kym, lom, wkm, dkm, lnm, smm, fim, bem, rkm, rlm, rwm, clm, dgm, fq, la, sz9, fla, fsz, th, tt, fth, hH, hGe1, wx, wm, gx, gm, Rx, v13, ⟨by first | decide | omega, by first | decide | omega⟩, vq, hRK, Rm, v16, ⟨by first | decide | omega, by first | decide | omega⟩, ⟨by first | decide | omega, by first | decide | omega⟩, ⟨by first | decide | omega, by first | decide | omega⟩, ⟨by first | decide | omega, by first | decide | omega⟩, ⟨by first | decide | omega, by first | decide | omega⟩, ⟨by first | decide | omega, by first | decide | omega⟩, ⟨by first | decide | omega, by first | decide | omega⟩, ⟨by first | decide | omega, by first | decide | omega⟩, ⟨by first | decide | omega, by first | decide | omega⟩, ⟨by first | decide | omega, by first | decide | omega⟩, ⟨by first | decide | omega, by first | decide | omega⟩, ⟨by first | decide | omega, by first | decide | omega⟩, vla, vsz, qsz, hrel, vth, hrt⟩ hS hl

set_option maxHeartbeats 40000000 in
set_option maxRecDepth 100000 in
theorem hw_case674 {p : Program} {e : Env} {s : State} {m : MethodId} {below : List Frame} {meth : Method} {c : Code} (l : Launch) {b L : Nat} {xs : Nat → Int32} {D : hw_D} {G : Nat → Nat} {H : Heap} {locs : List Loc} {x mo k n : Nat} {y3 : Int32} {ls : Array Slot} (hL : L ≤ 384) (hy0 : 0 ≤ y3.toInt ∧ y3.toInt ≤ 384) (hy : y3.toInt + 6 ≤ L) (hkc : k + 20 ≤ 600000) (hnc : n + 80 ≤ 7302250) (hx : p.tables.exec = Jvm.exec) (hb : c.code = code) (hr : meth.sig.returnType = ret) (hml : c.maxLocals = 4) (hown : s.vm.findClass R_law = some m.cls) (hts0 : ∀ w ∈ lw_tbl, w.before #[Value.ref b] s = true) (hts : ∀ w ∈ wsL_law, w.before #[Value.ref b] s = true) (hX : va_X b L xs s s.heap) (hbl : b < s.heap.size) (hlocks : meth.locks = false) (hG0 : G = fun _ => 0) (hK : va_K D.1 vwCl (hw_ty D.2.1) s) (hST : hw_ST D.2.2 G s.heap.size s) (hI : hw_I D G s H x mo) (hS : va_S (hw_AW G [1, 2, 3, 4, 5, 6, 7, 8, 9, 10, 11, 12, 13, 14, 15, 16, 17, 18, 19, 20, 21, 22, 23, 24, 25, 26, 27, 28, 29, 30, 31, 32, 40, 42, 44, 45, 46, 48, 49, 50, 51, 53, 55, 58, 59, 67, 68, 69, 70, 71, 72, 73, 74, 75, 76, 77, 78, 79, 80, 81, 82, 83, 84, 101, 102, 103, 104, 105, 106, 107, 108, 109, 127, 128, 129, 132] s.heap.size) s.heap H locs) (hl : lv_has ls 4 [(3, .int y3), (2, .ref mo), (1, .ref x), (0, .ref b)]) (hk9 : ∀ (H1 : Heap) (locs1 : List Loc) (ls1 : Array Slot), hw_I D G s H1 x mo → va_S (hw_AW G [1, 2, 3, 4, 5, 6, 7, 8, 9, 10, 11, 12, 13, 14, 15, 16, 17, 18, 19, 20, 21, 22, 23, 24, 25, 26, 27, 28, 29, 30, 31, 32, 40, 42, 44, 45, 46, 48, 49, 50, 51, 53, 55, 58, 59, 67, 68, 69, 70, 71, 72, 73, 74, 75, 76, 77, 78, 79, 80, 81, 82, 83, 84, 101, 102, 103, 104, 105, 106, 107, 108, 109, 127, 128, 129, 132] s.heap.size) s.heap H1 locs1 → lv_has ls1 4 [(3, .int y3), (2, .ref mo), (1, .ref x), (0, .ref b)] → W p l e room_1 s m #[Value.ref b] below meth c H1 locs1 (k + 20) (n + 80) (lw_Z below #[Value.ref b] s) (F0 m 1187 ls1 [])) : W p l e room_1 s m #[Value.ref b] below meth c H locs k n (lw_Z below #[Value.ref b] s) (F0 m 674 ls []) := by
  have hH0 : hw_HT D G s.heap := fun a h => absurd (by rw [hG0]) h
  have hbA : ¬ (hw_AW G [1, 2, 3, 4, 5, 6, 7, 8, 9, 10, 11, 12, 13, 14, 15, 16, 17, 18, 19, 20, 21, 22, 23, 24, 25, 26, 27, 28, 29, 30, 31, 32, 40, 42, 44, 45, 46, 48, 49, 50, 51, 53, 55, 58, 59, 67, 68, 69, 70, 71, 72, 73, 74, 75, 76, 77, 78, 79, 80, 81, 82, 83, 84, 101, 102, 103, 104, 105, 106, 107, 108, 109, 127, 128, 129, 132] s.heap.size) b := hw_AWn (k := 0) (by rw [hG0]) (by decide) hbl
  have hLi : (Int32.ofNat L).toInt = (L : Int) := nI_toInt (by omega)
  refine hw_I_elim hI ?_
  intro G1 rx rm pnx pcx ksx scx udm kym lom wkm dkm lnm smm fim bem rkm rlm rwm clm dgm fq la sz9 fla fsz th tt fth hH hGe1 wx wm gx gm Rx vx gsc vq hRK Rm vm gm0 gm1 gm2 gm3 gm4 gm5 gm6 gm7 gm8 gm9 gm10 gm11 vla vsz qsz hrel vth hrt
  have hHs := hH0
  have hz24 := hw_hz24 hrel qsz
  have qq := hRK.q
  refine lv_aload_n hx hb dL_law_674 rfl (lv_at hl 2 rfl) ?_
  refine lv_aload_n hx hb dL_law_675 rfl (lv_at hl 3 rfl) ?_
  refine lv_iload_n hx hb dL_law_676 rfl (lv_at hl 0 rfl) ?_
  refine lv_iconst (v := 1) hx hb dL_law_677 (by decide) ?_
  refine lv_iadd hx hb dL_law_678 ?_
  have t1 : (y3 + 1).toInt = y3.toInt + 1 := hw_add rfl rfl (by omega) (by omega)
  refine va_sld hx hb hX hbl hbA hS (hw_in (by omega) (by omega)) dL_law_679 ?_
  refine hw_cM0 (va_runV (As := [.int (xs (y3 + 1).toNatClampNeg)]) (rest := []) ⟨hx, hb, hml, hown, hts⟩ (k_X11_work l D G1 x (xs (y3 + 1).toNatClampNeg) _ gx) (cwV 1 hts gL_law_X11_work rfl rfl rfl (by decide +kernel) ⟨Nat.le_of_ble_eq_true rfl, Nat.le_of_ble_eq_true rfl⟩) (hw_pV (hw_rc (q := (RX11, TX11, 14)) hK vx rfl) hH hK hST hS (by decide) (hw_hG hGe1) trivial) rfl rfl hl.1 rfl (lv_room (Nat.le_of_ble_eq_true rfl)) dL_law_680 ⟨by show _ ≤ 600000; omega, by show _ ≤ 7302250; omega⟩) hS (hw_AWsub (by decide) hGe1 hS.1) (fun v H locs hp hz hk hS => ?_)
  rcases hp with ⟨rfl, hH, q2⟩ | ⟨x3, rfl, hH, q4⟩
  · have hRK := hw_RK3.kept hRK (fun q9 h9 l9 => hk q9 l9 (by rcases h9 with h9 | h9 <;> exact hw_AWn h9 (by decide) l9))
    have vx := va_at.kept vx (hk _ (hw_lt vx) (hw_AWn gx (by decide) (hw_lt vx)))
    have vq := va_at.kept vq (hk _ (hw_lt vq) (hw_AWn (hw_RX_13 Rx) (by decide) (hw_lt vq)))
    have vm := va_at.kept vm (hk _ (hw_lt vm) (hw_AWn gm (by decide) (hw_lt vm)))
    have vla := va_at.kept vla (hk _ (hw_lt vla) (hw_AWn (hw_RM_41 Rm) (by decide) (hw_lt vla)))
    have vsz := va_at.kept vsz (hk _ (hw_lt vsz) (hw_AWn (hw_RM_42 Rm) (by decide) (hw_lt vsz)))
    have vth := va_at.kept vth (hk _ (hw_lt vth) (hw_AWn (hw_RM_43 Rm) (by decide) (hw_lt vth)))
    refine lv_pop hx hb dL_law_683 rfl ?_
    refine lv_aload_n hx hb dL_law_684 rfl (lv_at hl 1 rfl) ?_
    refine lv_aload_n hx hb dL_law_685 rfl (lv_at hl 3 rfl) ?_
    refine lv_iload_n hx hb dL_law_686 rfl (lv_at hl 0 rfl) ?_
    refine lv_iconst (v := 1) hx hb dL_law_687 (by decide) ?_
    refine lv_iadd hx hb dL_law_688 ?_
    refine va_sld hx hb hX hbl hbA hS (hw_in (by omega) (by omega)) dL_law_689 ?_
    refine hw_cM0 (va_runV (As := [.int (xs (y3 + 1).toNatClampNeg)]) (rest := []) ⟨hx, hb, hml, hown, hts⟩ (k_X12_work l D G1 mo (xs (y3 + 1).toNatClampNeg) _ rm udm kym lom wkm dkm lnm smm fim bem rkm rlm rwm clm dgm gm Rm ⟨by first | decide | omega, by first | decide | omega⟩ ⟨by first | decide | omega, by first | decide | omega⟩ ⟨by first | decide | omega, by first | decide | omega⟩ ⟨by first | decide | omega, by first | decide | omega⟩ ⟨by first | decide | omega, by first | decide | omega⟩ ⟨by first | decide | omega, by first | decide | omega⟩ ⟨by first | decide | omega, by first | decide | omega⟩ ⟨by first | decide | omega, by first | decide | omega⟩ ⟨by first | decide | omega, by first | decide | omega⟩ ⟨by first | decide | omega, by first | decide | omega⟩ ⟨by first | decide | omega, by first | decide | omega⟩ ⟨by first | decide | omega, by first | decide | omega⟩) (cwV 1 hts gL_law_X12_work rfl rfl rfl (by decide +kernel) ⟨Nat.le_of_ble_eq_true rfl, Nat.le_of_ble_eq_true rfl⟩) (hw_pV (hw_rc (q := (RX12, TX12, 45)) hK vm rfl) hH hK hST hS (by decide) (hw_hG hGe1) vm) rfl rfl hl.1 rfl (lv_room (Nat.le_of_ble_eq_true rfl)) dL_law_690 ⟨by show _ ≤ 600000; omega, by show _ ≤ 7302250; omega⟩) hS (hw_AWsub (by decide) hGe1 hS.1) (fun v H locs hp hz hk hS => ?_)
    rcases hp with ⟨rfl, hH, v5, q6⟩ | ⟨x7, rfl, hH, v8, q9, q10⟩
    · have hRK := hw_RK3.kept hRK (fun q9 h9 l9 => hk q9 l9 (by rcases h9 with h9 | h9 <;> exact hw_AWn h9 (by decide) l9))
      have vx := va_at.kept vx (hk _ (hw_lt vx) (hw_AWn gx (by decide) (hw_lt vx)))
      have vq := va_at.kept vq (hk _ (hw_lt vq) (hw_AWn (hw_RX_13 Rx) (by decide) (hw_lt vq)))
      have vla := va_at.kept vla (hk _ (hw_lt vla) (hw_AWn (hw_RM_41 Rm) (by decide) (hw_lt vla)))
      have vsz := va_at.kept vsz (hk _ (hw_lt vsz) (hw_AWn (hw_RM_42 Rm) (by decide) (hw_lt vsz)))
      have vth := va_at.kept vth (hk _ (hw_lt vth) (hw_AWn (hw_RM_43 Rm) (by decide) (hw_lt vth)))
      refine lv_pop hx hb dL_law_693 rfl ?_
      refine lv_goto (tgt := 1187) hx hb dL_law_694 (by decide) ?_
      refine W.widen (k := k + 20) (n := n + 80) (by first | omega | (show _ ≤ _; omega)) (by first | omega | (show _ ≤ _; omega)) ?_
      exact hk9 _ _ _ ⟨G1, rx, rm, pnx, pcx, ksx, scx, udm, kym, lom, wkm, dkm, lnm, smm, fim, bem, rkm, rlm, rwm, clm, dgm, fq, la, sz9, fla, fsz, th, tt, fth, hH, hGe1, wx, wm, gx, gm, Rx, vx, ⟨by first | decide | omega, by first | decide | omega⟩, vq, hRK, Rm, v5, ⟨by first | decide | omega, by first | decide | omega⟩, ⟨by first | decide | omega, by first | decide | omega⟩, ⟨by first | decide | omega, by first | decide | omega⟩, ⟨by first | decide | omega, by first | decide | omega⟩, ⟨by first | decide | omega, by first | decide | omega⟩, ⟨by first | decide | omega, by first | decide | omega⟩, ⟨by first | decide | omega, by first | decide | omega⟩, ⟨by first | decide | omega, by first | decide | omega⟩, ⟨by first | decide | omega, by first | decide | omega⟩, ⟨by first | decide | omega, by first | decide | omega⟩, ⟨by first | decide | omega, by first | decide | omega⟩, ⟨by first | decide | omega, by first | decide | omega⟩, vla, vsz, qsz, hrel, vth, hrt⟩ hS hl
    · have hRK := hw_RK3.kept hRK (fun q9 h9 l9 => hk q9 l9 (by rcases h9 with h9 | h9 <;> exact hw_AWn h9 (by decide) l9))
      have vx := va_at.kept vx (hk _ (hw_lt vx) (hw_AWn gx (by decide) (hw_lt vx)))
      have vq := va_at.kept vq (hk _ (hw_lt vq) (hw_AWn (hw_RX_13 Rx) (by decide) (hw_lt vq)))
      have vla := va_at.kept vla (hk _ (hw_lt vla) (hw_AWn (hw_RM_41 Rm) (by decide) (hw_lt vla)))
      have vsz := va_at.kept vsz (hk _ (hw_lt vsz) (hw_AWn (hw_RM_42 Rm) (by decide) (hw_lt vsz)))
      have vth := va_at.kept vth (hk _ (hw_lt vth) (hw_AWn (hw_RM_43 Rm) (by decide) (hw_lt vth)))
      refine lv_pop hx hb dL_law_693 rfl ?_
      refine lv_goto (tgt := 1187) hx hb dL_law_694 (by decide) ?_
      refine W.widen (k := k + 20) (n := n + 80) (by first | omega | (show _ ≤ _; omega)) (by first | omega | (show _ ≤ _; omega)) ?_
      exact hk9 _ _ _ ⟨G1, rx, rm, pnx, pcx, ksx, scx, udm, kym, lom, wkm, dkm, lnm, smm, fim, bem, rkm, rlm, rwm, clm, dgm, fq, la, sz9, fla, fsz, th, tt, fth, hH, hGe1, wx, wm, gx, gm, Rx, vx, ⟨by first | decide | omega, by first | decide | omega⟩, vq, hRK, Rm, v8, ⟨by first | decide | omega, by first | decide | omega⟩, ⟨by first | decide | omega, by first | decide | omega⟩, ⟨by first | decide | omega, by first | decide | omega⟩, ⟨by first | decide | omega, by first | decide | omega⟩, ⟨by first | decide | omega, by first | decide | omega⟩, ⟨by first | decide | omega, by first | decide | omega⟩, ⟨by first | decide | omega, by first | decide | omega⟩, ⟨by first | decide | omega, by first | decide | omega⟩, ⟨by first | decide | omega, by first | decide | omega⟩, ⟨by first | decide | omega, by first | decide | omega⟩, ⟨by first | decide | omega, by first | decide | omega⟩, ⟨by first | decide | omega, by first | decide | omega⟩, vla, vsz, qsz, hrel, vth, hrt⟩ hS hl
  · have hRK := hw_RK3.kept hRK (fun q9 h9 l9 => hk q9 l9 (by rcases h9 with h9 | h9 <;> exact hw_AWn h9 (by decide) l9))
    have vx := va_at.kept vx (hk _ (hw_lt vx) (hw_AWn gx (by decide) (hw_lt vx)))
    have vq := va_at.kept vq (hk _ (hw_lt vq) (hw_AWn (hw_RX_13 Rx) (by decide) (hw_lt vq)))
    have vm := va_at.kept vm (hk _ (hw_lt vm) (hw_AWn gm (by decide) (hw_lt vm)))
    have vla := va_at.kept vla (hk _ (hw_lt vla) (hw_AWn (hw_RM_41 Rm) (by decide) (hw_lt vla)))
    have vsz := va_at.kept vsz (hk _ (hw_lt vsz) (hw_AWn (hw_RM_42 Rm) (by decide) (hw_lt vsz)))
    have vth := va_at.kept vth (hk _ (hw_lt vth) (hw_AWn (hw_RM_43 Rm) (by decide) (hw_lt vth)))
    refine lv_pop hx hb dL_law_683 rfl ?_
    refine lv_aload_n hx hb dL_law_684 rfl (lv_at hl 1 rfl) ?_
    refine lv_aload_n hx hb dL_law_685 rfl (lv_at hl 3 rfl) ?_
    refine lv_iload_n hx hb dL_law_686 rfl (lv_at hl 0 rfl) ?_
    refine lv_iconst (v := 1) hx hb dL_law_687 (by decide) ?_
    refine lv_iadd hx hb dL_law_688 ?_
    refine va_sld hx hb hX hbl hbA hS (hw_in (by omega) (by omega)) dL_law_689 ?_
    refine hw_cM0 (va_runV (As := [.int (xs (y3 + 1).toNatClampNeg)]) (rest := []) ⟨hx, hb, hml, hown, hts⟩ (k_X12_work l D G1 mo (xs (y3 + 1).toNatClampNeg) _ rm udm kym lom wkm dkm lnm smm fim bem rkm rlm rwm clm dgm gm Rm ⟨by first | decide | omega, by first | decide | omega⟩ ⟨by first | decide | omega, by first | decide | omega⟩ ⟨by first | decide | omega, by first | decide | omega⟩ ⟨by first | decide | omega, by first | decide | omega⟩ ⟨by first | decide | omega, by first | decide | omega⟩ ⟨by first | decide | omega, by first | decide | omega⟩ ⟨by first | decide | omega, by first | decide | omega⟩ ⟨by first | decide | omega, by first | decide | omega⟩ ⟨by first | decide | omega, by first | decide | omega⟩ ⟨by first | decide | omega, by first | decide | omega⟩ ⟨by first | decide | omega, by first | decide | omega⟩ ⟨by first | decide | omega, by first | decide | omega⟩) (cwV 1 hts gL_law_X12_work rfl rfl rfl (by decide +kernel) ⟨Nat.le_of_ble_eq_true rfl, Nat.le_of_ble_eq_true rfl⟩) (hw_pV (hw_rc (q := (RX12, TX12, 45)) hK vm rfl) hH hK hST hS (by decide) (hw_hG hGe1) vm) rfl rfl hl.1 rfl (lv_room (Nat.le_of_ble_eq_true rfl)) dL_law_690 ⟨by show _ ≤ 600000; omega, by show _ ≤ 7302250; omega⟩) hS (hw_AWsub (by decide) hGe1 hS.1) (fun v H locs hp hz hk hS => ?_)
    rcases hp with ⟨rfl, hH, v11, q12⟩ | ⟨x13, rfl, hH, v14, q15, q16⟩
    · have hRK := hw_RK3.kept hRK (fun q9 h9 l9 => hk q9 l9 (by rcases h9 with h9 | h9 <;> exact hw_AWn h9 (by decide) l9))
      have vx := va_at.kept vx (hk _ (hw_lt vx) (hw_AWn gx (by decide) (hw_lt vx)))
      have vq := va_at.kept vq (hk _ (hw_lt vq) (hw_AWn (hw_RX_13 Rx) (by decide) (hw_lt vq)))
      have vla := va_at.kept vla (hk _ (hw_lt vla) (hw_AWn (hw_RM_41 Rm) (by decide) (hw_lt vla)))
      have vsz := va_at.kept vsz (hk _ (hw_lt vsz) (hw_AWn (hw_RM_42 Rm) (by decide) (hw_lt vsz)))
      have vth := va_at.kept vth (hk _ (hw_lt vth) (hw_AWn (hw_RM_43 Rm) (by decide) (hw_lt vth)))
      refine lv_pop hx hb dL_law_693 rfl ?_
      refine lv_goto (tgt := 1187) hx hb dL_law_694 (by decide) ?_
      refine W.widen (k := k + 20) (n := n + 80) (by first | omega | (show _ ≤ _; omega)) (by first | omega | (show _ ≤ _; omega)) ?_
      exact hk9 _ _ _ ⟨G1, rx, rm, pnx, pcx, ksx, scx, udm, kym, lom, wkm, dkm, lnm, smm, fim, bem, rkm, rlm, rwm, clm, dgm, fq, la, sz9, fla, fsz, th, tt, fth, hH, hGe1, wx, wm, gx, gm, Rx, vx, ⟨by first | decide | omega, by first | decide | omega⟩, vq, hRK, Rm, v11, ⟨by first | decide | omega, by first | decide | omega⟩, ⟨by first | decide | omega, by first | decide | omega⟩, ⟨by first | decide | omega, by first | decide | omega⟩, ⟨by first | decide | omega, by first | decide | omega⟩, ⟨by first | decide | omega, by first | decide | omega⟩, ⟨by first | decide | omega, by first | decide | omega⟩, ⟨by first | decide | omega, by first | decide | omega⟩, ⟨by first | decide | omega, by first | decide | omega⟩, ⟨by first | decide | omega, by first | decide | omega⟩, ⟨by first | decide | omega, by first | decide | omega⟩, ⟨by first | decide | omega, by first | decide | omega⟩, ⟨by first | decide | omega, by first | decide | omega⟩, vla, vsz, qsz, hrel, vth, hrt⟩ hS hl
    · have hRK := hw_RK3.kept hRK (fun q9 h9 l9 => hk q9 l9 (by rcases h9 with h9 | h9 <;> exact hw_AWn h9 (by decide) l9))
      have vx := va_at.kept vx (hk _ (hw_lt vx) (hw_AWn gx (by decide) (hw_lt vx)))
      have vq := va_at.kept vq (hk _ (hw_lt vq) (hw_AWn (hw_RX_13 Rx) (by decide) (hw_lt vq)))
      have vla := va_at.kept vla (hk _ (hw_lt vla) (hw_AWn (hw_RM_41 Rm) (by decide) (hw_lt vla)))
      have vsz := va_at.kept vsz (hk _ (hw_lt vsz) (hw_AWn (hw_RM_42 Rm) (by decide) (hw_lt vsz)))
      have vth := va_at.kept vth (hk _ (hw_lt vth) (hw_AWn (hw_RM_43 Rm) (by decide) (hw_lt vth)))
      refine lv_pop hx hb dL_law_693 rfl ?_
      refine lv_goto (tgt := 1187) hx hb dL_law_694 (by decide) ?_
      refine W.widen (k := k + 20) (n := n + 80) (by first | omega | (show _ ≤ _; omega)) (by first | omega | (show _ ≤ _; omega)) ?_
      exact hk9 _ _ _ ⟨G1, rx, rm, pnx, pcx, ksx, scx, udm, kym, lom, wkm, dkm, lnm, smm, fim, bem, rkm, rlm, rwm, clm, dgm, fq, la, sz9, fla, fsz, th, tt, fth, hH, hGe1, wx, wm, gx, gm, Rx, vx, ⟨by first | decide | omega, by first | decide | omega⟩, vq, hRK, Rm, v14, ⟨by first | decide | omega, by first | decide | omega⟩, ⟨by first | decide | omega, by first | decide | omega⟩, ⟨by first | decide | omega, by first | decide | omega⟩, ⟨by first | decide | omega, by first | decide | omega⟩, ⟨by first | decide | omega, by first | decide | omega⟩, ⟨by first | decide | omega, by first | decide | omega⟩, ⟨by first | decide | omega, by first | decide | omega⟩, ⟨by first | decide | omega, by first | decide | omega⟩, ⟨by first | decide | omega, by first | decide | omega⟩, ⟨by first | decide | omega, by first | decide | omega⟩, ⟨by first | decide | omega, by first | decide | omega⟩, ⟨by first | decide | omega, by first | decide | omega⟩, vla, vsz, qsz, hrel, vth, hrt⟩ hS hl

set_option maxHeartbeats 40000000 in
set_option maxRecDepth 100000 in
theorem hw_case697 {p : Program} {e : Env} {s : State} {m : MethodId} {below : List Frame} {meth : Method} {c : Code} (l : Launch) {b L : Nat} {xs : Nat → Int32} {D : hw_D} {G : Nat → Nat} {H : Heap} {locs : List Loc} {x mo k n : Nat} {y3 : Int32} {ls : Array Slot} (hL : L ≤ 384) (hy0 : 0 ≤ y3.toInt ∧ y3.toInt ≤ 384) (hy : y3.toInt + 6 ≤ L) (hkc : k + 20 ≤ 600000) (hnc : n + 80 ≤ 7302250) (hx : p.tables.exec = Jvm.exec) (hb : c.code = code) (hr : meth.sig.returnType = ret) (hml : c.maxLocals = 4) (hown : s.vm.findClass R_law = some m.cls) (hts0 : ∀ w ∈ lw_tbl, w.before #[Value.ref b] s = true) (hts : ∀ w ∈ wsL_law, w.before #[Value.ref b] s = true) (hX : va_X b L xs s s.heap) (hbl : b < s.heap.size) (hlocks : meth.locks = false) (hG0 : G = fun _ => 0) (hK : va_K D.1 vwCl (hw_ty D.2.1) s) (hST : hw_ST D.2.2 G s.heap.size s) (hI : hw_I D G s H x mo) (hS : va_S (hw_AW G [1, 2, 3, 4, 5, 6, 7, 8, 9, 10, 11, 12, 13, 14, 15, 16, 17, 18, 19, 20, 21, 22, 23, 24, 25, 26, 27, 28, 29, 30, 31, 32, 40, 42, 44, 45, 46, 48, 49, 50, 51, 53, 55, 58, 59, 67, 68, 69, 70, 71, 72, 73, 74, 75, 76, 77, 78, 79, 80, 81, 82, 83, 84, 101, 102, 103, 104, 105, 106, 107, 108, 109, 127, 128, 129, 132] s.heap.size) s.heap H locs) (hl : lv_has ls 4 [(3, .int y3), (2, .ref mo), (1, .ref x), (0, .ref b)]) (hk9 : ∀ (H1 : Heap) (locs1 : List Loc) (ls1 : Array Slot), hw_I D G s H1 x mo → va_S (hw_AW G [1, 2, 3, 4, 5, 6, 7, 8, 9, 10, 11, 12, 13, 14, 15, 16, 17, 18, 19, 20, 21, 22, 23, 24, 25, 26, 27, 28, 29, 30, 31, 32, 40, 42, 44, 45, 46, 48, 49, 50, 51, 53, 55, 58, 59, 67, 68, 69, 70, 71, 72, 73, 74, 75, 76, 77, 78, 79, 80, 81, 82, 83, 84, 101, 102, 103, 104, 105, 106, 107, 108, 109, 127, 128, 129, 132] s.heap.size) s.heap H1 locs1 → lv_has ls1 4 [(3, .int y3), (2, .ref mo), (1, .ref x), (0, .ref b)] → W p l e room_1 s m #[Value.ref b] below meth c H1 locs1 (k + 20) (n + 80) (lw_Z below #[Value.ref b] s) (F0 m 1187 ls1 [])) : W p l e room_1 s m #[Value.ref b] below meth c H locs k n (lw_Z below #[Value.ref b] s) (F0 m 697 ls []) := by
  have hH0 : hw_HT D G s.heap := fun a h => absurd (by rw [hG0]) h
  have hbA : ¬ (hw_AW G [1, 2, 3, 4, 5, 6, 7, 8, 9, 10, 11, 12, 13, 14, 15, 16, 17, 18, 19, 20, 21, 22, 23, 24, 25, 26, 27, 28, 29, 30, 31, 32, 40, 42, 44, 45, 46, 48, 49, 50, 51, 53, 55, 58, 59, 67, 68, 69, 70, 71, 72, 73, 74, 75, 76, 77, 78, 79, 80, 81, 82, 83, 84, 101, 102, 103, 104, 105, 106, 107, 108, 109, 127, 128, 129, 132] s.heap.size) b := hw_AWn (k := 0) (by rw [hG0]) (by decide) hbl
  have hLi : (Int32.ofNat L).toInt = (L : Int) := nI_toInt (by omega)
  refine hw_I_elim hI ?_
  intro G1 rx rm pnx pcx ksx scx udm kym lom wkm dkm lnm smm fim bem rkm rlm rwm clm dgm fq la sz9 fla fsz th tt fth hH hGe1 wx wm gx gm Rx vx gsc vq hRK Rm vm gm0 gm1 gm2 gm3 gm4 gm5 gm6 gm7 gm8 gm9 gm10 gm11 vla vsz qsz hrel vth hrt
  have hHs := hH0
  have hz24 := hw_hz24 hrel qsz
  have qq := hRK.q
  refine lv_aload_n hx hb dL_law_697 rfl (lv_at hl 2 rfl) ?_
  refine lv_aload_n hx hb dL_law_698 rfl (lv_at hl 3 rfl) ?_
  refine lv_iload_n hx hb dL_law_699 rfl (lv_at hl 0 rfl) ?_
  refine lv_iconst (v := 1) hx hb dL_law_700 (by decide) ?_
  refine lv_iadd hx hb dL_law_701 ?_
  have t1 : (y3 + 1).toInt = y3.toInt + 1 := hw_add rfl rfl (by omega) (by omega)
  refine va_sld hx hb hX hbl hbA hS (hw_in (by omega) (by omega)) dL_law_702 ?_
  refine lv_aload_n hx hb dL_law_703 rfl (lv_at hl 3 rfl) ?_
  refine lv_iload_n hx hb dL_law_704 rfl (lv_at hl 0 rfl) ?_
  refine lv_iconst (v := 2) hx hb dL_law_705 (by decide) ?_
  refine lv_iadd hx hb dL_law_706 ?_
  have t2 : (y3 + 2).toInt = y3.toInt + 2 := hw_add rfl rfl (by omega) (by omega)
  refine va_sld hx hb hX hbl hbA hS (hw_in (by omega) (by omega)) dL_law_707 ?_
  obtain ⟨r3, kc_4, lc_5, wc_6, dk_7, v8, R9, g10, g11, g12⟩ := hH.oC (hw_RX_0 Rx)
  refine hw_cM0 (va_runV (As := [.int (xs (y3 + 1).toNatClampNeg), .int (xs (y3 + 2).toNatClampNeg)]) (rest := []) ⟨hx, hb, hml, hown, hts⟩ (k_X11_seen l D G1 x (xs (y3 + 1).toNatClampNeg) (xs (y3 + 2).toNatClampNeg) _ rx pnx pcx ksx scx r3 kc_4 lc_5 wc_6 dk_7 gx Rx ⟨by first | decide | omega, by first | decide | omega⟩ R9 ⟨by first | decide | omega, by first | decide | omega⟩ ⟨by first | decide | omega, by first | decide | omega⟩ ⟨by first | decide | omega, by first | decide | omega⟩) (cwV 2 hts gL_law_X11_seen rfl rfl rfl (by decide +kernel) ⟨Nat.le_of_ble_eq_true rfl, Nat.le_of_ble_eq_true rfl⟩) (hw_pV (hw_rc (q := (RX11, TX11, 14)) hK vx rfl) hH hK hST hS (by decide) (hw_hG hGe1) ⟨vx, v8⟩) rfl rfl hl.1 rfl (lv_room (Nat.le_of_ble_eq_true rfl)) dL_law_708 ⟨by show _ ≤ 600000; omega, by show _ ≤ 7302250; omega⟩) hS (hw_AWsub (by decide) hGe1 hS.1) (fun v H locs hp hz hk hS => ?_)
  obtain ⟨x13, x14, rfl, hH, v15, v16, g17, q18⟩ := hp
  have hRK := hw_RK3.kept hRK (fun q9 h9 l9 => hk q9 l9 (by rcases h9 with h9 | h9 <;> exact hw_AWn h9 (by decide) l9))
  have vq := va_at.kept vq (hk _ (hw_lt vq) (hw_AWn (hw_RX_13 Rx) (by decide) (hw_lt vq)))
  have vm := va_at.kept vm (hk _ (hw_lt vm) (hw_AWn gm (by decide) (hw_lt vm)))
  have vla := va_at.kept vla (hk _ (hw_lt vla) (hw_AWn (hw_RM_41 Rm) (by decide) (hw_lt vla)))
  have vsz := va_at.kept vsz (hk _ (hw_lt vsz) (hw_AWn (hw_RM_42 Rm) (by decide) (hw_lt vsz)))
  have vth := va_at.kept vth (hk _ (hw_lt vth) (hw_AWn (hw_RM_43 Rm) (by decide) (hw_lt vth)))
  refine lv_pop hx hb dL_law_711 rfl ?_
  refine lv_aload_n hx hb dL_law_712 rfl (lv_at hl 1 rfl) ?_
  refine lv_aload_n hx hb dL_law_713 rfl (lv_at hl 3 rfl) ?_
  refine lv_iload_n hx hb dL_law_714 rfl (lv_at hl 0 rfl) ?_
  refine lv_iconst (v := 1) hx hb dL_law_715 (by decide) ?_
  refine lv_iadd hx hb dL_law_716 ?_
  refine va_sld hx hb hX hbl hbA hS (hw_in (by omega) (by omega)) dL_law_717 ?_
  refine lv_aload_n hx hb dL_law_718 rfl (lv_at hl 3 rfl) ?_
  refine lv_iload_n hx hb dL_law_719 rfl (lv_at hl 0 rfl) ?_
  refine lv_iconst (v := 2) hx hb dL_law_720 (by decide) ?_
  refine lv_iadd hx hb dL_law_721 ?_
  refine va_sld hx hb hX hbl hbA hS (hw_in (by omega) (by omega)) dL_law_722 ?_
  refine hw_cM0 (va_runV (As := [.int (xs (y3 + 1).toNatClampNeg), .int (xs (y3 + 2).toNatClampNeg)]) (rest := []) ⟨hx, hb, hml, hown, hts⟩ (k_X12_seen l D G1 mo (xs (y3 + 1).toNatClampNeg) (xs (y3 + 2).toNatClampNeg) _ rm udm kym lom wkm dkm lnm smm fim bem rkm rlm rwm clm dgm gm Rm ⟨by first | decide | omega, by first | decide | omega⟩ ⟨by first | decide | omega, by first | decide | omega⟩ ⟨by first | decide | omega, by first | decide | omega⟩ ⟨by first | decide | omega, by first | decide | omega⟩ ⟨by first | decide | omega, by first | decide | omega⟩ ⟨by first | decide | omega, by first | decide | omega⟩ ⟨by first | decide | omega, by first | decide | omega⟩ ⟨by first | decide | omega, by first | decide | omega⟩ ⟨by first | decide | omega, by first | decide | omega⟩ ⟨by first | decide | omega, by first | decide | omega⟩ ⟨by first | decide | omega, by first | decide | omega⟩ ⟨by first | decide | omega, by first | decide | omega⟩) (cwV 2 hts gL_law_X12_seen rfl rfl rfl (by decide +kernel) ⟨Nat.le_of_ble_eq_true rfl, Nat.le_of_ble_eq_true rfl⟩) (hw_pV (hw_rc (q := (RX12, TX12, 45)) hK vm rfl) hH hK hST hS (by decide) (hw_hG hGe1) vm) rfl rfl hl.1 rfl (lv_room (Nat.le_of_ble_eq_true rfl)) dL_law_723 ⟨by show _ ≤ 600000; omega, by show _ ≤ 7302250; omega⟩) hS (hw_AWsub (by decide) hGe1 hS.1) (fun v H locs hp hz hk hS => ?_)
  obtain ⟨x19, x20, rfl, hH, v21, g22, q23⟩ := hp
  have hRK := hw_RK3.kept hRK (fun q9 h9 l9 => hk q9 l9 (by rcases h9 with h9 | h9 <;> exact hw_AWn h9 (by decide) l9))
  have v15 := va_at.kept v15 (hk _ (hw_lt v15) (hw_AWn gx (by decide) (hw_lt v15)))
  have vq := va_at.kept vq (hk _ (hw_lt vq) (hw_AWn (hw_RX_13 Rx) (by decide) (hw_lt vq)))
  have vla := va_at.kept vla (hk _ (hw_lt vla) (hw_AWn (hw_RM_41 Rm) (by decide) (hw_lt vla)))
  have vsz := va_at.kept vsz (hk _ (hw_lt vsz) (hw_AWn (hw_RM_42 Rm) (by decide) (hw_lt vsz)))
  have vth := va_at.kept vth (hk _ (hw_lt vth) (hw_AWn (hw_RM_43 Rm) (by decide) (hw_lt vth)))
  have v16 := va_at.kept v16 (hk _ (hw_lt v16) (hw_AWn (hw_RX_0 Rx) (by decide) (hw_lt v16)))
  refine lv_pop hx hb dL_law_726 rfl ?_
  refine lv_goto (tgt := 1187) hx hb dL_law_727 (by decide) ?_
  refine W.widen (k := k + 20) (n := n + 80) (by first | omega | (show _ ≤ _; omega)) (by first | omega | (show _ ≤ _; omega)) ?_
  exact hk9 _ _ _ ⟨G1, rx, rm, pnx, pcx, ksx, x14, udm, kym, lom, wkm, dkm, lnm, x20, fim, bem, rkm, rlm, rwm, clm, dgm, fq, la, sz9, fla, fsz, th, tt, fth, hH, hGe1, wx, wm, gx, gm, Rx, v15, ⟨by first | decide | omega, by first | decide | omega⟩, vq, hRK, Rm, v21, ⟨by first | decide | omega, by first | decide | omega⟩, ⟨by first | decide | omega, by first | decide | omega⟩, ⟨by first | decide | omega, by first | decide | omega⟩, ⟨by first | decide | omega, by first | decide | omega⟩, ⟨by first | decide | omega, by first | decide | omega⟩, ⟨by first | decide | omega, by first | decide | omega⟩, ⟨by first | decide | omega, by first | decide | omega⟩, ⟨by first | decide | omega, by first | decide | omega⟩, ⟨by first | decide | omega, by first | decide | omega⟩, ⟨by first | decide | omega, by first | decide | omega⟩, ⟨by first | decide | omega, by first | decide | omega⟩, ⟨by first | decide | omega, by first | decide | omega⟩, vla, vsz, qsz, hrel, vth, hrt⟩ hS hl

set_option maxHeartbeats 40000000 in
set_option maxRecDepth 100000 in
theorem hw_case730 {p : Program} {e : Env} {s : State} {m : MethodId} {below : List Frame} {meth : Method} {c : Code} (l : Launch) {b L : Nat} {xs : Nat → Int32} {D : hw_D} {G : Nat → Nat} {H : Heap} {locs : List Loc} {x mo k n : Nat} {y3 : Int32} {ls : Array Slot} (hL : L ≤ 384) (hy0 : 0 ≤ y3.toInt ∧ y3.toInt ≤ 384) (hy : y3.toInt + 6 ≤ L) (hkc : k + 20 ≤ 600000) (hnc : n + 80 ≤ 7302250) (hx : p.tables.exec = Jvm.exec) (hb : c.code = code) (hr : meth.sig.returnType = ret) (hml : c.maxLocals = 4) (hown : s.vm.findClass R_law = some m.cls) (hts0 : ∀ w ∈ lw_tbl, w.before #[Value.ref b] s = true) (hts : ∀ w ∈ wsL_law, w.before #[Value.ref b] s = true) (hX : va_X b L xs s s.heap) (hbl : b < s.heap.size) (hlocks : meth.locks = false) (hG0 : G = fun _ => 0) (hK : va_K D.1 vwCl (hw_ty D.2.1) s) (hST : hw_ST D.2.2 G s.heap.size s) (hI : hw_I D G s H x mo) (hS : va_S (hw_AW G [1, 2, 3, 4, 5, 6, 7, 8, 9, 10, 11, 12, 13, 14, 15, 16, 17, 18, 19, 20, 21, 22, 23, 24, 25, 26, 27, 28, 29, 30, 31, 32, 40, 42, 44, 45, 46, 48, 49, 50, 51, 53, 55, 58, 59, 67, 68, 69, 70, 71, 72, 73, 74, 75, 76, 77, 78, 79, 80, 81, 82, 83, 84, 101, 102, 103, 104, 105, 106, 107, 108, 109, 127, 128, 129, 132] s.heap.size) s.heap H locs) (hl : lv_has ls 4 [(3, .int y3), (2, .ref mo), (1, .ref x), (0, .ref b)]) (hk9 : ∀ (H1 : Heap) (locs1 : List Loc) (ls1 : Array Slot), hw_I D G s H1 x mo → va_S (hw_AW G [1, 2, 3, 4, 5, 6, 7, 8, 9, 10, 11, 12, 13, 14, 15, 16, 17, 18, 19, 20, 21, 22, 23, 24, 25, 26, 27, 28, 29, 30, 31, 32, 40, 42, 44, 45, 46, 48, 49, 50, 51, 53, 55, 58, 59, 67, 68, 69, 70, 71, 72, 73, 74, 75, 76, 77, 78, 79, 80, 81, 82, 83, 84, 101, 102, 103, 104, 105, 106, 107, 108, 109, 127, 128, 129, 132] s.heap.size) s.heap H1 locs1 → lv_has ls1 4 [(3, .int y3), (2, .ref mo), (1, .ref x), (0, .ref b)] → W p l e room_1 s m #[Value.ref b] below meth c H1 locs1 (k + 20) (n + 80) (lw_Z below #[Value.ref b] s) (F0 m 1187 ls1 [])) : W p l e room_1 s m #[Value.ref b] below meth c H locs k n (lw_Z below #[Value.ref b] s) (F0 m 730 ls []) := by
  have hH0 : hw_HT D G s.heap := fun a h => absurd (by rw [hG0]) h
  have hbA : ¬ (hw_AW G [1, 2, 3, 4, 5, 6, 7, 8, 9, 10, 11, 12, 13, 14, 15, 16, 17, 18, 19, 20, 21, 22, 23, 24, 25, 26, 27, 28, 29, 30, 31, 32, 40, 42, 44, 45, 46, 48, 49, 50, 51, 53, 55, 58, 59, 67, 68, 69, 70, 71, 72, 73, 74, 75, 76, 77, 78, 79, 80, 81, 82, 83, 84, 101, 102, 103, 104, 105, 106, 107, 108, 109, 127, 128, 129, 132] s.heap.size) b := hw_AWn (k := 0) (by rw [hG0]) (by decide) hbl
  have hLi : (Int32.ofNat L).toInt = (L : Int) := nI_toInt (by omega)
  refine hw_I_elim hI ?_
  intro G1 rx rm pnx pcx ksx scx udm kym lom wkm dkm lnm smm fim bem rkm rlm rwm clm dgm fq la sz9 fla fsz th tt fth hH hGe1 wx wm gx gm Rx vx gsc vq hRK Rm vm gm0 gm1 gm2 gm3 gm4 gm5 gm6 gm7 gm8 gm9 gm10 gm11 vla vsz qsz hrel vth hrt
  have hHs := hH0
  have hz24 := hw_hz24 hrel qsz
  have qq := hRK.q
  refine lv_aload_n hx hb dL_law_730 rfl (lv_at hl 2 rfl) ?_
  refine hw_cM0 (va_runV (As := []) (rest := []) ⟨hx, hb, hml, hown, hts⟩ (k_X11_forget l D G1 x _ rx pnx pcx ksx scx gx Rx ⟨by first | decide | omega, by first | decide | omega⟩) (cwV 0 hts gL_law_X11_forget rfl rfl rfl (by decide +kernel) ⟨Nat.le_of_ble_eq_true rfl, Nat.le_of_ble_eq_true rfl⟩) (hw_pV (hw_rc (q := (RX11, TX11, 14)) hK vx rfl) hH hK hST hS (by decide) (hw_hG hGe1) vx) rfl rfl hl.1 rfl (lv_room (Nat.le_of_ble_eq_true rfl)) dL_law_731 ⟨by show _ ≤ 600000; omega, by show _ ≤ 7302250; omega⟩) hS (hw_AWsub (by decide) hGe1 hS.1) (fun v H locs hp hz hk hS => ?_)
  obtain ⟨x1, x2, rfl, hH, v3, g4, q5⟩ := hp
  have q5i := hw_ieq q5
  have hRK := hw_RK3.kept hRK (fun q9 h9 l9 => hk q9 l9 (by rcases h9 with h9 | h9 <;> exact hw_AWn h9 (by decide) l9))
  have vq := va_at.kept vq (hk _ (hw_lt vq) (hw_AWn (hw_RX_13 Rx) (by decide) (hw_lt vq)))
  have vm := va_at.kept vm (hk _ (hw_lt vm) (hw_AWn gm (by decide) (hw_lt vm)))
  have vla := va_at.kept vla (hk _ (hw_lt vla) (hw_AWn (hw_RM_41 Rm) (by decide) (hw_lt vla)))
  have vsz := va_at.kept vsz (hk _ (hw_lt vsz) (hw_AWn (hw_RM_42 Rm) (by decide) (hw_lt vsz)))
  have vth := va_at.kept vth (hk _ (hw_lt vth) (hw_AWn (hw_RM_43 Rm) (by decide) (hw_lt vth)))
  refine lv_pop hx hb dL_law_734 rfl ?_
  refine lv_aload_n hx hb dL_law_735 rfl (lv_at hl 1 rfl) ?_
  refine hw_cM0 (va_runV (As := []) (rest := []) ⟨hx, hb, hml, hown, hts⟩ (k_X12_forget l D G1 mo _ rm udm kym lom wkm dkm lnm smm fim bem rkm rlm rwm clm dgm gm Rm ⟨by first | decide | omega, by first | decide | omega⟩ ⟨by first | decide | omega, by first | decide | omega⟩ ⟨by first | decide | omega, by first | decide | omega⟩ ⟨by first | decide | omega, by first | decide | omega⟩ ⟨by first | decide | omega, by first | decide | omega⟩ ⟨by first | decide | omega, by first | decide | omega⟩ ⟨by first | decide | omega, by first | decide | omega⟩ ⟨by first | decide | omega, by first | decide | omega⟩ ⟨by first | decide | omega, by first | decide | omega⟩ ⟨by first | decide | omega, by first | decide | omega⟩ ⟨by first | decide | omega, by first | decide | omega⟩ ⟨by first | decide | omega, by first | decide | omega⟩) (cwV 0 hts gL_law_X12_forget rfl rfl rfl (by decide +kernel) ⟨Nat.le_of_ble_eq_true rfl, Nat.le_of_ble_eq_true rfl⟩) (hw_pV (hw_rc (q := (RX12, TX12, 45)) hK vm rfl) hH hK hST hS (by decide) (hw_hG hGe1) vm) rfl rfl hl.1 rfl (lv_room (Nat.le_of_ble_eq_true rfl)) dL_law_736 ⟨by show _ ≤ 600000; omega, by show _ ≤ 7302250; omega⟩) hS (hw_AWsub (by decide) hGe1 hS.1) (fun v H locs hp hz hk hS => ?_)
  obtain ⟨x6, x7, rfl, hH, v8, g9, q10⟩ := hp
  have q10i := hw_ieq q10
  have hRK := hw_RK3.kept hRK (fun q9 h9 l9 => hk q9 l9 (by rcases h9 with h9 | h9 <;> exact hw_AWn h9 (by decide) l9))
  have v3 := va_at.kept v3 (hk _ (hw_lt v3) (hw_AWn gx (by decide) (hw_lt v3)))
  have vq := va_at.kept vq (hk _ (hw_lt vq) (hw_AWn (hw_RX_13 Rx) (by decide) (hw_lt vq)))
  have vla := va_at.kept vla (hk _ (hw_lt vla) (hw_AWn (hw_RM_41 Rm) (by decide) (hw_lt vla)))
  have vsz := va_at.kept vsz (hk _ (hw_lt vsz) (hw_AWn (hw_RM_42 Rm) (by decide) (hw_lt vsz)))
  have vth := va_at.kept vth (hk _ (hw_lt vth) (hw_AWn (hw_RM_43 Rm) (by decide) (hw_lt vth)))
  refine lv_pop hx hb dL_law_739 rfl ?_
  refine lv_goto (tgt := 1187) hx hb dL_law_740 (by decide) ?_
  refine W.widen (k := k + 20) (n := n + 80) (by first | omega | (show _ ≤ _; omega)) (by first | omega | (show _ ≤ _; omega)) ?_
  exact hk9 _ _ _ ⟨G1, rx, rm, pnx, pcx, ksx, x2, udm, kym, lom, wkm, dkm, lnm, x7, fim, bem, rkm, rlm, rwm, clm, dgm, fq, la, sz9, fla, fsz, th, tt, fth, hH, hGe1, wx, wm, gx, gm, Rx, v3, ⟨by first | decide | omega, by first | decide | omega⟩, vq, hRK, Rm, v8, ⟨by first | decide | omega, by first | decide | omega⟩, ⟨by first | decide | omega, by first | decide | omega⟩, ⟨by first | decide | omega, by first | decide | omega⟩, ⟨by first | decide | omega, by first | decide | omega⟩, ⟨by first | decide | omega, by first | decide | omega⟩, ⟨by first | decide | omega, by first | decide | omega⟩, ⟨by first | decide | omega, by first | decide | omega⟩, ⟨by first | decide | omega, by first | decide | omega⟩, ⟨by first | decide | omega, by first | decide | omega⟩, ⟨by first | decide | omega, by first | decide | omega⟩, ⟨by first | decide | omega, by first | decide | omega⟩, ⟨by first | decide | omega, by first | decide | omega⟩, vla, vsz, qsz, hrel, vth, hrt⟩ hS hl

set_option maxHeartbeats 40000000 in
set_option maxRecDepth 100000 in
theorem hw_case743 {p : Program} {e : Env} {s : State} {m : MethodId} {below : List Frame} {meth : Method} {c : Code} (l : Launch) {b L : Nat} {xs : Nat → Int32} {D : hw_D} {G : Nat → Nat} {H : Heap} {locs : List Loc} {x mo k n : Nat} {y3 : Int32} {ls : Array Slot} (hL : L ≤ 384) (hy0 : 0 ≤ y3.toInt ∧ y3.toInt ≤ 384) (hy : y3.toInt + 6 ≤ L) (hkc : k + 20 ≤ 600000) (hnc : n + 80 ≤ 7302250) (hx : p.tables.exec = Jvm.exec) (hb : c.code = code) (hr : meth.sig.returnType = ret) (hml : c.maxLocals = 4) (hown : s.vm.findClass R_law = some m.cls) (hts0 : ∀ w ∈ lw_tbl, w.before #[Value.ref b] s = true) (hts : ∀ w ∈ wsL_law, w.before #[Value.ref b] s = true) (hX : va_X b L xs s s.heap) (hbl : b < s.heap.size) (hlocks : meth.locks = false) (hG0 : G = fun _ => 0) (hK : va_K D.1 vwCl (hw_ty D.2.1) s) (hST : hw_ST D.2.2 G s.heap.size s) (hI : hw_I D G s H x mo) (hS : va_S (hw_AW G [1, 2, 3, 4, 5, 6, 7, 8, 9, 10, 11, 12, 13, 14, 15, 16, 17, 18, 19, 20, 21, 22, 23, 24, 25, 26, 27, 28, 29, 30, 31, 32, 40, 42, 44, 45, 46, 48, 49, 50, 51, 53, 55, 58, 59, 67, 68, 69, 70, 71, 72, 73, 74, 75, 76, 77, 78, 79, 80, 81, 82, 83, 84, 101, 102, 103, 104, 105, 106, 107, 108, 109, 127, 128, 129, 132] s.heap.size) s.heap H locs) (hl : lv_has ls 4 [(3, .int y3), (2, .ref mo), (1, .ref x), (0, .ref b)]) (hk9 : ∀ (H1 : Heap) (locs1 : List Loc) (ls1 : Array Slot), hw_I D G s H1 x mo → va_S (hw_AW G [1, 2, 3, 4, 5, 6, 7, 8, 9, 10, 11, 12, 13, 14, 15, 16, 17, 18, 19, 20, 21, 22, 23, 24, 25, 26, 27, 28, 29, 30, 31, 32, 40, 42, 44, 45, 46, 48, 49, 50, 51, 53, 55, 58, 59, 67, 68, 69, 70, 71, 72, 73, 74, 75, 76, 77, 78, 79, 80, 81, 82, 83, 84, 101, 102, 103, 104, 105, 106, 107, 108, 109, 127, 128, 129, 132] s.heap.size) s.heap H1 locs1 → lv_has ls1 4 [(3, .int y3), (2, .ref mo), (1, .ref x), (0, .ref b)] → W p l e room_1 s m #[Value.ref b] below meth c H1 locs1 (k + 20) (n + 80) (lw_Z below #[Value.ref b] s) (F0 m 1187 ls1 [])) : W p l e room_1 s m #[Value.ref b] below meth c H locs k n (lw_Z below #[Value.ref b] s) (F0 m 743 ls []) := by
  have hH0 : hw_HT D G s.heap := fun a h => absurd (by rw [hG0]) h
  have hbA : ¬ (hw_AW G [1, 2, 3, 4, 5, 6, 7, 8, 9, 10, 11, 12, 13, 14, 15, 16, 17, 18, 19, 20, 21, 22, 23, 24, 25, 26, 27, 28, 29, 30, 31, 32, 40, 42, 44, 45, 46, 48, 49, 50, 51, 53, 55, 58, 59, 67, 68, 69, 70, 71, 72, 73, 74, 75, 76, 77, 78, 79, 80, 81, 82, 83, 84, 101, 102, 103, 104, 105, 106, 107, 108, 109, 127, 128, 129, 132] s.heap.size) b := hw_AWn (k := 0) (by rw [hG0]) (by decide) hbl
  have hLi : (Int32.ofNat L).toInt = (L : Int) := nI_toInt (by omega)
  refine hw_I_elim hI ?_
  intro G1 rx rm pnx pcx ksx scx udm kym lom wkm dkm lnm smm fim bem rkm rlm rwm clm dgm fq la sz9 fla fsz th tt fth hH hGe1 wx wm gx gm Rx vx gsc vq hRK Rm vm gm0 gm1 gm2 gm3 gm4 gm5 gm6 gm7 gm8 gm9 gm10 gm11 vla vsz qsz hrel vth hrt
  have hHs := hH0
  have hz24 := hw_hz24 hrel qsz
  have qq := hRK.q
  refine lv_aload_n hx hb dL_law_743 rfl (lv_at hl 2 rfl) ?_
  refine lv_aload_n hx hb dL_law_744 rfl (lv_at hl 3 rfl) ?_
  refine lv_iload_n hx hb dL_law_745 rfl (lv_at hl 0 rfl) ?_
  refine lv_iconst (v := 1) hx hb dL_law_746 (by decide) ?_
  refine lv_iadd hx hb dL_law_747 ?_
  have t1 : (y3 + 1).toInt = y3.toInt + 1 := hw_add rfl rfl (by omega) (by omega)
  refine va_sld hx hb hX hbl hbA hS (hw_in (by omega) (by omega)) dL_law_748 ?_
  refine hw_cR (va_runV (As := [.int (xs (y3 + 1).toNatClampNeg)]) (rest := []) ⟨hx, hb, hml, hown, hts⟩ (k_X11_cuts l D G1 x (xs (y3 + 1).toNatClampNeg) _ rx pnx pcx ksx scx gx Rx ⟨by first | decide | omega, by first | decide | omega⟩) (cwV 1 hts gL_law_X11_cuts rfl rfl rfl (by decide +kernel) ⟨Nat.le_of_ble_eq_true rfl, Nat.le_of_ble_eq_true rfl⟩) (hw_pV (hw_rc (q := (RX11, TX11, 14)) hK vx rfl) hH hK hST hS (by decide) (hw_hG hGe1) vx) rfl rfl hl.1 rfl (lv_room (Nat.le_of_ble_eq_true rfl)) dL_law_749 ⟨by show _ ≤ 600000; omega, by show _ ≤ 7302250; omega⟩) (fun v hp => ?_)
  rcases hp with ⟨rfl, q2⟩ | ⟨x3, rfl, q4, q5, q6, q7⟩
  · refine lv_pop hx hb dL_law_752 rfl ?_
    refine lv_aload_n hx hb dL_law_753 rfl (lv_at hl 1 rfl) ?_
    refine lv_aload_n hx hb dL_law_754 rfl (lv_at hl 3 rfl) ?_
    refine lv_iload_n hx hb dL_law_755 rfl (lv_at hl 0 rfl) ?_
    refine lv_iconst (v := 1) hx hb dL_law_756 (by decide) ?_
    refine lv_iadd hx hb dL_law_757 ?_
    refine va_sld hx hb hX hbl hbA hS (hw_in (by omega) (by omega)) dL_law_758 ?_
    refine hw_cR (va_runV (As := [.int (xs (y3 + 1).toNatClampNeg)]) (rest := []) ⟨hx, hb, hml, hown, hts⟩ (k_X12_cuts l D G1 mo (xs (y3 + 1).toNatClampNeg) _ rm udm kym lom wkm dkm lnm smm fim bem rkm rlm rwm clm dgm gm Rm ⟨by first | decide | omega, by first | decide | omega⟩ ⟨by first | decide | omega, by first | decide | omega⟩ ⟨by first | decide | omega, by first | decide | omega⟩ ⟨by first | decide | omega, by first | decide | omega⟩ ⟨by first | decide | omega, by first | decide | omega⟩ ⟨by first | decide | omega, by first | decide | omega⟩ ⟨by first | decide | omega, by first | decide | omega⟩ ⟨by first | decide | omega, by first | decide | omega⟩ ⟨by first | decide | omega, by first | decide | omega⟩ ⟨by first | decide | omega, by first | decide | omega⟩ ⟨by first | decide | omega, by first | decide | omega⟩ ⟨by first | decide | omega, by first | decide | omega⟩) (cwV 1 hts gL_law_X12_cuts rfl rfl rfl (by decide +kernel) ⟨Nat.le_of_ble_eq_true rfl, Nat.le_of_ble_eq_true rfl⟩) (hw_pV (hw_rc (q := (RX12, TX12, 45)) hK vm rfl) hH hK hST hS (by decide) (hw_hG hGe1) vm) rfl rfl hl.1 rfl (lv_room (Nat.le_of_ble_eq_true rfl)) dL_law_759 ⟨by show _ ≤ 600000; omega, by show _ ≤ 7302250; omega⟩) (fun v hp => ?_)
    rcases hp with ⟨rfl, q8⟩ | ⟨x9, rfl, q10, q11, q12, q13⟩
    · refine lv_pop hx hb dL_law_762 rfl ?_
      refine lv_goto (tgt := 1187) hx hb dL_law_763 (by decide) ?_
      refine W.widen (k := k + 20) (n := n + 80) (by first | omega | (show _ ≤ _; omega)) (by first | omega | (show _ ≤ _; omega)) ?_
      exact hk9 _ _ _ ⟨G1, rx, rm, pnx, pcx, ksx, scx, udm, kym, lom, wkm, dkm, lnm, smm, fim, bem, rkm, rlm, rwm, clm, dgm, fq, la, sz9, fla, fsz, th, tt, fth, hH, hGe1, wx, wm, gx, gm, Rx, vx, ⟨by first | decide | omega, by first | decide | omega⟩, vq, hRK, Rm, vm, ⟨by first | decide | omega, by first | decide | omega⟩, ⟨by first | decide | omega, by first | decide | omega⟩, ⟨by first | decide | omega, by first | decide | omega⟩, ⟨by first | decide | omega, by first | decide | omega⟩, ⟨by first | decide | omega, by first | decide | omega⟩, ⟨by first | decide | omega, by first | decide | omega⟩, ⟨by first | decide | omega, by first | decide | omega⟩, ⟨by first | decide | omega, by first | decide | omega⟩, ⟨by first | decide | omega, by first | decide | omega⟩, ⟨by first | decide | omega, by first | decide | omega⟩, ⟨by first | decide | omega, by first | decide | omega⟩, ⟨by first | decide | omega, by first | decide | omega⟩, vla, vsz, qsz, hrel, vth, hrt⟩ hS hl
    · refine lv_pop hx hb dL_law_762 rfl ?_
      refine lv_goto (tgt := 1187) hx hb dL_law_763 (by decide) ?_
      refine W.widen (k := k + 20) (n := n + 80) (by first | omega | (show _ ≤ _; omega)) (by first | omega | (show _ ≤ _; omega)) ?_
      exact hk9 _ _ _ ⟨G1, rx, rm, pnx, pcx, ksx, scx, udm, kym, lom, wkm, dkm, lnm, smm, fim, bem, rkm, rlm, rwm, clm, dgm, fq, la, sz9, fla, fsz, th, tt, fth, hH, hGe1, wx, wm, gx, gm, Rx, vx, ⟨by first | decide | omega, by first | decide | omega⟩, vq, hRK, Rm, vm, ⟨by first | decide | omega, by first | decide | omega⟩, ⟨by first | decide | omega, by first | decide | omega⟩, ⟨by first | decide | omega, by first | decide | omega⟩, ⟨by first | decide | omega, by first | decide | omega⟩, ⟨by first | decide | omega, by first | decide | omega⟩, ⟨by first | decide | omega, by first | decide | omega⟩, ⟨by first | decide | omega, by first | decide | omega⟩, ⟨by first | decide | omega, by first | decide | omega⟩, ⟨by first | decide | omega, by first | decide | omega⟩, ⟨by first | decide | omega, by first | decide | omega⟩, ⟨by first | decide | omega, by first | decide | omega⟩, ⟨by first | decide | omega, by first | decide | omega⟩, vla, vsz, qsz, hrel, vth, hrt⟩ hS hl
  · refine lv_pop hx hb dL_law_752 rfl ?_
    refine lv_aload_n hx hb dL_law_753 rfl (lv_at hl 1 rfl) ?_
    refine lv_aload_n hx hb dL_law_754 rfl (lv_at hl 3 rfl) ?_
    refine lv_iload_n hx hb dL_law_755 rfl (lv_at hl 0 rfl) ?_
    refine lv_iconst (v := 1) hx hb dL_law_756 (by decide) ?_
    refine lv_iadd hx hb dL_law_757 ?_
    refine va_sld hx hb hX hbl hbA hS (hw_in (by omega) (by omega)) dL_law_758 ?_
    refine hw_cR (va_runV (As := [.int (xs (y3 + 1).toNatClampNeg)]) (rest := []) ⟨hx, hb, hml, hown, hts⟩ (k_X12_cuts l D G1 mo (xs (y3 + 1).toNatClampNeg) _ rm udm kym lom wkm dkm lnm smm fim bem rkm rlm rwm clm dgm gm Rm ⟨by first | decide | omega, by first | decide | omega⟩ ⟨by first | decide | omega, by first | decide | omega⟩ ⟨by first | decide | omega, by first | decide | omega⟩ ⟨by first | decide | omega, by first | decide | omega⟩ ⟨by first | decide | omega, by first | decide | omega⟩ ⟨by first | decide | omega, by first | decide | omega⟩ ⟨by first | decide | omega, by first | decide | omega⟩ ⟨by first | decide | omega, by first | decide | omega⟩ ⟨by first | decide | omega, by first | decide | omega⟩ ⟨by first | decide | omega, by first | decide | omega⟩ ⟨by first | decide | omega, by first | decide | omega⟩ ⟨by first | decide | omega, by first | decide | omega⟩) (cwV 1 hts gL_law_X12_cuts rfl rfl rfl (by decide +kernel) ⟨Nat.le_of_ble_eq_true rfl, Nat.le_of_ble_eq_true rfl⟩) (hw_pV (hw_rc (q := (RX12, TX12, 45)) hK vm rfl) hH hK hST hS (by decide) (hw_hG hGe1) vm) rfl rfl hl.1 rfl (lv_room (Nat.le_of_ble_eq_true rfl)) dL_law_759 ⟨by show _ ≤ 600000; omega, by show _ ≤ 7302250; omega⟩) (fun v hp => ?_)
    rcases hp with ⟨rfl, q14⟩ | ⟨x15, rfl, q16, q17, q18, q19⟩
    · refine lv_pop hx hb dL_law_762 rfl ?_
      refine lv_goto (tgt := 1187) hx hb dL_law_763 (by decide) ?_
      refine W.widen (k := k + 20) (n := n + 80) (by first | omega | (show _ ≤ _; omega)) (by first | omega | (show _ ≤ _; omega)) ?_
      exact hk9 _ _ _ ⟨G1, rx, rm, pnx, pcx, ksx, scx, udm, kym, lom, wkm, dkm, lnm, smm, fim, bem, rkm, rlm, rwm, clm, dgm, fq, la, sz9, fla, fsz, th, tt, fth, hH, hGe1, wx, wm, gx, gm, Rx, vx, ⟨by first | decide | omega, by first | decide | omega⟩, vq, hRK, Rm, vm, ⟨by first | decide | omega, by first | decide | omega⟩, ⟨by first | decide | omega, by first | decide | omega⟩, ⟨by first | decide | omega, by first | decide | omega⟩, ⟨by first | decide | omega, by first | decide | omega⟩, ⟨by first | decide | omega, by first | decide | omega⟩, ⟨by first | decide | omega, by first | decide | omega⟩, ⟨by first | decide | omega, by first | decide | omega⟩, ⟨by first | decide | omega, by first | decide | omega⟩, ⟨by first | decide | omega, by first | decide | omega⟩, ⟨by first | decide | omega, by first | decide | omega⟩, ⟨by first | decide | omega, by first | decide | omega⟩, ⟨by first | decide | omega, by first | decide | omega⟩, vla, vsz, qsz, hrel, vth, hrt⟩ hS hl
    · refine lv_pop hx hb dL_law_762 rfl ?_
      refine lv_goto (tgt := 1187) hx hb dL_law_763 (by decide) ?_
      refine W.widen (k := k + 20) (n := n + 80) (by first | omega | (show _ ≤ _; omega)) (by first | omega | (show _ ≤ _; omega)) ?_
      exact hk9 _ _ _ ⟨G1, rx, rm, pnx, pcx, ksx, scx, udm, kym, lom, wkm, dkm, lnm, smm, fim, bem, rkm, rlm, rwm, clm, dgm, fq, la, sz9, fla, fsz, th, tt, fth, hH, hGe1, wx, wm, gx, gm, Rx, vx, ⟨by first | decide | omega, by first | decide | omega⟩, vq, hRK, Rm, vm, ⟨by first | decide | omega, by first | decide | omega⟩, ⟨by first | decide | omega, by first | decide | omega⟩, ⟨by first | decide | omega, by first | decide | omega⟩, ⟨by first | decide | omega, by first | decide | omega⟩, ⟨by first | decide | omega, by first | decide | omega⟩, ⟨by first | decide | omega, by first | decide | omega⟩, ⟨by first | decide | omega, by first | decide | omega⟩, ⟨by first | decide | omega, by first | decide | omega⟩, ⟨by first | decide | omega, by first | decide | omega⟩, ⟨by first | decide | omega, by first | decide | omega⟩, ⟨by first | decide | omega, by first | decide | omega⟩, ⟨by first | decide | omega, by first | decide | omega⟩, vla, vsz, qsz, hrel, vth, hrt⟩ hS hl

set_option maxHeartbeats 40000000 in
set_option maxRecDepth 100000 in
theorem hw_case766 {p : Program} {e : Env} {s : State} {m : MethodId} {below : List Frame} {meth : Method} {c : Code} (l : Launch) {b L : Nat} {xs : Nat → Int32} {D : hw_D} {G : Nat → Nat} {H : Heap} {locs : List Loc} {x mo k n : Nat} {y3 : Int32} {ls : Array Slot} (hL : L ≤ 384) (hy0 : 0 ≤ y3.toInt ∧ y3.toInt ≤ 384) (hy : y3.toInt + 6 ≤ L) (hkc : k + 20 ≤ 600000) (hnc : n + 80 ≤ 7302250) (hx : p.tables.exec = Jvm.exec) (hb : c.code = code) (hr : meth.sig.returnType = ret) (hml : c.maxLocals = 4) (hown : s.vm.findClass R_law = some m.cls) (hts0 : ∀ w ∈ lw_tbl, w.before #[Value.ref b] s = true) (hts : ∀ w ∈ wsL_law, w.before #[Value.ref b] s = true) (hX : va_X b L xs s s.heap) (hbl : b < s.heap.size) (hlocks : meth.locks = false) (hG0 : G = fun _ => 0) (hK : va_K D.1 vwCl (hw_ty D.2.1) s) (hST : hw_ST D.2.2 G s.heap.size s) (hI : hw_I D G s H x mo) (hS : va_S (hw_AW G [1, 2, 3, 4, 5, 6, 7, 8, 9, 10, 11, 12, 13, 14, 15, 16, 17, 18, 19, 20, 21, 22, 23, 24, 25, 26, 27, 28, 29, 30, 31, 32, 40, 42, 44, 45, 46, 48, 49, 50, 51, 53, 55, 58, 59, 67, 68, 69, 70, 71, 72, 73, 74, 75, 76, 77, 78, 79, 80, 81, 82, 83, 84, 101, 102, 103, 104, 105, 106, 107, 108, 109, 127, 128, 129, 132] s.heap.size) s.heap H locs) (hl : lv_has ls 4 [(3, .int y3), (2, .ref mo), (1, .ref x), (0, .ref b)]) (hk9 : ∀ (H1 : Heap) (locs1 : List Loc) (ls1 : Array Slot), hw_I D G s H1 x mo → va_S (hw_AW G [1, 2, 3, 4, 5, 6, 7, 8, 9, 10, 11, 12, 13, 14, 15, 16, 17, 18, 19, 20, 21, 22, 23, 24, 25, 26, 27, 28, 29, 30, 31, 32, 40, 42, 44, 45, 46, 48, 49, 50, 51, 53, 55, 58, 59, 67, 68, 69, 70, 71, 72, 73, 74, 75, 76, 77, 78, 79, 80, 81, 82, 83, 84, 101, 102, 103, 104, 105, 106, 107, 108, 109, 127, 128, 129, 132] s.heap.size) s.heap H1 locs1 → lv_has ls1 4 [(3, .int y3), (2, .ref mo), (1, .ref x), (0, .ref b)] → W p l e room_1 s m #[Value.ref b] below meth c H1 locs1 (k + 20) (n + 80) (lw_Z below #[Value.ref b] s) (F0 m 1187 ls1 [])) : W p l e room_1 s m #[Value.ref b] below meth c H locs k n (lw_Z below #[Value.ref b] s) (F0 m 766 ls []) := by
  have hH0 : hw_HT D G s.heap := fun a h => absurd (by rw [hG0]) h
  have hbA : ¬ (hw_AW G [1, 2, 3, 4, 5, 6, 7, 8, 9, 10, 11, 12, 13, 14, 15, 16, 17, 18, 19, 20, 21, 22, 23, 24, 25, 26, 27, 28, 29, 30, 31, 32, 40, 42, 44, 45, 46, 48, 49, 50, 51, 53, 55, 58, 59, 67, 68, 69, 70, 71, 72, 73, 74, 75, 76, 77, 78, 79, 80, 81, 82, 83, 84, 101, 102, 103, 104, 105, 106, 107, 108, 109, 127, 128, 129, 132] s.heap.size) b := hw_AWn (k := 0) (by rw [hG0]) (by decide) hbl
  have hLi : (Int32.ofNat L).toInt = (L : Int) := nI_toInt (by omega)
  refine hw_I_elim hI ?_
  intro G1 rx rm pnx pcx ksx scx udm kym lom wkm dkm lnm smm fim bem rkm rlm rwm clm dgm fq la sz9 fla fsz th tt fth hH hGe1 wx wm gx gm Rx vx gsc vq hRK Rm vm gm0 gm1 gm2 gm3 gm4 gm5 gm6 gm7 gm8 gm9 gm10 gm11 vla vsz qsz hrel vth hrt
  have hHs := hH0
  have hz24 := hw_hz24 hrel qsz
  have qq := hRK.q
  refine lv_aload_n hx hb dL_law_766 rfl (lv_at hl 2 rfl) ?_
  refine lv_aload_n hx hb dL_law_767 rfl (lv_at hl 3 rfl) ?_
  refine lv_iload_n hx hb dL_law_768 rfl (lv_at hl 0 rfl) ?_
  refine lv_iconst (v := 1) hx hb dL_law_769 (by decide) ?_
  refine lv_iadd hx hb dL_law_770 ?_
  have t1 : (y3 + 1).toInt = y3.toInt + 1 := hw_add rfl rfl (by omega) (by omega)
  refine va_sld hx hb hX hbl hbA hS (hw_in (by omega) (by omega)) dL_law_771 ?_
  obtain ⟨r2, kc_3, lc_4, wc_5, dk_6, v7, R8, g9, g10, g11⟩ := hH.oC (hw_RX_0 Rx)
  refine hw_cR (va_runV (As := [.int (xs (y3 + 1).toNatClampNeg)]) (rest := []) ⟨hx, hb, hml, hown, hts⟩ (k_X11_how l D G1 x (xs (y3 + 1).toNatClampNeg) _ rx pnx pcx ksx scx r2 kc_3 lc_4 wc_5 dk_6 gx Rx ⟨by first | decide | omega, by first | decide | omega⟩ R8 ⟨by first | decide | omega, by first | decide | omega⟩ ⟨by first | decide | omega, by first | decide | omega⟩ ⟨by first | decide | omega, by first | decide | omega⟩) (cwV 1 hts gL_law_X11_how rfl rfl rfl (by decide +kernel) ⟨Nat.le_of_ble_eq_true rfl, Nat.le_of_ble_eq_true rfl⟩) (hw_pV (hw_rc (q := (RX11, TX11, 14)) hK vx rfl) hH hK hST hS (by decide) (hw_hG hGe1) ⟨vx, v7⟩) rfl rfl hl.1 rfl (lv_room (Nat.le_of_ble_eq_true rfl)) dL_law_772 ⟨by show _ ≤ 600000; omega, by show _ ≤ 7302250; omega⟩) (fun v hp => ?_)
  obtain ⟨x12, rfl, q13⟩ := hp
  refine lv_pop hx hb dL_law_775 rfl ?_
  refine lv_aload_n hx hb dL_law_776 rfl (lv_at hl 1 rfl) ?_
  refine lv_aload_n hx hb dL_law_777 rfl (lv_at hl 3 rfl) ?_
  refine lv_iload_n hx hb dL_law_778 rfl (lv_at hl 0 rfl) ?_
  refine lv_iconst (v := 1) hx hb dL_law_779 (by decide) ?_
  refine lv_iadd hx hb dL_law_780 ?_
  refine va_sld hx hb hX hbl hbA hS (hw_in (by omega) (by omega)) dL_law_781 ?_
  refine hw_cR (va_runV (As := [.int (xs (y3 + 1).toNatClampNeg)]) (rest := []) ⟨hx, hb, hml, hown, hts⟩ (k_X12_how l D G1 mo (xs (y3 + 1).toNatClampNeg) _ rm udm kym lom wkm dkm lnm smm fim bem rkm rlm rwm clm dgm gm Rm ⟨by first | decide | omega, by first | decide | omega⟩ ⟨by first | decide | omega, by first | decide | omega⟩ ⟨by first | decide | omega, by first | decide | omega⟩ ⟨by first | decide | omega, by first | decide | omega⟩ ⟨by first | decide | omega, by first | decide | omega⟩ ⟨by first | decide | omega, by first | decide | omega⟩ ⟨by first | decide | omega, by first | decide | omega⟩ ⟨by first | decide | omega, by first | decide | omega⟩ ⟨by first | decide | omega, by first | decide | omega⟩ ⟨by first | decide | omega, by first | decide | omega⟩ ⟨by first | decide | omega, by first | decide | omega⟩ ⟨by first | decide | omega, by first | decide | omega⟩) (cwV 1 hts gL_law_X12_how rfl rfl rfl (by decide +kernel) ⟨Nat.le_of_ble_eq_true rfl, Nat.le_of_ble_eq_true rfl⟩) (hw_pV (hw_rc (q := (RX12, TX12, 45)) hK vm rfl) hH hK hST hS (by decide) (hw_hG hGe1) vm) rfl rfl hl.1 rfl (lv_room (Nat.le_of_ble_eq_true rfl)) dL_law_782 ⟨by show _ ≤ 600000; omega, by show _ ≤ 7302250; omega⟩) (fun v hp => ?_)
  obtain ⟨x14, rfl, q15⟩ := hp
  refine lv_pop hx hb dL_law_785 rfl ?_
  refine lv_goto (tgt := 1187) hx hb dL_law_786 (by decide) ?_
  refine W.widen (k := k + 20) (n := n + 80) (by first | omega | (show _ ≤ _; omega)) (by first | omega | (show _ ≤ _; omega)) ?_
  exact hk9 _ _ _ ⟨G1, rx, rm, pnx, pcx, ksx, scx, udm, kym, lom, wkm, dkm, lnm, smm, fim, bem, rkm, rlm, rwm, clm, dgm, fq, la, sz9, fla, fsz, th, tt, fth, hH, hGe1, wx, wm, gx, gm, Rx, vx, ⟨by first | decide | omega, by first | decide | omega⟩, vq, hRK, Rm, vm, ⟨by first | decide | omega, by first | decide | omega⟩, ⟨by first | decide | omega, by first | decide | omega⟩, ⟨by first | decide | omega, by first | decide | omega⟩, ⟨by first | decide | omega, by first | decide | omega⟩, ⟨by first | decide | omega, by first | decide | omega⟩, ⟨by first | decide | omega, by first | decide | omega⟩, ⟨by first | decide | omega, by first | decide | omega⟩, ⟨by first | decide | omega, by first | decide | omega⟩, ⟨by first | decide | omega, by first | decide | omega⟩, ⟨by first | decide | omega, by first | decide | omega⟩, ⟨by first | decide | omega, by first | decide | omega⟩, ⟨by first | decide | omega, by first | decide | omega⟩, vla, vsz, qsz, hrel, vth, hrt⟩ hS hl

set_option maxHeartbeats 40000000 in
set_option maxRecDepth 100000 in
theorem hw_case789 {p : Program} {e : Env} {s : State} {m : MethodId} {below : List Frame} {meth : Method} {c : Code} (l : Launch) {b L : Nat} {xs : Nat → Int32} {D : hw_D} {G : Nat → Nat} {H : Heap} {locs : List Loc} {x mo k n : Nat} {y3 : Int32} {ls : Array Slot} (hL : L ≤ 384) (hy0 : 0 ≤ y3.toInt ∧ y3.toInt ≤ 384) (hy : y3.toInt + 6 ≤ L) (hkc : k + 20 ≤ 600000) (hnc : n + 80 ≤ 7302250) (hx : p.tables.exec = Jvm.exec) (hb : c.code = code) (hr : meth.sig.returnType = ret) (hml : c.maxLocals = 4) (hown : s.vm.findClass R_law = some m.cls) (hts0 : ∀ w ∈ lw_tbl, w.before #[Value.ref b] s = true) (hts : ∀ w ∈ wsL_law, w.before #[Value.ref b] s = true) (hX : va_X b L xs s s.heap) (hbl : b < s.heap.size) (hlocks : meth.locks = false) (hG0 : G = fun _ => 0) (hK : va_K D.1 vwCl (hw_ty D.2.1) s) (hST : hw_ST D.2.2 G s.heap.size s) (hI : hw_I D G s H x mo) (hS : va_S (hw_AW G [1, 2, 3, 4, 5, 6, 7, 8, 9, 10, 11, 12, 13, 14, 15, 16, 17, 18, 19, 20, 21, 22, 23, 24, 25, 26, 27, 28, 29, 30, 31, 32, 40, 42, 44, 45, 46, 48, 49, 50, 51, 53, 55, 58, 59, 67, 68, 69, 70, 71, 72, 73, 74, 75, 76, 77, 78, 79, 80, 81, 82, 83, 84, 101, 102, 103, 104, 105, 106, 107, 108, 109, 127, 128, 129, 132] s.heap.size) s.heap H locs) (hl : lv_has ls 4 [(3, .int y3), (2, .ref mo), (1, .ref x), (0, .ref b)]) (hk9 : ∀ (H1 : Heap) (locs1 : List Loc) (ls1 : Array Slot), hw_I D G s H1 x mo → va_S (hw_AW G [1, 2, 3, 4, 5, 6, 7, 8, 9, 10, 11, 12, 13, 14, 15, 16, 17, 18, 19, 20, 21, 22, 23, 24, 25, 26, 27, 28, 29, 30, 31, 32, 40, 42, 44, 45, 46, 48, 49, 50, 51, 53, 55, 58, 59, 67, 68, 69, 70, 71, 72, 73, 74, 75, 76, 77, 78, 79, 80, 81, 82, 83, 84, 101, 102, 103, 104, 105, 106, 107, 108, 109, 127, 128, 129, 132] s.heap.size) s.heap H1 locs1 → lv_has ls1 4 [(3, .int y3), (2, .ref mo), (1, .ref x), (0, .ref b)] → W p l e room_1 s m #[Value.ref b] below meth c H1 locs1 (k + 20) (n + 80) (lw_Z below #[Value.ref b] s) (F0 m 1187 ls1 [])) : W p l e room_1 s m #[Value.ref b] below meth c H locs k n (lw_Z below #[Value.ref b] s) (F0 m 789 ls []) := by
  have hH0 : hw_HT D G s.heap := fun a h => absurd (by rw [hG0]) h
  have hbA : ¬ (hw_AW G [1, 2, 3, 4, 5, 6, 7, 8, 9, 10, 11, 12, 13, 14, 15, 16, 17, 18, 19, 20, 21, 22, 23, 24, 25, 26, 27, 28, 29, 30, 31, 32, 40, 42, 44, 45, 46, 48, 49, 50, 51, 53, 55, 58, 59, 67, 68, 69, 70, 71, 72, 73, 74, 75, 76, 77, 78, 79, 80, 81, 82, 83, 84, 101, 102, 103, 104, 105, 106, 107, 108, 109, 127, 128, 129, 132] s.heap.size) b := hw_AWn (k := 0) (by rw [hG0]) (by decide) hbl
  have hLi : (Int32.ofNat L).toInt = (L : Int) := nI_toInt (by omega)
  refine hw_I_elim hI ?_
  intro G1 rx rm pnx pcx ksx scx udm kym lom wkm dkm lnm smm fim bem rkm rlm rwm clm dgm fq la sz9 fla fsz th tt fth hH hGe1 wx wm gx gm Rx vx gsc vq hRK Rm vm gm0 gm1 gm2 gm3 gm4 gm5 gm6 gm7 gm8 gm9 gm10 gm11 vla vsz qsz hrel vth hrt
  have hHs := hH0
  have hz24 := hw_hz24 hrel qsz
  have qq := hRK.q
  refine lv_aload_n hx hb dL_law_789 rfl (lv_at hl 2 rfl) ?_
  refine lv_aload_n hx hb dL_law_790 rfl (lv_at hl 3 rfl) ?_
  refine lv_iload_n hx hb dL_law_791 rfl (lv_at hl 0 rfl) ?_
  refine lv_iconst (v := 1) hx hb dL_law_792 (by decide) ?_
  refine lv_iadd hx hb dL_law_793 ?_
  have t1 : (y3 + 1).toInt = y3.toInt + 1 := hw_add rfl rfl (by omega) (by omega)
  refine va_sld hx hb hX hbl hbA hS (hw_in (by omega) (by omega)) dL_law_794 ?_
  refine lv_aload_n hx hb dL_law_795 rfl (lv_at hl 3 rfl) ?_
  refine lv_iload_n hx hb dL_law_796 rfl (lv_at hl 0 rfl) ?_
  refine lv_iconst (v := 2) hx hb dL_law_797 (by decide) ?_
  refine lv_iadd hx hb dL_law_798 ?_
  have t2 : (y3 + 2).toInt = y3.toInt + 2 := hw_add rfl rfl (by omega) (by omega)
  refine va_sld hx hb hX hbl hbA hS (hw_in (by omega) (by omega)) dL_law_799 ?_
  refine lv_aload_n hx hb dL_law_800 rfl (lv_at hl 3 rfl) ?_
  refine lv_iload_n hx hb dL_law_801 rfl (lv_at hl 0 rfl) ?_
  refine lv_iconst (v := 3) hx hb dL_law_802 (by decide) ?_
  refine lv_iadd hx hb dL_law_803 ?_
  have t3 : (y3 + 3).toInt = y3.toInt + 3 := hw_add rfl rfl (by omega) (by omega)
  refine va_sld hx hb hX hbl hbA hS (hw_in (by omega) (by omega)) dL_law_804 ?_
  refine lv_aload_n hx hb dL_law_805 rfl (lv_at hl 3 rfl) ?_
  refine lv_iload_n hx hb dL_law_806 rfl (lv_at hl 0 rfl) ?_
  refine lv_iconst (v := 4) hx hb dL_law_807 (by decide) ?_
  refine lv_iadd hx hb dL_law_808 ?_
  have t4 : (y3 + 4).toInt = y3.toInt + 4 := hw_add rfl rfl (by omega) (by omega)
  refine va_sld hx hb hX hbl hbA hS (hw_in (by omega) (by omega)) dL_law_809 ?_
  obtain ⟨r5, kc_6, lc_7, wc_8, dk_9, v10, R11, g12, g13, g14⟩ := hH.oC (hw_RX_0 Rx)
  refine hw_cR (va_runV (As := [.int (xs (y3 + 1).toNatClampNeg), .int (xs (y3 + 2).toNatClampNeg), .int (xs (y3 + 3).toNatClampNeg), .int (xs (y3 + 4).toNatClampNeg)]) (rest := []) ⟨hx, hb, hml, hown, hts⟩ (k_X11_odds l D G1 x (xs (y3 + 1).toNatClampNeg) (xs (y3 + 2).toNatClampNeg) (xs (y3 + 3).toNatClampNeg) (xs (y3 + 4).toNatClampNeg) _ rx pnx pcx ksx scx r5 kc_6 lc_7 wc_8 dk_9 gx Rx ⟨by first | decide | omega, by first | decide | omega⟩ R11 ⟨by first | decide | omega, by first | decide | omega⟩ ⟨by first | decide | omega, by first | decide | omega⟩ ⟨by first | decide | omega, by first | decide | omega⟩) (cwV 4 hts gL_law_X11_odds rfl rfl rfl (by decide +kernel) ⟨Nat.le_of_ble_eq_true rfl, Nat.le_of_ble_eq_true rfl⟩) (hw_pV (hw_rc (q := (RX11, TX11, 14)) hK vx rfl) hH hK hST hS (by decide) (hw_hG hGe1) ⟨vx, v10⟩) rfl rfl hl.1 rfl (lv_room (Nat.le_of_ble_eq_true rfl)) dL_law_810 ⟨by show _ ≤ 600000; omega, by show _ ≤ 7302250; omega⟩) (fun v hp => ?_)
  obtain ⟨x15, rfl, q16⟩ := hp
  refine lv_pop hx hb dL_law_813 rfl ?_
  refine lv_aload_n hx hb dL_law_814 rfl (lv_at hl 1 rfl) ?_
  refine lv_aload_n hx hb dL_law_815 rfl (lv_at hl 3 rfl) ?_
  refine lv_iload_n hx hb dL_law_816 rfl (lv_at hl 0 rfl) ?_
  refine lv_iconst (v := 1) hx hb dL_law_817 (by decide) ?_
  refine lv_iadd hx hb dL_law_818 ?_
  refine va_sld hx hb hX hbl hbA hS (hw_in (by omega) (by omega)) dL_law_819 ?_
  refine lv_aload_n hx hb dL_law_820 rfl (lv_at hl 3 rfl) ?_
  refine lv_iload_n hx hb dL_law_821 rfl (lv_at hl 0 rfl) ?_
  refine lv_iconst (v := 2) hx hb dL_law_822 (by decide) ?_
  refine lv_iadd hx hb dL_law_823 ?_
  refine va_sld hx hb hX hbl hbA hS (hw_in (by omega) (by omega)) dL_law_824 ?_
  refine lv_aload_n hx hb dL_law_825 rfl (lv_at hl 3 rfl) ?_
  refine lv_iload_n hx hb dL_law_826 rfl (lv_at hl 0 rfl) ?_
  refine lv_iconst (v := 3) hx hb dL_law_827 (by decide) ?_
  refine lv_iadd hx hb dL_law_828 ?_
  refine va_sld hx hb hX hbl hbA hS (hw_in (by omega) (by omega)) dL_law_829 ?_
  refine lv_aload_n hx hb dL_law_830 rfl (lv_at hl 3 rfl) ?_
  refine lv_iload_n hx hb dL_law_831 rfl (lv_at hl 0 rfl) ?_
  refine lv_iconst (v := 4) hx hb dL_law_832 (by decide) ?_
  refine lv_iadd hx hb dL_law_833 ?_
  refine va_sld hx hb hX hbl hbA hS (hw_in (by omega) (by omega)) dL_law_834 ?_
  refine hw_cR (va_runV (As := [.int (xs (y3 + 1).toNatClampNeg), .int (xs (y3 + 2).toNatClampNeg), .int (xs (y3 + 3).toNatClampNeg), .int (xs (y3 + 4).toNatClampNeg)]) (rest := []) ⟨hx, hb, hml, hown, hts⟩ (k_X12_odds l D G1 mo (xs (y3 + 1).toNatClampNeg) (xs (y3 + 2).toNatClampNeg) (xs (y3 + 3).toNatClampNeg) (xs (y3 + 4).toNatClampNeg) _ rm udm kym lom wkm dkm lnm smm fim bem rkm rlm rwm clm dgm gm Rm ⟨by first | decide | omega, by first | decide | omega⟩ ⟨by first | decide | omega, by first | decide | omega⟩ ⟨by first | decide | omega, by first | decide | omega⟩ ⟨by first | decide | omega, by first | decide | omega⟩ ⟨by first | decide | omega, by first | decide | omega⟩ ⟨by first | decide | omega, by first | decide | omega⟩ ⟨by first | decide | omega, by first | decide | omega⟩ ⟨by first | decide | omega, by first | decide | omega⟩ ⟨by first | decide | omega, by first | decide | omega⟩ ⟨by first | decide | omega, by first | decide | omega⟩ ⟨by first | decide | omega, by first | decide | omega⟩ ⟨by first | decide | omega, by first | decide | omega⟩) (cwV 4 hts gL_law_X12_odds rfl rfl rfl (by decide +kernel) ⟨Nat.le_of_ble_eq_true rfl, Nat.le_of_ble_eq_true rfl⟩) (hw_pV (hw_rc (q := (RX12, TX12, 45)) hK vm rfl) hH hK hST hS (by decide) (hw_hG hGe1) vm) rfl rfl hl.1 rfl (lv_room (Nat.le_of_ble_eq_true rfl)) dL_law_835 ⟨by show _ ≤ 600000; omega, by show _ ≤ 7302250; omega⟩) (fun v hp => ?_)
  obtain ⟨x17, rfl, q18⟩ := hp
  refine lv_pop hx hb dL_law_838 rfl ?_
  refine lv_goto (tgt := 1187) hx hb dL_law_839 (by decide) ?_
  refine W.widen (k := k + 20) (n := n + 80) (by first | omega | (show _ ≤ _; omega)) (by first | omega | (show _ ≤ _; omega)) ?_
  exact hk9 _ _ _ ⟨G1, rx, rm, pnx, pcx, ksx, scx, udm, kym, lom, wkm, dkm, lnm, smm, fim, bem, rkm, rlm, rwm, clm, dgm, fq, la, sz9, fla, fsz, th, tt, fth, hH, hGe1, wx, wm, gx, gm, Rx, vx, ⟨by first | decide | omega, by first | decide | omega⟩, vq, hRK, Rm, vm, ⟨by first | decide | omega, by first | decide | omega⟩, ⟨by first | decide | omega, by first | decide | omega⟩, ⟨by first | decide | omega, by first | decide | omega⟩, ⟨by first | decide | omega, by first | decide | omega⟩, ⟨by first | decide | omega, by first | decide | omega⟩, ⟨by first | decide | omega, by first | decide | omega⟩, ⟨by first | decide | omega, by first | decide | omega⟩, ⟨by first | decide | omega, by first | decide | omega⟩, ⟨by first | decide | omega, by first | decide | omega⟩, ⟨by first | decide | omega, by first | decide | omega⟩, ⟨by first | decide | omega, by first | decide | omega⟩, ⟨by first | decide | omega, by first | decide | omega⟩, vla, vsz, qsz, hrel, vth, hrt⟩ hS hl

set_option maxHeartbeats 40000000 in
set_option maxRecDepth 100000 in
theorem hw_case842 {p : Program} {e : Env} {s : State} {m : MethodId} {below : List Frame} {meth : Method} {c : Code} (l : Launch) {b L : Nat} {xs : Nat → Int32} {D : hw_D} {G : Nat → Nat} {H : Heap} {locs : List Loc} {x mo k n : Nat} {y3 : Int32} {ls : Array Slot} (hL : L ≤ 384) (hy0 : 0 ≤ y3.toInt ∧ y3.toInt ≤ 384) (hy : y3.toInt + 6 ≤ L) (hkc : k + 20 ≤ 600000) (hnc : n + 80 ≤ 7302250) (hx : p.tables.exec = Jvm.exec) (hb : c.code = code) (hr : meth.sig.returnType = ret) (hml : c.maxLocals = 4) (hown : s.vm.findClass R_law = some m.cls) (hts0 : ∀ w ∈ lw_tbl, w.before #[Value.ref b] s = true) (hts : ∀ w ∈ wsL_law, w.before #[Value.ref b] s = true) (hX : va_X b L xs s s.heap) (hbl : b < s.heap.size) (hlocks : meth.locks = false) (hG0 : G = fun _ => 0) (hK : va_K D.1 vwCl (hw_ty D.2.1) s) (hST : hw_ST D.2.2 G s.heap.size s) (hI : hw_I D G s H x mo) (hS : va_S (hw_AW G [1, 2, 3, 4, 5, 6, 7, 8, 9, 10, 11, 12, 13, 14, 15, 16, 17, 18, 19, 20, 21, 22, 23, 24, 25, 26, 27, 28, 29, 30, 31, 32, 40, 42, 44, 45, 46, 48, 49, 50, 51, 53, 55, 58, 59, 67, 68, 69, 70, 71, 72, 73, 74, 75, 76, 77, 78, 79, 80, 81, 82, 83, 84, 101, 102, 103, 104, 105, 106, 107, 108, 109, 127, 128, 129, 132] s.heap.size) s.heap H locs) (hl : lv_has ls 4 [(3, .int y3), (2, .ref mo), (1, .ref x), (0, .ref b)]) (hk9 : ∀ (H1 : Heap) (locs1 : List Loc) (ls1 : Array Slot), hw_I D G s H1 x mo → va_S (hw_AW G [1, 2, 3, 4, 5, 6, 7, 8, 9, 10, 11, 12, 13, 14, 15, 16, 17, 18, 19, 20, 21, 22, 23, 24, 25, 26, 27, 28, 29, 30, 31, 32, 40, 42, 44, 45, 46, 48, 49, 50, 51, 53, 55, 58, 59, 67, 68, 69, 70, 71, 72, 73, 74, 75, 76, 77, 78, 79, 80, 81, 82, 83, 84, 101, 102, 103, 104, 105, 106, 107, 108, 109, 127, 128, 129, 132] s.heap.size) s.heap H1 locs1 → lv_has ls1 4 [(3, .int y3), (2, .ref mo), (1, .ref x), (0, .ref b)] → W p l e room_1 s m #[Value.ref b] below meth c H1 locs1 (k + 20) (n + 80) (lw_Z below #[Value.ref b] s) (F0 m 1187 ls1 [])) : W p l e room_1 s m #[Value.ref b] below meth c H locs k n (lw_Z below #[Value.ref b] s) (F0 m 842 ls []) := by
  have hH0 : hw_HT D G s.heap := fun a h => absurd (by rw [hG0]) h
  have hbA : ¬ (hw_AW G [1, 2, 3, 4, 5, 6, 7, 8, 9, 10, 11, 12, 13, 14, 15, 16, 17, 18, 19, 20, 21, 22, 23, 24, 25, 26, 27, 28, 29, 30, 31, 32, 40, 42, 44, 45, 46, 48, 49, 50, 51, 53, 55, 58, 59, 67, 68, 69, 70, 71, 72, 73, 74, 75, 76, 77, 78, 79, 80, 81, 82, 83, 84, 101, 102, 103, 104, 105, 106, 107, 108, 109, 127, 128, 129, 132] s.heap.size) b := hw_AWn (k := 0) (by rw [hG0]) (by decide) hbl
  have hLi : (Int32.ofNat L).toInt = (L : Int) := nI_toInt (by omega)
  refine hw_I_elim hI ?_
  intro G1 rx rm pnx pcx ksx scx udm kym lom wkm dkm lnm smm fim bem rkm rlm rwm clm dgm fq la sz9 fla fsz th tt fth hH hGe1 wx wm gx gm Rx vx gsc vq hRK Rm vm gm0 gm1 gm2 gm3 gm4 gm5 gm6 gm7 gm8 gm9 gm10 gm11 vla vsz qsz hrel vth hrt
  have hHs := hH0
  have hz24 := hw_hz24 hrel qsz
  have qq := hRK.q
  refine lv_aload_n hx hb dL_law_842 rfl (lv_at hl 2 rfl) ?_
  refine lv_aload_n hx hb dL_law_843 rfl (lv_at hl 3 rfl) ?_
  refine lv_iload_n hx hb dL_law_844 rfl (lv_at hl 0 rfl) ?_
  refine lv_iconst (v := 1) hx hb dL_law_845 (by decide) ?_
  refine lv_iadd hx hb dL_law_846 ?_
  have t1 : (y3 + 1).toInt = y3.toInt + 1 := hw_add rfl rfl (by omega) (by omega)
  refine va_sld hx hb hX hbl hbA hS (hw_in (by omega) (by omega)) dL_law_847 ?_
  refine lv_aload_n hx hb dL_law_848 rfl (lv_at hl 3 rfl) ?_
  refine lv_iload_n hx hb dL_law_849 rfl (lv_at hl 0 rfl) ?_
  refine lv_iconst (v := 2) hx hb dL_law_850 (by decide) ?_
  refine lv_iadd hx hb dL_law_851 ?_
  have t2 : (y3 + 2).toInt = y3.toInt + 2 := hw_add rfl rfl (by omega) (by omega)
  refine va_sld hx hb hX hbl hbA hS (hw_in (by omega) (by omega)) dL_law_852 ?_
  refine lv_aload_n hx hb dL_law_853 rfl (lv_at hl 3 rfl) ?_
  refine lv_iload_n hx hb dL_law_854 rfl (lv_at hl 0 rfl) ?_
  refine lv_iconst (v := 3) hx hb dL_law_855 (by decide) ?_
  refine lv_iadd hx hb dL_law_856 ?_
  have t3 : (y3 + 3).toInt = y3.toInt + 3 := hw_add rfl rfl (by omega) (by omega)
  refine va_sld hx hb hX hbl hbA hS (hw_in (by omega) (by omega)) dL_law_857 ?_
  refine hw_cM0 (va_runV (As := [.int (xs (y3 + 1).toNatClampNeg), .int (xs (y3 + 2).toNatClampNeg), .int (xs (y3 + 3).toNatClampNeg)]) (rest := []) ⟨hx, hb, hml, hown, hts⟩ (k3_X11_rack l D G1 x (xs (y3 + 1).toNatClampNeg) (xs (y3 + 2).toNatClampNeg) (xs (y3 + 3).toNatClampNeg) _ th la sz9 tt rx pnx pcx ksx scx fq gx Rx ⟨by first | decide | omega, by first | decide | omega⟩ qq) (cwV 3 hts gL_law_X11_rack rfl rfl rfl (by decide +kernel) ⟨Nat.le_of_ble_eq_true rfl, Nat.le_of_ble_eq_true rfl⟩) (hw_pV (hw_rc (q := (RX11, TX11, 14)) hK vx rfl) hH hK hST hS (by decide) (hw_hG hGe1) ⟨vx, vq, hRK⟩) rfl rfl hl.1 rfl (lv_room (Nat.le_of_ble_eq_true rfl)) dL_law_858 ⟨by show _ ≤ 600000; omega, by show _ ≤ 7302250; omega⟩) hS (hw_AWsub (by decide) hGe1 hS.1) (fun v H locs hp hz hk hS => ?_)
  rcases hp with ⟨rfl, hH, hRK, v4, v5, q6⟩ | ⟨rfl, hH, hRK, v7, v8, q9, q10⟩ | ⟨rfl, hH, hRK, v11, v12, q13, q14⟩ | ⟨x15, f16, rfl, hH, hRK, v17, v18, q19, q20, q21, q22, q23⟩
  · have vm := va_at.kept vm (hk _ (hw_lt vm) (hw_AWn gm (by decide) (hw_lt vm)))
    have vla := va_at.kept vla (hk _ (hw_lt vla) (hw_AWn (hw_RM_41 Rm) (by decide) (hw_lt vla)))
    have vsz := va_at.kept vsz (hk _ (hw_lt vsz) (hw_AWn (hw_RM_42 Rm) (by decide) (hw_lt vsz)))
    have vth := va_at.kept vth (hk _ (hw_lt vth) (hw_AWn (hw_RM_43 Rm) (by decide) (hw_lt vth)))
    refine lv_pop hx hb dL_law_861 rfl ?_
    refine lv_aload_n hx hb dL_law_862 rfl (lv_at hl 1 rfl) ?_
    refine lv_aload_n hx hb dL_law_863 rfl (lv_at hl 3 rfl) ?_
    refine lv_iload_n hx hb dL_law_864 rfl (lv_at hl 0 rfl) ?_
    refine lv_iconst (v := 1) hx hb dL_law_865 (by decide) ?_
    refine lv_iadd hx hb dL_law_866 ?_
    refine va_sld hx hb hX hbl hbA hS (hw_in (by omega) (by omega)) dL_law_867 ?_
    refine lv_aload_n hx hb dL_law_868 rfl (lv_at hl 3 rfl) ?_
    refine lv_iload_n hx hb dL_law_869 rfl (lv_at hl 0 rfl) ?_
    refine lv_iconst (v := 2) hx hb dL_law_870 (by decide) ?_
    refine lv_iadd hx hb dL_law_871 ?_
    refine va_sld hx hb hX hbl hbA hS (hw_in (by omega) (by omega)) dL_law_872 ?_
    refine lv_aload_n hx hb dL_law_873 rfl (lv_at hl 3 rfl) ?_
    refine lv_iload_n hx hb dL_law_874 rfl (lv_at hl 0 rfl) ?_
    refine lv_iconst (v := 3) hx hb dL_law_875 (by decide) ?_
    refine lv_iadd hx hb dL_law_876 ?_
    refine va_sld hx hb hX hbl hbA hS (hw_in (by omega) (by omega)) dL_law_877 ?_
    refine hw_cM0 (va_runV (As := [.int (xs (y3 + 1).toNatClampNeg), .int (xs (y3 + 2).toNatClampNeg), .int (xs (y3 + 3).toNatClampNeg)]) (rest := []) ⟨hx, hb, hml, hown, hts⟩ (k3_X12_rack l D G1 mo (xs (y3 + 1).toNatClampNeg) (xs (y3 + 2).toNatClampNeg) (xs (y3 + 3).toNatClampNeg) _ rm udm kym lom wkm dkm lnm smm fim bem rkm rlm rwm clm dgm fla fsz fth gm Rm ⟨by first | decide | omega, by first | decide | omega⟩ ⟨by first | decide | omega, by first | decide | omega⟩ ⟨by first | decide | omega, by first | decide | omega⟩ ⟨by first | decide | omega, by first | decide | omega⟩ ⟨by first | decide | omega, by first | decide | omega⟩ ⟨by first | decide | omega, by first | decide | omega⟩ ⟨by first | decide | omega, by first | decide | omega⟩ ⟨by first | decide | omega, by first | decide | omega⟩ ⟨by first | decide | omega, by first | decide | omega⟩ ⟨by first | decide | omega, by first | decide | omega⟩ ⟨by first | decide | omega, by first | decide | omega⟩ ⟨by first | decide | omega, by first | decide | omega⟩ qsz) (cwV 3 hts gL_law_X12_rack rfl rfl rfl (by decide +kernel) ⟨Nat.le_of_ble_eq_true rfl, Nat.le_of_ble_eq_true rfl⟩) (hw_pV (hw_rc (q := (RX12, TX12, 45)) hK vm rfl) hH hK hST hS (by decide) (hw_hG hGe1) ⟨vm, vla, vsz, vth⟩) rfl rfl hl.1 rfl (lv_room (Nat.le_of_ble_eq_true rfl)) dL_law_878 ⟨by show _ ≤ 600000; omega, by show _ ≤ 7302250; omega⟩) hS (hw_AWsub (by decide) hGe1 hS.1) (fun v H locs hp hz hk hS => ?_)
    rcases hp with ⟨f24, f25, f26, rfl, hH, v27, v28, v29, v30, q31, q32, q33, q34⟩ | ⟨f35, f36, f37, rfl, hH, v38, v39, v40, v41, q42, q43, q44, q45, q46⟩ | ⟨f47, f48, f49, rfl, hH, v50, v51, v52, v53, q54, q55, q56, q57, q58⟩ | ⟨x59, f60, f61, f62, rfl, hH, v63, v64, v65, v66, q67, q68, q69, q70, q71, q72⟩
    · have hRK := hw_RK3.kept hRK (fun q9 h9 l9 => hk q9 l9 (by rcases h9 with h9 | h9 <;> exact hw_AWn h9 (by decide) l9))
      have v4 := va_at.kept v4 (hk _ (hw_lt v4) (hw_AWn gx (by decide) (hw_lt v4)))
      have v5 := va_at.kept v5 (hk _ (hw_lt v5) (hw_AWn (hw_RX_13 Rx) (by decide) (hw_lt v5)))
      have q73 : ∀ j, j < 4 → -1 ≤ (f25 j).toInt ∧ (f25 j).toInt ≤ 24 := by rw [q33]; exact qsz
      refine lv_pop hx hb dL_law_881 rfl ?_
      refine lv_goto (tgt := 1187) hx hb dL_law_882 (by decide) ?_
      refine W.widen (k := k + 20) (n := n + 80) (by first | omega | (show _ ≤ _; omega)) (by first | omega | (show _ ≤ _; omega)) ?_
      exact hk9 _ _ _ ⟨G1, rx, rm, pnx, pcx, ksx, scx, udm, kym, lom, wkm, dkm, lnm, smm, fim, bem, rkm, rlm, rwm, clm, dgm, fq, la, sz9, f24, f25, th, tt, f26, hH, hGe1, wx, wm, gx, gm, Rx, v4, ⟨by first | decide | omega, by first | decide | omega⟩, v5, hRK, Rm, v27, ⟨by first | decide | omega, by first | decide | omega⟩, ⟨by first | decide | omega, by first | decide | omega⟩, ⟨by first | decide | omega, by first | decide | omega⟩, ⟨by first | decide | omega, by first | decide | omega⟩, ⟨by first | decide | omega, by first | decide | omega⟩, ⟨by first | decide | omega, by first | decide | omega⟩, ⟨by first | decide | omega, by first | decide | omega⟩, ⟨by first | decide | omega, by first | decide | omega⟩, ⟨by first | decide | omega, by first | decide | omega⟩, ⟨by first | decide | omega, by first | decide | omega⟩, ⟨by first | decide | omega, by first | decide | omega⟩, ⟨by first | decide | omega, by first | decide | omega⟩, v28, v29, q73, (by rw [q32]; rw [q33]; exact hrel), v30, (by rw [q34]; exact hrt)⟩ hS hl
    · have hRK := hw_RK3.kept hRK (fun q9 h9 l9 => hk q9 l9 (by rcases h9 with h9 | h9 <;> exact hw_AWn h9 (by decide) l9))
      have v4 := va_at.kept v4 (hk _ (hw_lt v4) (hw_AWn gx (by decide) (hw_lt v4)))
      have v5 := va_at.kept v5 (hk _ (hw_lt v5) (hw_AWn (hw_RX_13 Rx) (by decide) (hw_lt v5)))
      have q74 : ∀ j, j < 4 → -1 ≤ (f36 j).toInt ∧ (f36 j).toInt ≤ 24 := by rw [q45]; exact qsz
      refine lv_pop hx hb dL_law_881 rfl ?_
      refine lv_goto (tgt := 1187) hx hb dL_law_882 (by decide) ?_
      refine W.widen (k := k + 20) (n := n + 80) (by first | omega | (show _ ≤ _; omega)) (by first | omega | (show _ ≤ _; omega)) ?_
      exact hk9 _ _ _ ⟨G1, rx, rm, pnx, pcx, ksx, scx, udm, kym, lom, wkm, dkm, lnm, smm, fim, bem, rkm, rlm, rwm, clm, dgm, fq, la, sz9, f35, f36, th, tt, f37, hH, hGe1, wx, wm, gx, gm, Rx, v4, ⟨by first | decide | omega, by first | decide | omega⟩, v5, hRK, Rm, v38, ⟨by first | decide | omega, by first | decide | omega⟩, ⟨by first | decide | omega, by first | decide | omega⟩, ⟨by first | decide | omega, by first | decide | omega⟩, ⟨by first | decide | omega, by first | decide | omega⟩, ⟨by first | decide | omega, by first | decide | omega⟩, ⟨by first | decide | omega, by first | decide | omega⟩, ⟨by first | decide | omega, by first | decide | omega⟩, ⟨by first | decide | omega, by first | decide | omega⟩, ⟨by first | decide | omega, by first | decide | omega⟩, ⟨by first | decide | omega, by first | decide | omega⟩, ⟨by first | decide | omega, by first | decide | omega⟩, ⟨by first | decide | omega, by first | decide | omega⟩, v39, v40, q74, (by rw [q44]; rw [q45]; exact hrel), v41, (by rw [q46]; exact hrt)⟩ hS hl
    · have hRK := hw_RK3.kept hRK (fun q9 h9 l9 => hk q9 l9 (by rcases h9 with h9 | h9 <;> exact hw_AWn h9 (by decide) l9))
      have v4 := va_at.kept v4 (hk _ (hw_lt v4) (hw_AWn gx (by decide) (hw_lt v4)))
      have v5 := va_at.kept v5 (hk _ (hw_lt v5) (hw_AWn (hw_RX_13 Rx) (by decide) (hw_lt v5)))
      have q75 : ∀ j, j < 4 → -1 ≤ (f48 j).toInt ∧ (f48 j).toInt ≤ 24 := by rw [q57]; exact qsz
      refine lv_pop hx hb dL_law_881 rfl ?_
      refine lv_goto (tgt := 1187) hx hb dL_law_882 (by decide) ?_
      refine W.widen (k := k + 20) (n := n + 80) (by first | omega | (show _ ≤ _; omega)) (by first | omega | (show _ ≤ _; omega)) ?_
      exact hk9 _ _ _ ⟨G1, rx, rm, pnx, pcx, ksx, scx, udm, kym, lom, wkm, dkm, lnm, smm, fim, bem, rkm, rlm, rwm, clm, dgm, fq, la, sz9, f47, f48, th, tt, f49, hH, hGe1, wx, wm, gx, gm, Rx, v4, ⟨by first | decide | omega, by first | decide | omega⟩, v5, hRK, Rm, v50, ⟨by first | decide | omega, by first | decide | omega⟩, ⟨by first | decide | omega, by first | decide | omega⟩, ⟨by first | decide | omega, by first | decide | omega⟩, ⟨by first | decide | omega, by first | decide | omega⟩, ⟨by first | decide | omega, by first | decide | omega⟩, ⟨by first | decide | omega, by first | decide | omega⟩, ⟨by first | decide | omega, by first | decide | omega⟩, ⟨by first | decide | omega, by first | decide | omega⟩, ⟨by first | decide | omega, by first | decide | omega⟩, ⟨by first | decide | omega, by first | decide | omega⟩, ⟨by first | decide | omega, by first | decide | omega⟩, ⟨by first | decide | omega, by first | decide | omega⟩, v51, v52, q75, (by rw [q56]; rw [q57]; exact hrel), v53, (by rw [q58]; exact hrt)⟩ hS hl
    · have q69i := hw_ieq q69
      have hRK := hw_RK3.kept hRK (fun q9 h9 l9 => hk q9 l9 (by rcases h9 with h9 | h9 <;> exact hw_AWn h9 (by decide) l9))
      have v4 := va_at.kept v4 (hk _ (hw_lt v4) (hw_AWn gx (by decide) (hw_lt v4)))
      have v5 := va_at.kept v5 (hk _ (hw_lt v5) (hw_AWn (hw_RX_13 Rx) (by decide) (hw_lt v5)))
      have q76 : ∀ j, j < 4 → -1 ≤ (f61 j).toInt ∧ (f61 j).toInt ≤ 24 := by rw [q71]; exact hw_qsz_up qsz (by omega) (by omega)
      refine lv_pop hx hb dL_law_881 rfl ?_
      refine lv_goto (tgt := 1187) hx hb dL_law_882 (by decide) ?_
      refine W.widen (k := k + 20) (n := n + 80) (by first | omega | (show _ ≤ _; omega)) (by first | omega | (show _ ≤ _; omega)) ?_
      exact hk9 _ _ _ ⟨G1, rx, rm, pnx, pcx, ksx, scx, udm, kym, lom, wkm, dkm, lnm, smm, fim, bem, rkm, rlm, rwm, clm, dgm, fq, la, sz9, f60, f61, th, tt, f62, hH, hGe1, wx, wm, gx, gm, Rx, v4, ⟨by first | decide | omega, by first | decide | omega⟩, v5, hRK, Rm, v63, ⟨by first | decide | omega, by first | decide | omega⟩, ⟨by first | decide | omega, by first | decide | omega⟩, ⟨by first | decide | omega, by first | decide | omega⟩, ⟨by first | decide | omega, by first | decide | omega⟩, ⟨by first | decide | omega, by first | decide | omega⟩, ⟨by first | decide | omega, by first | decide | omega⟩, ⟨by first | decide | omega, by first | decide | omega⟩, ⟨by first | decide | omega, by first | decide | omega⟩, ⟨by first | decide | omega, by first | decide | omega⟩, ⟨by first | decide | omega, by first | decide | omega⟩, ⟨by first | decide | omega, by first | decide | omega⟩, ⟨by first | decide | omega, by first | decide | omega⟩, v64, v65, q76, (by exfalso; omega), v66, (by exfalso; omega)⟩ hS hl
  · have vm := va_at.kept vm (hk _ (hw_lt vm) (hw_AWn gm (by decide) (hw_lt vm)))
    have vla := va_at.kept vla (hk _ (hw_lt vla) (hw_AWn (hw_RM_41 Rm) (by decide) (hw_lt vla)))
    have vsz := va_at.kept vsz (hk _ (hw_lt vsz) (hw_AWn (hw_RM_42 Rm) (by decide) (hw_lt vsz)))
    have vth := va_at.kept vth (hk _ (hw_lt vth) (hw_AWn (hw_RM_43 Rm) (by decide) (hw_lt vth)))
    refine lv_pop hx hb dL_law_861 rfl ?_
    refine lv_aload_n hx hb dL_law_862 rfl (lv_at hl 1 rfl) ?_
    refine lv_aload_n hx hb dL_law_863 rfl (lv_at hl 3 rfl) ?_
    refine lv_iload_n hx hb dL_law_864 rfl (lv_at hl 0 rfl) ?_
    refine lv_iconst (v := 1) hx hb dL_law_865 (by decide) ?_
    refine lv_iadd hx hb dL_law_866 ?_
    refine va_sld hx hb hX hbl hbA hS (hw_in (by omega) (by omega)) dL_law_867 ?_
    refine lv_aload_n hx hb dL_law_868 rfl (lv_at hl 3 rfl) ?_
    refine lv_iload_n hx hb dL_law_869 rfl (lv_at hl 0 rfl) ?_
    refine lv_iconst (v := 2) hx hb dL_law_870 (by decide) ?_
    refine lv_iadd hx hb dL_law_871 ?_
    refine va_sld hx hb hX hbl hbA hS (hw_in (by omega) (by omega)) dL_law_872 ?_
    refine lv_aload_n hx hb dL_law_873 rfl (lv_at hl 3 rfl) ?_
    refine lv_iload_n hx hb dL_law_874 rfl (lv_at hl 0 rfl) ?_
    refine lv_iconst (v := 3) hx hb dL_law_875 (by decide) ?_
    refine lv_iadd hx hb dL_law_876 ?_
    refine va_sld hx hb hX hbl hbA hS (hw_in (by omega) (by omega)) dL_law_877 ?_
    refine hw_cM0 (va_runV (As := [.int (xs (y3 + 1).toNatClampNeg), .int (xs (y3 + 2).toNatClampNeg), .int (xs (y3 + 3).toNatClampNeg)]) (rest := []) ⟨hx, hb, hml, hown, hts⟩ (k3_X12_rack l D G1 mo (xs (y3 + 1).toNatClampNeg) (xs (y3 + 2).toNatClampNeg) (xs (y3 + 3).toNatClampNeg) _ rm udm kym lom wkm dkm lnm smm fim bem rkm rlm rwm clm dgm fla fsz fth gm Rm ⟨by first | decide | omega, by first | decide | omega⟩ ⟨by first | decide | omega, by first | decide | omega⟩ ⟨by first | decide | omega, by first | decide | omega⟩ ⟨by first | decide | omega, by first | decide | omega⟩ ⟨by first | decide | omega, by first | decide | omega⟩ ⟨by first | decide | omega, by first | decide | omega⟩ ⟨by first | decide | omega, by first | decide | omega⟩ ⟨by first | decide | omega, by first | decide | omega⟩ ⟨by first | decide | omega, by first | decide | omega⟩ ⟨by first | decide | omega, by first | decide | omega⟩ ⟨by first | decide | omega, by first | decide | omega⟩ ⟨by first | decide | omega, by first | decide | omega⟩ qsz) (cwV 3 hts gL_law_X12_rack rfl rfl rfl (by decide +kernel) ⟨Nat.le_of_ble_eq_true rfl, Nat.le_of_ble_eq_true rfl⟩) (hw_pV (hw_rc (q := (RX12, TX12, 45)) hK vm rfl) hH hK hST hS (by decide) (hw_hG hGe1) ⟨vm, vla, vsz, vth⟩) rfl rfl hl.1 rfl (lv_room (Nat.le_of_ble_eq_true rfl)) dL_law_878 ⟨by show _ ≤ 600000; omega, by show _ ≤ 7302250; omega⟩) hS (hw_AWsub (by decide) hGe1 hS.1) (fun v H locs hp hz hk hS => ?_)
    rcases hp with ⟨f77, f78, f79, rfl, hH, v80, v81, v82, v83, q84, q85, q86, q87⟩ | ⟨f88, f89, f90, rfl, hH, v91, v92, v93, v94, q95, q96, q97, q98, q99⟩ | ⟨f100, f101, f102, rfl, hH, v103, v104, v105, v106, q107, q108, q109, q110, q111⟩ | ⟨x112, f113, f114, f115, rfl, hH, v116, v117, v118, v119, q120, q121, q122, q123, q124, q125⟩
    · have hRK := hw_RK3.kept hRK (fun q9 h9 l9 => hk q9 l9 (by rcases h9 with h9 | h9 <;> exact hw_AWn h9 (by decide) l9))
      have v7 := va_at.kept v7 (hk _ (hw_lt v7) (hw_AWn gx (by decide) (hw_lt v7)))
      have v8 := va_at.kept v8 (hk _ (hw_lt v8) (hw_AWn (hw_RX_13 Rx) (by decide) (hw_lt v8)))
      have q126 : ∀ j, j < 4 → -1 ≤ (f78 j).toInt ∧ (f78 j).toInt ≤ 24 := by rw [q86]; exact qsz
      refine lv_pop hx hb dL_law_881 rfl ?_
      refine lv_goto (tgt := 1187) hx hb dL_law_882 (by decide) ?_
      refine W.widen (k := k + 20) (n := n + 80) (by first | omega | (show _ ≤ _; omega)) (by first | omega | (show _ ≤ _; omega)) ?_
      exact hk9 _ _ _ ⟨G1, rx, rm, pnx, pcx, ksx, scx, udm, kym, lom, wkm, dkm, lnm, smm, fim, bem, rkm, rlm, rwm, clm, dgm, fq, la, sz9, f77, f78, th, tt, f79, hH, hGe1, wx, wm, gx, gm, Rx, v7, ⟨by first | decide | omega, by first | decide | omega⟩, v8, hRK, Rm, v80, ⟨by first | decide | omega, by first | decide | omega⟩, ⟨by first | decide | omega, by first | decide | omega⟩, ⟨by first | decide | omega, by first | decide | omega⟩, ⟨by first | decide | omega, by first | decide | omega⟩, ⟨by first | decide | omega, by first | decide | omega⟩, ⟨by first | decide | omega, by first | decide | omega⟩, ⟨by first | decide | omega, by first | decide | omega⟩, ⟨by first | decide | omega, by first | decide | omega⟩, ⟨by first | decide | omega, by first | decide | omega⟩, ⟨by first | decide | omega, by first | decide | omega⟩, ⟨by first | decide | omega, by first | decide | omega⟩, ⟨by first | decide | omega, by first | decide | omega⟩, v81, v82, q126, (by rw [q85]; rw [q86]; exact hrel), v83, (by rw [q87]; exact hrt)⟩ hS hl
    · have hRK := hw_RK3.kept hRK (fun q9 h9 l9 => hk q9 l9 (by rcases h9 with h9 | h9 <;> exact hw_AWn h9 (by decide) l9))
      have v7 := va_at.kept v7 (hk _ (hw_lt v7) (hw_AWn gx (by decide) (hw_lt v7)))
      have v8 := va_at.kept v8 (hk _ (hw_lt v8) (hw_AWn (hw_RX_13 Rx) (by decide) (hw_lt v8)))
      have q127 : ∀ j, j < 4 → -1 ≤ (f89 j).toInt ∧ (f89 j).toInt ≤ 24 := by rw [q98]; exact qsz
      refine lv_pop hx hb dL_law_881 rfl ?_
      refine lv_goto (tgt := 1187) hx hb dL_law_882 (by decide) ?_
      refine W.widen (k := k + 20) (n := n + 80) (by first | omega | (show _ ≤ _; omega)) (by first | omega | (show _ ≤ _; omega)) ?_
      exact hk9 _ _ _ ⟨G1, rx, rm, pnx, pcx, ksx, scx, udm, kym, lom, wkm, dkm, lnm, smm, fim, bem, rkm, rlm, rwm, clm, dgm, fq, la, sz9, f88, f89, th, tt, f90, hH, hGe1, wx, wm, gx, gm, Rx, v7, ⟨by first | decide | omega, by first | decide | omega⟩, v8, hRK, Rm, v91, ⟨by first | decide | omega, by first | decide | omega⟩, ⟨by first | decide | omega, by first | decide | omega⟩, ⟨by first | decide | omega, by first | decide | omega⟩, ⟨by first | decide | omega, by first | decide | omega⟩, ⟨by first | decide | omega, by first | decide | omega⟩, ⟨by first | decide | omega, by first | decide | omega⟩, ⟨by first | decide | omega, by first | decide | omega⟩, ⟨by first | decide | omega, by first | decide | omega⟩, ⟨by first | decide | omega, by first | decide | omega⟩, ⟨by first | decide | omega, by first | decide | omega⟩, ⟨by first | decide | omega, by first | decide | omega⟩, ⟨by first | decide | omega, by first | decide | omega⟩, v92, v93, q127, (by rw [q97]; rw [q98]; exact hrel), v94, (by rw [q99]; exact hrt)⟩ hS hl
    · have hRK := hw_RK3.kept hRK (fun q9 h9 l9 => hk q9 l9 (by rcases h9 with h9 | h9 <;> exact hw_AWn h9 (by decide) l9))
      have v7 := va_at.kept v7 (hk _ (hw_lt v7) (hw_AWn gx (by decide) (hw_lt v7)))
      have v8 := va_at.kept v8 (hk _ (hw_lt v8) (hw_AWn (hw_RX_13 Rx) (by decide) (hw_lt v8)))
      have q128 : ∀ j, j < 4 → -1 ≤ (f101 j).toInt ∧ (f101 j).toInt ≤ 24 := by rw [q110]; exact qsz
      refine lv_pop hx hb dL_law_881 rfl ?_
      refine lv_goto (tgt := 1187) hx hb dL_law_882 (by decide) ?_
      refine W.widen (k := k + 20) (n := n + 80) (by first | omega | (show _ ≤ _; omega)) (by first | omega | (show _ ≤ _; omega)) ?_
      exact hk9 _ _ _ ⟨G1, rx, rm, pnx, pcx, ksx, scx, udm, kym, lom, wkm, dkm, lnm, smm, fim, bem, rkm, rlm, rwm, clm, dgm, fq, la, sz9, f100, f101, th, tt, f102, hH, hGe1, wx, wm, gx, gm, Rx, v7, ⟨by first | decide | omega, by first | decide | omega⟩, v8, hRK, Rm, v103, ⟨by first | decide | omega, by first | decide | omega⟩, ⟨by first | decide | omega, by first | decide | omega⟩, ⟨by first | decide | omega, by first | decide | omega⟩, ⟨by first | decide | omega, by first | decide | omega⟩, ⟨by first | decide | omega, by first | decide | omega⟩, ⟨by first | decide | omega, by first | decide | omega⟩, ⟨by first | decide | omega, by first | decide | omega⟩, ⟨by first | decide | omega, by first | decide | omega⟩, ⟨by first | decide | omega, by first | decide | omega⟩, ⟨by first | decide | omega, by first | decide | omega⟩, ⟨by first | decide | omega, by first | decide | omega⟩, ⟨by first | decide | omega, by first | decide | omega⟩, v104, v105, q128, (by rw [q109]; rw [q110]; exact hrel), v106, (by rw [q111]; exact hrt)⟩ hS hl
    · have q122i := hw_ieq q122
      have hRK := hw_RK3.kept hRK (fun q9 h9 l9 => hk q9 l9 (by rcases h9 with h9 | h9 <;> exact hw_AWn h9 (by decide) l9))
      have v7 := va_at.kept v7 (hk _ (hw_lt v7) (hw_AWn gx (by decide) (hw_lt v7)))
      have v8 := va_at.kept v8 (hk _ (hw_lt v8) (hw_AWn (hw_RX_13 Rx) (by decide) (hw_lt v8)))
      have q129 : ∀ j, j < 4 → -1 ≤ (f114 j).toInt ∧ (f114 j).toInt ≤ 24 := by rw [q124]; exact hw_qsz_up qsz (by omega) (by omega)
      refine lv_pop hx hb dL_law_881 rfl ?_
      refine lv_goto (tgt := 1187) hx hb dL_law_882 (by decide) ?_
      refine W.widen (k := k + 20) (n := n + 80) (by first | omega | (show _ ≤ _; omega)) (by first | omega | (show _ ≤ _; omega)) ?_
      exact hk9 _ _ _ ⟨G1, rx, rm, pnx, pcx, ksx, scx, udm, kym, lom, wkm, dkm, lnm, smm, fim, bem, rkm, rlm, rwm, clm, dgm, fq, la, sz9, f113, f114, th, tt, f115, hH, hGe1, wx, wm, gx, gm, Rx, v7, ⟨by first | decide | omega, by first | decide | omega⟩, v8, hRK, Rm, v116, ⟨by first | decide | omega, by first | decide | omega⟩, ⟨by first | decide | omega, by first | decide | omega⟩, ⟨by first | decide | omega, by first | decide | omega⟩, ⟨by first | decide | omega, by first | decide | omega⟩, ⟨by first | decide | omega, by first | decide | omega⟩, ⟨by first | decide | omega, by first | decide | omega⟩, ⟨by first | decide | omega, by first | decide | omega⟩, ⟨by first | decide | omega, by first | decide | omega⟩, ⟨by first | decide | omega, by first | decide | omega⟩, ⟨by first | decide | omega, by first | decide | omega⟩, ⟨by first | decide | omega, by first | decide | omega⟩, ⟨by first | decide | omega, by first | decide | omega⟩, v117, v118, q129, (by exfalso; omega), v119, (by exfalso; omega)⟩ hS hl
  · have vm := va_at.kept vm (hk _ (hw_lt vm) (hw_AWn gm (by decide) (hw_lt vm)))
    have vla := va_at.kept vla (hk _ (hw_lt vla) (hw_AWn (hw_RM_41 Rm) (by decide) (hw_lt vla)))
    have vsz := va_at.kept vsz (hk _ (hw_lt vsz) (hw_AWn (hw_RM_42 Rm) (by decide) (hw_lt vsz)))
    have vth := va_at.kept vth (hk _ (hw_lt vth) (hw_AWn (hw_RM_43 Rm) (by decide) (hw_lt vth)))
    refine lv_pop hx hb dL_law_861 rfl ?_
    refine lv_aload_n hx hb dL_law_862 rfl (lv_at hl 1 rfl) ?_
    refine lv_aload_n hx hb dL_law_863 rfl (lv_at hl 3 rfl) ?_
    refine lv_iload_n hx hb dL_law_864 rfl (lv_at hl 0 rfl) ?_
    refine lv_iconst (v := 1) hx hb dL_law_865 (by decide) ?_
    refine lv_iadd hx hb dL_law_866 ?_
    refine va_sld hx hb hX hbl hbA hS (hw_in (by omega) (by omega)) dL_law_867 ?_
    refine lv_aload_n hx hb dL_law_868 rfl (lv_at hl 3 rfl) ?_
    refine lv_iload_n hx hb dL_law_869 rfl (lv_at hl 0 rfl) ?_
    refine lv_iconst (v := 2) hx hb dL_law_870 (by decide) ?_
    refine lv_iadd hx hb dL_law_871 ?_
    refine va_sld hx hb hX hbl hbA hS (hw_in (by omega) (by omega)) dL_law_872 ?_
    refine lv_aload_n hx hb dL_law_873 rfl (lv_at hl 3 rfl) ?_
    refine lv_iload_n hx hb dL_law_874 rfl (lv_at hl 0 rfl) ?_
    refine lv_iconst (v := 3) hx hb dL_law_875 (by decide) ?_
    refine lv_iadd hx hb dL_law_876 ?_
    refine va_sld hx hb hX hbl hbA hS (hw_in (by omega) (by omega)) dL_law_877 ?_
    refine hw_cM0 (va_runV (As := [.int (xs (y3 + 1).toNatClampNeg), .int (xs (y3 + 2).toNatClampNeg), .int (xs (y3 + 3).toNatClampNeg)]) (rest := []) ⟨hx, hb, hml, hown, hts⟩ (k3_X12_rack l D G1 mo (xs (y3 + 1).toNatClampNeg) (xs (y3 + 2).toNatClampNeg) (xs (y3 + 3).toNatClampNeg) _ rm udm kym lom wkm dkm lnm smm fim bem rkm rlm rwm clm dgm fla fsz fth gm Rm ⟨by first | decide | omega, by first | decide | omega⟩ ⟨by first | decide | omega, by first | decide | omega⟩ ⟨by first | decide | omega, by first | decide | omega⟩ ⟨by first | decide | omega, by first | decide | omega⟩ ⟨by first | decide | omega, by first | decide | omega⟩ ⟨by first | decide | omega, by first | decide | omega⟩ ⟨by first | decide | omega, by first | decide | omega⟩ ⟨by first | decide | omega, by first | decide | omega⟩ ⟨by first | decide | omega, by first | decide | omega⟩ ⟨by first | decide | omega, by first | decide | omega⟩ ⟨by first | decide | omega, by first | decide | omega⟩ ⟨by first | decide | omega, by first | decide | omega⟩ qsz) (cwV 3 hts gL_law_X12_rack rfl rfl rfl (by decide +kernel) ⟨Nat.le_of_ble_eq_true rfl, Nat.le_of_ble_eq_true rfl⟩) (hw_pV (hw_rc (q := (RX12, TX12, 45)) hK vm rfl) hH hK hST hS (by decide) (hw_hG hGe1) ⟨vm, vla, vsz, vth⟩) rfl rfl hl.1 rfl (lv_room (Nat.le_of_ble_eq_true rfl)) dL_law_878 ⟨by show _ ≤ 600000; omega, by show _ ≤ 7302250; omega⟩) hS (hw_AWsub (by decide) hGe1 hS.1) (fun v H locs hp hz hk hS => ?_)
    rcases hp with ⟨f130, f131, f132, rfl, hH, v133, v134, v135, v136, q137, q138, q139, q140⟩ | ⟨f141, f142, f143, rfl, hH, v144, v145, v146, v147, q148, q149, q150, q151, q152⟩ | ⟨f153, f154, f155, rfl, hH, v156, v157, v158, v159, q160, q161, q162, q163, q164⟩ | ⟨x165, f166, f167, f168, rfl, hH, v169, v170, v171, v172, q173, q174, q175, q176, q177, q178⟩
    · have hRK := hw_RK3.kept hRK (fun q9 h9 l9 => hk q9 l9 (by rcases h9 with h9 | h9 <;> exact hw_AWn h9 (by decide) l9))
      have v11 := va_at.kept v11 (hk _ (hw_lt v11) (hw_AWn gx (by decide) (hw_lt v11)))
      have v12 := va_at.kept v12 (hk _ (hw_lt v12) (hw_AWn (hw_RX_13 Rx) (by decide) (hw_lt v12)))
      have q179 : ∀ j, j < 4 → -1 ≤ (f131 j).toInt ∧ (f131 j).toInt ≤ 24 := by rw [q139]; exact qsz
      refine lv_pop hx hb dL_law_881 rfl ?_
      refine lv_goto (tgt := 1187) hx hb dL_law_882 (by decide) ?_
      refine W.widen (k := k + 20) (n := n + 80) (by first | omega | (show _ ≤ _; omega)) (by first | omega | (show _ ≤ _; omega)) ?_
      exact hk9 _ _ _ ⟨G1, rx, rm, pnx, pcx, ksx, scx, udm, kym, lom, wkm, dkm, lnm, smm, fim, bem, rkm, rlm, rwm, clm, dgm, fq, la, sz9, f130, f131, th, tt, f132, hH, hGe1, wx, wm, gx, gm, Rx, v11, ⟨by first | decide | omega, by first | decide | omega⟩, v12, hRK, Rm, v133, ⟨by first | decide | omega, by first | decide | omega⟩, ⟨by first | decide | omega, by first | decide | omega⟩, ⟨by first | decide | omega, by first | decide | omega⟩, ⟨by first | decide | omega, by first | decide | omega⟩, ⟨by first | decide | omega, by first | decide | omega⟩, ⟨by first | decide | omega, by first | decide | omega⟩, ⟨by first | decide | omega, by first | decide | omega⟩, ⟨by first | decide | omega, by first | decide | omega⟩, ⟨by first | decide | omega, by first | decide | omega⟩, ⟨by first | decide | omega, by first | decide | omega⟩, ⟨by first | decide | omega, by first | decide | omega⟩, ⟨by first | decide | omega, by first | decide | omega⟩, v134, v135, q179, (by rw [q138]; rw [q139]; exact hrel), v136, (by rw [q140]; exact hrt)⟩ hS hl
    · have hRK := hw_RK3.kept hRK (fun q9 h9 l9 => hk q9 l9 (by rcases h9 with h9 | h9 <;> exact hw_AWn h9 (by decide) l9))
      have v11 := va_at.kept v11 (hk _ (hw_lt v11) (hw_AWn gx (by decide) (hw_lt v11)))
      have v12 := va_at.kept v12 (hk _ (hw_lt v12) (hw_AWn (hw_RX_13 Rx) (by decide) (hw_lt v12)))
      have q180 : ∀ j, j < 4 → -1 ≤ (f142 j).toInt ∧ (f142 j).toInt ≤ 24 := by rw [q151]; exact qsz
      refine lv_pop hx hb dL_law_881 rfl ?_
      refine lv_goto (tgt := 1187) hx hb dL_law_882 (by decide) ?_
      refine W.widen (k := k + 20) (n := n + 80) (by first | omega | (show _ ≤ _; omega)) (by first | omega | (show _ ≤ _; omega)) ?_
      exact hk9 _ _ _ ⟨G1, rx, rm, pnx, pcx, ksx, scx, udm, kym, lom, wkm, dkm, lnm, smm, fim, bem, rkm, rlm, rwm, clm, dgm, fq, la, sz9, f141, f142, th, tt, f143, hH, hGe1, wx, wm, gx, gm, Rx, v11, ⟨by first | decide | omega, by first | decide | omega⟩, v12, hRK, Rm, v144, ⟨by first | decide | omega, by first | decide | omega⟩, ⟨by first | decide | omega, by first | decide | omega⟩, ⟨by first | decide | omega, by first | decide | omega⟩, ⟨by first | decide | omega, by first | decide | omega⟩, ⟨by first | decide | omega, by first | decide | omega⟩, ⟨by first | decide | omega, by first | decide | omega⟩, ⟨by first | decide | omega, by first | decide | omega⟩, ⟨by first | decide | omega, by first | decide | omega⟩, ⟨by first | decide | omega, by first | decide | omega⟩, ⟨by first | decide | omega, by first | decide | omega⟩, ⟨by first | decide | omega, by first | decide | omega⟩, ⟨by first | decide | omega, by first | decide | omega⟩, v145, v146, q180, (by rw [q150]; rw [q151]; exact hrel), v147, (by rw [q152]; exact hrt)⟩ hS hl
    · have hRK := hw_RK3.kept hRK (fun q9 h9 l9 => hk q9 l9 (by rcases h9 with h9 | h9 <;> exact hw_AWn h9 (by decide) l9))
      have v11 := va_at.kept v11 (hk _ (hw_lt v11) (hw_AWn gx (by decide) (hw_lt v11)))
      have v12 := va_at.kept v12 (hk _ (hw_lt v12) (hw_AWn (hw_RX_13 Rx) (by decide) (hw_lt v12)))
      have q181 : ∀ j, j < 4 → -1 ≤ (f154 j).toInt ∧ (f154 j).toInt ≤ 24 := by rw [q163]; exact qsz
      refine lv_pop hx hb dL_law_881 rfl ?_
      refine lv_goto (tgt := 1187) hx hb dL_law_882 (by decide) ?_
      refine W.widen (k := k + 20) (n := n + 80) (by first | omega | (show _ ≤ _; omega)) (by first | omega | (show _ ≤ _; omega)) ?_
      exact hk9 _ _ _ ⟨G1, rx, rm, pnx, pcx, ksx, scx, udm, kym, lom, wkm, dkm, lnm, smm, fim, bem, rkm, rlm, rwm, clm, dgm, fq, la, sz9, f153, f154, th, tt, f155, hH, hGe1, wx, wm, gx, gm, Rx, v11, ⟨by first | decide | omega, by first | decide | omega⟩, v12, hRK, Rm, v156, ⟨by first | decide | omega, by first | decide | omega⟩, ⟨by first | decide | omega, by first | decide | omega⟩, ⟨by first | decide | omega, by first | decide | omega⟩, ⟨by first | decide | omega, by first | decide | omega⟩, ⟨by first | decide | omega, by first | decide | omega⟩, ⟨by first | decide | omega, by first | decide | omega⟩, ⟨by first | decide | omega, by first | decide | omega⟩, ⟨by first | decide | omega, by first | decide | omega⟩, ⟨by first | decide | omega, by first | decide | omega⟩, ⟨by first | decide | omega, by first | decide | omega⟩, ⟨by first | decide | omega, by first | decide | omega⟩, ⟨by first | decide | omega, by first | decide | omega⟩, v157, v158, q181, (by rw [q162]; rw [q163]; exact hrel), v159, (by rw [q164]; exact hrt)⟩ hS hl
    · have q175i := hw_ieq q175
      have hRK := hw_RK3.kept hRK (fun q9 h9 l9 => hk q9 l9 (by rcases h9 with h9 | h9 <;> exact hw_AWn h9 (by decide) l9))
      have v11 := va_at.kept v11 (hk _ (hw_lt v11) (hw_AWn gx (by decide) (hw_lt v11)))
      have v12 := va_at.kept v12 (hk _ (hw_lt v12) (hw_AWn (hw_RX_13 Rx) (by decide) (hw_lt v12)))
      have q182 : ∀ j, j < 4 → -1 ≤ (f167 j).toInt ∧ (f167 j).toInt ≤ 24 := by rw [q177]; exact hw_qsz_up qsz (by omega) (by omega)
      refine lv_pop hx hb dL_law_881 rfl ?_
      refine lv_goto (tgt := 1187) hx hb dL_law_882 (by decide) ?_
      refine W.widen (k := k + 20) (n := n + 80) (by first | omega | (show _ ≤ _; omega)) (by first | omega | (show _ ≤ _; omega)) ?_
      exact hk9 _ _ _ ⟨G1, rx, rm, pnx, pcx, ksx, scx, udm, kym, lom, wkm, dkm, lnm, smm, fim, bem, rkm, rlm, rwm, clm, dgm, fq, la, sz9, f166, f167, th, tt, f168, hH, hGe1, wx, wm, gx, gm, Rx, v11, ⟨by first | decide | omega, by first | decide | omega⟩, v12, hRK, Rm, v169, ⟨by first | decide | omega, by first | decide | omega⟩, ⟨by first | decide | omega, by first | decide | omega⟩, ⟨by first | decide | omega, by first | decide | omega⟩, ⟨by first | decide | omega, by first | decide | omega⟩, ⟨by first | decide | omega, by first | decide | omega⟩, ⟨by first | decide | omega, by first | decide | omega⟩, ⟨by first | decide | omega, by first | decide | omega⟩, ⟨by first | decide | omega, by first | decide | omega⟩, ⟨by first | decide | omega, by first | decide | omega⟩, ⟨by first | decide | omega, by first | decide | omega⟩, ⟨by first | decide | omega, by first | decide | omega⟩, ⟨by first | decide | omega, by first | decide | omega⟩, v170, v171, q182, (by exfalso; omega), v172, (by exfalso; omega)⟩ hS hl
  · have q21i := hw_ieq q21
    have vm := va_at.kept vm (hk _ (hw_lt vm) (hw_AWn gm (by decide) (hw_lt vm)))
    have vla := va_at.kept vla (hk _ (hw_lt vla) (hw_AWn (hw_RM_41 Rm) (by decide) (hw_lt vla)))
    have vsz := va_at.kept vsz (hk _ (hw_lt vsz) (hw_AWn (hw_RM_42 Rm) (by decide) (hw_lt vsz)))
    have vth := va_at.kept vth (hk _ (hw_lt vth) (hw_AWn (hw_RM_43 Rm) (by decide) (hw_lt vth)))
    refine lv_pop hx hb dL_law_861 rfl ?_
    refine lv_aload_n hx hb dL_law_862 rfl (lv_at hl 1 rfl) ?_
    refine lv_aload_n hx hb dL_law_863 rfl (lv_at hl 3 rfl) ?_
    refine lv_iload_n hx hb dL_law_864 rfl (lv_at hl 0 rfl) ?_
    refine lv_iconst (v := 1) hx hb dL_law_865 (by decide) ?_
    refine lv_iadd hx hb dL_law_866 ?_
    refine va_sld hx hb hX hbl hbA hS (hw_in (by omega) (by omega)) dL_law_867 ?_
    refine lv_aload_n hx hb dL_law_868 rfl (lv_at hl 3 rfl) ?_
    refine lv_iload_n hx hb dL_law_869 rfl (lv_at hl 0 rfl) ?_
    refine lv_iconst (v := 2) hx hb dL_law_870 (by decide) ?_
    refine lv_iadd hx hb dL_law_871 ?_
    refine va_sld hx hb hX hbl hbA hS (hw_in (by omega) (by omega)) dL_law_872 ?_
    refine lv_aload_n hx hb dL_law_873 rfl (lv_at hl 3 rfl) ?_
    refine lv_iload_n hx hb dL_law_874 rfl (lv_at hl 0 rfl) ?_
    refine lv_iconst (v := 3) hx hb dL_law_875 (by decide) ?_
    refine lv_iadd hx hb dL_law_876 ?_
    refine va_sld hx hb hX hbl hbA hS (hw_in (by omega) (by omega)) dL_law_877 ?_
    refine hw_cM0 (va_runV (As := [.int (xs (y3 + 1).toNatClampNeg), .int (xs (y3 + 2).toNatClampNeg), .int (xs (y3 + 3).toNatClampNeg)]) (rest := []) ⟨hx, hb, hml, hown, hts⟩ (k3_X12_rack l D G1 mo (xs (y3 + 1).toNatClampNeg) (xs (y3 + 2).toNatClampNeg) (xs (y3 + 3).toNatClampNeg) _ rm udm kym lom wkm dkm lnm smm fim bem rkm rlm rwm clm dgm fla fsz fth gm Rm ⟨by first | decide | omega, by first | decide | omega⟩ ⟨by first | decide | omega, by first | decide | omega⟩ ⟨by first | decide | omega, by first | decide | omega⟩ ⟨by first | decide | omega, by first | decide | omega⟩ ⟨by first | decide | omega, by first | decide | omega⟩ ⟨by first | decide | omega, by first | decide | omega⟩ ⟨by first | decide | omega, by first | decide | omega⟩ ⟨by first | decide | omega, by first | decide | omega⟩ ⟨by first | decide | omega, by first | decide | omega⟩ ⟨by first | decide | omega, by first | decide | omega⟩ ⟨by first | decide | omega, by first | decide | omega⟩ ⟨by first | decide | omega, by first | decide | omega⟩ qsz) (cwV 3 hts gL_law_X12_rack rfl rfl rfl (by decide +kernel) ⟨Nat.le_of_ble_eq_true rfl, Nat.le_of_ble_eq_true rfl⟩) (hw_pV (hw_rc (q := (RX12, TX12, 45)) hK vm rfl) hH hK hST hS (by decide) (hw_hG hGe1) ⟨vm, vla, vsz, vth⟩) rfl rfl hl.1 rfl (lv_room (Nat.le_of_ble_eq_true rfl)) dL_law_878 ⟨by show _ ≤ 600000; omega, by show _ ≤ 7302250; omega⟩) hS (hw_AWsub (by decide) hGe1 hS.1) (fun v H locs hp hz hk hS => ?_)
    rcases hp with ⟨f183, f184, f185, rfl, hH, v186, v187, v188, v189, q190, q191, q192, q193⟩ | ⟨f194, f195, f196, rfl, hH, v197, v198, v199, v200, q201, q202, q203, q204, q205⟩ | ⟨f206, f207, f208, rfl, hH, v209, v210, v211, v212, q213, q214, q215, q216, q217⟩ | ⟨x218, f219, f220, f221, rfl, hH, v222, v223, v224, v225, q226, q227, q228, q229, q230, q231⟩
    · have hRK := hw_RK3.kept hRK (fun q9 h9 l9 => hk q9 l9 (by rcases h9 with h9 | h9 <;> exact hw_AWn h9 (by decide) l9))
      have v17 := va_at.kept v17 (hk _ (hw_lt v17) (hw_AWn gx (by decide) (hw_lt v17)))
      have v18 := va_at.kept v18 (hk _ (hw_lt v18) (hw_AWn (hw_RX_13 Rx) (by decide) (hw_lt v18)))
      have q232 : ∀ j, j < 4 → -1 ≤ (f184 j).toInt ∧ (f184 j).toInt ≤ 24 := by rw [q192]; exact qsz
      refine lv_pop hx hb dL_law_881 rfl ?_
      refine lv_goto (tgt := 1187) hx hb dL_law_882 (by decide) ?_
      refine W.widen (k := k + 20) (n := n + 80) (by first | omega | (show _ ≤ _; omega)) (by first | omega | (show _ ≤ _; omega)) ?_
      exact hk9 _ _ _ ⟨G1, rx, rm, pnx, pcx, ksx, scx, udm, kym, lom, wkm, dkm, lnm, smm, fim, bem, rkm, rlm, rwm, clm, dgm, fq, (va_up la (xs (y3 + 1).toNatClampNeg).toNatClampNeg (xs (y3 + 2).toNatClampNeg)), (va_up sz9 (xs (y3 + 1).toNatClampNeg).toNatClampNeg (xs (y3 + 3).toNatClampNeg)), f183, f184, th, f16, f185, hH, hGe1, wx, wm, gx, gm, Rx, v17, ⟨by first | decide | omega, by first | decide | omega⟩, v18, hRK, Rm, v186, ⟨by first | decide | omega, by first | decide | omega⟩, ⟨by first | decide | omega, by first | decide | omega⟩, ⟨by first | decide | omega, by first | decide | omega⟩, ⟨by first | decide | omega, by first | decide | omega⟩, ⟨by first | decide | omega, by first | decide | omega⟩, ⟨by first | decide | omega, by first | decide | omega⟩, ⟨by first | decide | omega, by first | decide | omega⟩, ⟨by first | decide | omega, by first | decide | omega⟩, ⟨by first | decide | omega, by first | decide | omega⟩, ⟨by first | decide | omega, by first | decide | omega⟩, ⟨by first | decide | omega, by first | decide | omega⟩, ⟨by first | decide | omega, by first | decide | omega⟩, v187, v188, q232, (by exfalso; omega), v189, (by exfalso; omega)⟩ hS hl
    · have hRK := hw_RK3.kept hRK (fun q9 h9 l9 => hk q9 l9 (by rcases h9 with h9 | h9 <;> exact hw_AWn h9 (by decide) l9))
      have v17 := va_at.kept v17 (hk _ (hw_lt v17) (hw_AWn gx (by decide) (hw_lt v17)))
      have v18 := va_at.kept v18 (hk _ (hw_lt v18) (hw_AWn (hw_RX_13 Rx) (by decide) (hw_lt v18)))
      have q233 : ∀ j, j < 4 → -1 ≤ (f195 j).toInt ∧ (f195 j).toInt ≤ 24 := by rw [q204]; exact qsz
      refine lv_pop hx hb dL_law_881 rfl ?_
      refine lv_goto (tgt := 1187) hx hb dL_law_882 (by decide) ?_
      refine W.widen (k := k + 20) (n := n + 80) (by first | omega | (show _ ≤ _; omega)) (by first | omega | (show _ ≤ _; omega)) ?_
      exact hk9 _ _ _ ⟨G1, rx, rm, pnx, pcx, ksx, scx, udm, kym, lom, wkm, dkm, lnm, smm, fim, bem, rkm, rlm, rwm, clm, dgm, fq, (va_up la (xs (y3 + 1).toNatClampNeg).toNatClampNeg (xs (y3 + 2).toNatClampNeg)), (va_up sz9 (xs (y3 + 1).toNatClampNeg).toNatClampNeg (xs (y3 + 3).toNatClampNeg)), f194, f195, th, f16, f196, hH, hGe1, wx, wm, gx, gm, Rx, v17, ⟨by first | decide | omega, by first | decide | omega⟩, v18, hRK, Rm, v197, ⟨by first | decide | omega, by first | decide | omega⟩, ⟨by first | decide | omega, by first | decide | omega⟩, ⟨by first | decide | omega, by first | decide | omega⟩, ⟨by first | decide | omega, by first | decide | omega⟩, ⟨by first | decide | omega, by first | decide | omega⟩, ⟨by first | decide | omega, by first | decide | omega⟩, ⟨by first | decide | omega, by first | decide | omega⟩, ⟨by first | decide | omega, by first | decide | omega⟩, ⟨by first | decide | omega, by first | decide | omega⟩, ⟨by first | decide | omega, by first | decide | omega⟩, ⟨by first | decide | omega, by first | decide | omega⟩, ⟨by first | decide | omega, by first | decide | omega⟩, v198, v199, q233, (by exfalso; omega), v200, (by exfalso; omega)⟩ hS hl
    · have hRK := hw_RK3.kept hRK (fun q9 h9 l9 => hk q9 l9 (by rcases h9 with h9 | h9 <;> exact hw_AWn h9 (by decide) l9))
      have v17 := va_at.kept v17 (hk _ (hw_lt v17) (hw_AWn gx (by decide) (hw_lt v17)))
      have v18 := va_at.kept v18 (hk _ (hw_lt v18) (hw_AWn (hw_RX_13 Rx) (by decide) (hw_lt v18)))
      have q234 : ∀ j, j < 4 → -1 ≤ (f207 j).toInt ∧ (f207 j).toInt ≤ 24 := by rw [q216]; exact qsz
      refine lv_pop hx hb dL_law_881 rfl ?_
      refine lv_goto (tgt := 1187) hx hb dL_law_882 (by decide) ?_
      refine W.widen (k := k + 20) (n := n + 80) (by first | omega | (show _ ≤ _; omega)) (by first | omega | (show _ ≤ _; omega)) ?_
      exact hk9 _ _ _ ⟨G1, rx, rm, pnx, pcx, ksx, scx, udm, kym, lom, wkm, dkm, lnm, smm, fim, bem, rkm, rlm, rwm, clm, dgm, fq, (va_up la (xs (y3 + 1).toNatClampNeg).toNatClampNeg (xs (y3 + 2).toNatClampNeg)), (va_up sz9 (xs (y3 + 1).toNatClampNeg).toNatClampNeg (xs (y3 + 3).toNatClampNeg)), f206, f207, th, f16, f208, hH, hGe1, wx, wm, gx, gm, Rx, v17, ⟨by first | decide | omega, by first | decide | omega⟩, v18, hRK, Rm, v209, ⟨by first | decide | omega, by first | decide | omega⟩, ⟨by first | decide | omega, by first | decide | omega⟩, ⟨by first | decide | omega, by first | decide | omega⟩, ⟨by first | decide | omega, by first | decide | omega⟩, ⟨by first | decide | omega, by first | decide | omega⟩, ⟨by first | decide | omega, by first | decide | omega⟩, ⟨by first | decide | omega, by first | decide | omega⟩, ⟨by first | decide | omega, by first | decide | omega⟩, ⟨by first | decide | omega, by first | decide | omega⟩, ⟨by first | decide | omega, by first | decide | omega⟩, ⟨by first | decide | omega, by first | decide | omega⟩, ⟨by first | decide | omega, by first | decide | omega⟩, v210, v211, q234, (by exfalso; omega), v212, (by exfalso; omega)⟩ hS hl
    · have q228i := hw_ieq q228
      have hRK := hw_RK3.kept hRK (fun q9 h9 l9 => hk q9 l9 (by rcases h9 with h9 | h9 <;> exact hw_AWn h9 (by decide) l9))
      have v17 := va_at.kept v17 (hk _ (hw_lt v17) (hw_AWn gx (by decide) (hw_lt v17)))
      have v18 := va_at.kept v18 (hk _ (hw_lt v18) (hw_AWn (hw_RX_13 Rx) (by decide) (hw_lt v18)))
      have q235 : ∀ j, j < 4 → -1 ≤ (f220 j).toInt ∧ (f220 j).toInt ≤ 24 := by rw [q230]; exact hw_qsz_up qsz (by omega) (by omega)
      refine lv_pop hx hb dL_law_881 rfl ?_
      refine lv_goto (tgt := 1187) hx hb dL_law_882 (by decide) ?_
      refine W.widen (k := k + 20) (n := n + 80) (by first | omega | (show _ ≤ _; omega)) (by first | omega | (show _ ≤ _; omega)) ?_
      exact hk9 _ _ _ ⟨G1, rx, rm, pnx, pcx, ksx, scx, udm, kym, lom, wkm, dkm, lnm, smm, fim, bem, rkm, rlm, rwm, clm, dgm, fq, (va_up la (xs (y3 + 1).toNatClampNeg).toNatClampNeg (xs (y3 + 2).toNatClampNeg)), (va_up sz9 (xs (y3 + 1).toNatClampNeg).toNatClampNeg (xs (y3 + 3).toNatClampNeg)), f219, f220, th, f16, f221, hH, hGe1, wx, wm, gx, gm, Rx, v17, ⟨by first | decide | omega, by first | decide | omega⟩, v18, hRK, Rm, v222, ⟨by first | decide | omega, by first | decide | omega⟩, ⟨by first | decide | omega, by first | decide | omega⟩, ⟨by first | decide | omega, by first | decide | omega⟩, ⟨by first | decide | omega, by first | decide | omega⟩, ⟨by first | decide | omega, by first | decide | omega⟩, ⟨by first | decide | omega, by first | decide | omega⟩, ⟨by first | decide | omega, by first | decide | omega⟩, ⟨by first | decide | omega, by first | decide | omega⟩, ⟨by first | decide | omega, by first | decide | omega⟩, ⟨by first | decide | omega, by first | decide | omega⟩, ⟨by first | decide | omega, by first | decide | omega⟩, ⟨by first | decide | omega, by first | decide | omega⟩, v223, v224, q235, (by rw [q229]; rw [q230]; exact hw_rel_rack hrel (by omega) (by omega)), v225, (hw_relT_rack hrt (by omega) (by omega) q22 q23 q231)⟩ hS hl

