set_option maxHeartbeats 40000000 in
set_option maxRecDepth 100000 in
theorem hw_case510 {p : Program} {e : Env} {s : State} {m : MethodId} {below : List Frame} {meth : Method} {c : Code} (l : Launch) {b L : Nat} {xs : Nat → Int32} {D : hw_D} {G : Nat → Nat} {H : Heap} {locs : List Loc} {x mo : Nat} {ls : Array Slot} (hL : L ≤ 6) (hL6 : 6 ≤ L) (hx : p.tables.exec = Jvm.exec) (hb : c.code = code) (hr : meth.sig.returnType = ret) (hml : c.maxLocals = 4) (hown : s.vm.findClass R_law = some m.cls) (hts0 : ∀ w ∈ lw_tbl, w.before #[Value.ref b] s = true) (hts : ∀ w ∈ wsL_law, w.before #[Value.ref b] s = true) (hX : va_X b L xs s s.heap) (hbl : b < s.heap.size) (hlocks : meth.locks = false) (hG0 : G = fun _ => 0) (hK : va_K D.1 vwCl (hw_ty D.2.1) s) (hST : hw_ST D.2.2 G s.heap.size s) (hF : hw_F0 D G s H x mo) (hS : va_S (hw_AW G [1, 2, 3, 4, 5, 6, 7, 8, 9, 10, 11, 12, 13, 14, 15, 16, 17, 18, 19, 20, 21, 22, 23, 24, 25, 26, 27, 28, 29, 30, 31, 32, 40, 42, 44, 45, 46, 48, 49, 50, 51, 53, 55, 58, 59, 67, 68, 69, 70, 71, 72, 73, 74, 75, 76, 77, 78, 79, 80, 81, 82, 83, 84, 101, 102, 103, 104, 105, 106, 107, 108, 109, 127, 128, 129, 132] s.heap.size) s.heap H locs) (hl : lv_has ls 4 [(3, .int 0), (2, .ref mo), (1, .ref x), (0, .ref b)]) : W p l e room_1 s m #[Value.ref b] below meth c H locs 200 8000 (lw_Z below #[Value.ref b] s) (F0 m 510 ls []) := by
  have hH0 : hw_HT D G s.heap := fun a h => absurd (by rw [hG0]) h
  have hbA : ¬ (hw_AW G [1, 2, 3, 4, 5, 6, 7, 8, 9, 10, 11, 12, 13, 14, 15, 16, 17, 18, 19, 20, 21, 22, 23, 24, 25, 26, 27, 28, 29, 30, 31, 32, 40, 42, 44, 45, 46, 48, 49, 50, 51, 53, 55, 58, 59, 67, 68, 69, 70, 71, 72, 73, 74, 75, 76, 77, 78, 79, 80, 81, 82, 83, 84, 101, 102, 103, 104, 105, 106, 107, 108, 109, 127, 128, 129, 132] s.heap.size) b := hw_AWn (k := 0) (by rw [hG0]) (by decide) hbl
  have hLi : (Int32.ofNat L).toInt = (L : Int) := nI_toInt (by omega)
  obtain ⟨G1, rx, rc, rt, rn, fq, rm, fro, fik, fla, fsz, hH, hGe1, wx, wm, gx, gm, Rx, vx, Rc, vc, Rt, vt, Rn, vn, vq, hRK, Rm, vm, vro, hro, vik, hik, vla, vsz, hfs⟩ := hF
  have hHs := hH0
  obtain ⟨la, hla⟩ : ∃ z : Nat → Int32, z = fun _ => -1 := ⟨_, rfl⟩
  obtain ⟨sz9, hsz9⟩ : ∃ z : Nat → Int32, z = fun _ => 0 := ⟨_, rfl⟩
  rw [← hla, ← hsz9] at hRK
  have qq := hRK.q
  have qsz : ∀ j, j < 4 → -1 ≤ (fsz j).toInt ∧ (fsz j).toInt ≤ 24 := fun j hj => by rw [hfs j hj]; decide
  have hro0 : (fro 0).toInt = 0 := by rw [hro]; rfl
  have hro1 : (fro 1).toInt = 0 := by rw [hro]; rfl
  have hro2 : (fro 2).toInt = 0 := by rw [hro]; rfl
  have hla1 : (la (xs 1).toNatClampNeg).toInt = -1 := by rw [hla]; rfl
  have hfs1 : 0 ≤ (xs 1).toInt ∧ (xs 1).toInt ≤ 3 → (fsz (xs 1).toNatClampNeg).toInt = -1 := fun h9 => by rw [hfs _ (hw_i4 h9)]; rfl
  have hla2 : (la (xs 2).toNatClampNeg).toInt = -1 := by rw [hla]; rfl
  have hfs2 : 0 ≤ (xs 2).toInt ∧ (xs 2).toInt ≤ 3 → (fsz (xs 2).toNatClampNeg).toInt = -1 := fun h9 => by rw [hfs _ (hw_i4 h9)]; rfl
  have hla3 : (la (xs 3).toNatClampNeg).toInt = -1 := by rw [hla]; rfl
  have hfs3 : 0 ≤ (xs 3).toInt ∧ (xs 3).toInt ≤ 3 → (fsz (xs 3).toNatClampNeg).toInt = -1 := fun h9 => by rw [hfs _ (hw_i4 h9)]; rfl
  have hik1 : (fik (xs 1).toNatClampNeg).toInt = 0 := by rw [hik]; rfl
  refine lv_aload_n hx hb dL_law_510 rfl (lv_at hl 2 rfl) ?_
  refine hw_cM0 (va_runV (As := []) (rest := []) ⟨hx, hb, hml, hown, hts⟩ (k_X11_day l D G1 x _ rx 0 0 0 0 rn 0 0 0 gx Rx ⟨by first | decide | omega, by first | decide | omega⟩ Rn) (cwV 0 hts gL_law_X11_day rfl rfl rfl (by decide +kernel) ⟨Nat.le_of_ble_eq_true rfl, Nat.le_of_ble_eq_true rfl⟩) (hw_pV (hw_rc (q := (RX11, TX11, 14)) hK vx rfl) hH hK hST hS (by decide) (hw_hG hGe1) ⟨vx, vn⟩) rfl rfl hl.1 rfl (lv_room (Nat.le_of_ble_eq_true rfl)) dL_law_511 ⟨Nat.le_of_ble_eq_true rfl, Nat.le_of_ble_eq_true rfl⟩) hS (hw_AWsub (by decide) hGe1 hS.1) (fun v H locs hp hz hk hS => ?_)
  have l1 : (0 : Int32).toInt = 0 := rfl
  obtain ⟨x2, x3, x4, x5, x6, x7, rfl, hH, v8, v9, q10⟩ := hp
  have hRK := hw_Racks.kept hRK (fun q9 h9 l9 => hk q9 l9 (hw_AWn h9 (by decide) l9))
  have vc := va_at.kept vc (hk _ (hw_lt vc) (hw_AWn (hw_RX_0 Rx) (by decide) (hw_lt vc)))
  have vt := va_at.kept vt (hk _ (hw_lt vt) (hw_AWn (hw_RX_1 Rx) (by decide) (hw_lt vt)))
  have vq := va_at.kept vq (hk _ (hw_lt vq) (hw_AWn (hw_RX_13 Rx) (by decide) (hw_lt vq)))
  have vm := va_at.kept vm (hk _ (hw_lt vm) (hw_AWn gm (by decide) (hw_lt vm)))
  have vro := va_at.kept vro (hk _ (hw_lt vro) (hw_AWn (hw_RM_0 Rm) (by decide) (hw_lt vro)))
  have vik := va_at.kept vik (hk _ (hw_lt vik) (hw_AWn (hw_RM_2 Rm) (by decide) (hw_lt vik)))
  have vla := va_at.kept vla (hk _ (hw_lt vla) (hw_AWn (hw_RM_41 Rm) (by decide) (hw_lt vla)))
  have vsz := va_at.kept vsz (hk _ (hw_lt vsz) (hw_AWn (hw_RM_42 Rm) (by decide) (hw_lt vsz)))
  refine lv_aload_n hx hb dL_law_514 rfl (lv_at hl 1 rfl) ?_
  refine hw_cM0 (va_runV (As := []) (rest := [.int x2]) ⟨hx, hb, hml, hown, hts⟩ (k_X12_day l D G1 mo _ rm 0 0 0 0 60 0 0 0 0 0 0 0 0 0 fro gm Rm ⟨by first | decide | omega, by first | decide | omega⟩ ⟨by first | decide | omega, by first | decide | omega⟩ ⟨by first | decide | omega, by first | decide | omega⟩ ⟨by first | decide | omega, by first | decide | omega⟩ ⟨by first | decide | omega, by first | decide | omega⟩ ⟨by first | decide | omega, by first | decide | omega⟩ ⟨by first | decide | omega, by first | decide | omega⟩ ⟨by first | decide | omega, by first | decide | omega⟩ ⟨by first | decide | omega, by first | decide | omega⟩ ⟨by first | decide | omega, by first | decide | omega⟩ ⟨by first | decide | omega, by first | decide | omega⟩ ⟨by first | decide | omega, by first | decide | omega⟩) (cwV 0 hts gL_law_X12_day rfl rfl rfl (by decide +kernel) ⟨Nat.le_of_ble_eq_true rfl, Nat.le_of_ble_eq_true rfl⟩) (hw_pV (hw_rc (q := (RX12, TX12, 45)) hK vm rfl) hH hK hST hS (by decide) (hw_hG hGe1) ⟨vm, vro⟩) rfl rfl hl.1 rfl (lv_room (Nat.le_of_ble_eq_true rfl)) dL_law_515 ⟨Nat.le_of_ble_eq_true rfl, Nat.le_of_ble_eq_true rfl⟩) hS (hw_AWsub (by decide) hGe1 hS.1) (fun v H locs hp hz hk hS => ?_)
  have l11 : (60 : Int32).toInt = 60 := rfl
  obtain ⟨x12, x13, f14, rfl, hH, v15, v16, g17, q18⟩ := hp
  have hRK := hw_Racks.kept hRK (fun q9 h9 l9 => hk q9 l9 (hw_AWn h9 (by decide) l9))
  have v8 := va_at.kept v8 (hk _ (hw_lt v8) (hw_AWn gx (by decide) (hw_lt v8)))
  have vc := va_at.kept vc (hk _ (hw_lt vc) (hw_AWn (hw_RX_0 Rx) (by decide) (hw_lt vc)))
  have vt := va_at.kept vt (hk _ (hw_lt vt) (hw_AWn (hw_RX_1 Rx) (by decide) (hw_lt vt)))
  have v9 := va_at.kept v9 (hk _ (hw_lt v9) (hw_AWn (hw_RX_2 Rx) (by decide) (hw_lt v9)))
  have vq := va_at.kept vq (hk _ (hw_lt vq) (hw_AWn (hw_RX_13 Rx) (by decide) (hw_lt vq)))
  have vik := va_at.kept vik (hk _ (hw_lt vik) (hw_AWn (hw_RM_2 Rm) (by decide) (hw_lt vik)))
  have vla := va_at.kept vla (hk _ (hw_lt vla) (hw_AWn (hw_RM_41 Rm) (by decide) (hw_lt vla)))
  have vsz := va_at.kept vsz (hk _ (hw_lt vsz) (hw_AWn (hw_RM_42 Rm) (by decide) (hw_lt vsz)))
  refine lv_icmp_eq (tgt := 1188) hx hb dL_law_518 (by decide) (fun c19 => ?_) (fun c19 => ?_)
  · have b20 : x2.toInt = x12.toInt := hw_ieq c19
    refine lv_iinc (v := 6) (lv' := [(3, .int 6), (2, .ref mo), (1, .ref x), (0, .ref b)]) hx hb dL_law_1188 hl (k := 0) rfl (by rfl) (by decide) rfl (fun ls hl => ?_)
    refine lv_goto (tgt := 18) hx hb dL_law_1191 (by decide) ?_
    refine lv_iload_n hx hb dL_law_18 rfl (lv_at hl 0 rfl) ?_
    refine lv_aload_n hx hb dL_law_19 rfl (lv_at hl 3 rfl) ?_
    refine va_slen hx hb hX hbl hbA hS dL_law_20 ?_
    refine lv_bipush (v := 6) hx hb dL_law_21 (by decide) ?_
    refine lv_isub hx hb dL_law_23 ?_
    refine lv_topi (fun x21 e22 => ?_)
    have t23 : x21.toInt = (Int32.ofNat L).toInt - 6 := by rw [e22]; exact hw_sub rfl rfl (by omega) (by omega)
    refine lv_icmp_gt (tgt := 1194) hx hb dL_law_24 (by decide) (fun c24 => ?_) (fun c24 => ?_)
    · have b25 : x21.toInt < 6 := hw_ilt c24
      refine lv_iconst (v := 1) hx hb dL_law_1194 (by decide) ?_
      have hfg := hw_hfg hG0 (by decide) hS.2.2
      refine va_forget hfg ?_
      refine W.widen (k := 600000) (n := 7302250) (by decide) (by decide) ?_
      exact lw_ret hx hb hr hlocks dL_law_1195
    · have b26 : 6 ≤ x21.toInt := hw_inlt c24
      exfalso; omega
  · have b27 : x2.toInt ≠ x12.toInt := hw_ine c19
    exfalso
    first | omega | contradiction | (subst_vars; omega)

set_option maxHeartbeats 40000000 in
set_option maxRecDepth 100000 in
theorem hw_case523 {p : Program} {e : Env} {s : State} {m : MethodId} {below : List Frame} {meth : Method} {c : Code} (l : Launch) {b L : Nat} {xs : Nat → Int32} {D : hw_D} {G : Nat → Nat} {H : Heap} {locs : List Loc} {x mo : Nat} {ls : Array Slot} (hL : L ≤ 6) (hL6 : 6 ≤ L) (hx : p.tables.exec = Jvm.exec) (hb : c.code = code) (hr : meth.sig.returnType = ret) (hml : c.maxLocals = 4) (hown : s.vm.findClass R_law = some m.cls) (hts0 : ∀ w ∈ lw_tbl, w.before #[Value.ref b] s = true) (hts : ∀ w ∈ wsL_law, w.before #[Value.ref b] s = true) (hX : va_X b L xs s s.heap) (hbl : b < s.heap.size) (hlocks : meth.locks = false) (hG0 : G = fun _ => 0) (hK : va_K D.1 vwCl (hw_ty D.2.1) s) (hST : hw_ST D.2.2 G s.heap.size s) (hF : hw_F0 D G s H x mo) (hS : va_S (hw_AW G [1, 2, 3, 4, 5, 6, 7, 8, 9, 10, 11, 12, 13, 14, 15, 16, 17, 18, 19, 20, 21, 22, 23, 24, 25, 26, 27, 28, 29, 30, 31, 32, 40, 42, 44, 45, 46, 48, 49, 50, 51, 53, 55, 58, 59, 67, 68, 69, 70, 71, 72, 73, 74, 75, 76, 77, 78, 79, 80, 81, 82, 83, 84, 101, 102, 103, 104, 105, 106, 107, 108, 109, 127, 128, 129, 132] s.heap.size) s.heap H locs) (hl : lv_has ls 4 [(3, .int 0), (2, .ref mo), (1, .ref x), (0, .ref b)]) : W p l e room_1 s m #[Value.ref b] below meth c H locs 200 8000 (lw_Z below #[Value.ref b] s) (F0 m 523 ls []) := by
  have hH0 : hw_HT D G s.heap := fun a h => absurd (by rw [hG0]) h
  have hbA : ¬ (hw_AW G [1, 2, 3, 4, 5, 6, 7, 8, 9, 10, 11, 12, 13, 14, 15, 16, 17, 18, 19, 20, 21, 22, 23, 24, 25, 26, 27, 28, 29, 30, 31, 32, 40, 42, 44, 45, 46, 48, 49, 50, 51, 53, 55, 58, 59, 67, 68, 69, 70, 71, 72, 73, 74, 75, 76, 77, 78, 79, 80, 81, 82, 83, 84, 101, 102, 103, 104, 105, 106, 107, 108, 109, 127, 128, 129, 132] s.heap.size) b := hw_AWn (k := 0) (by rw [hG0]) (by decide) hbl
  have hLi : (Int32.ofNat L).toInt = (L : Int) := nI_toInt (by omega)
  obtain ⟨G1, rx, rc, rt, rn, fq, rm, fro, fik, fla, fsz, hH, hGe1, wx, wm, gx, gm, Rx, vx, Rc, vc, Rt, vt, Rn, vn, vq, hRK, Rm, vm, vro, hro, vik, hik, vla, vsz, hfs⟩ := hF
  have hHs := hH0
  obtain ⟨la, hla⟩ : ∃ z : Nat → Int32, z = fun _ => -1 := ⟨_, rfl⟩
  obtain ⟨sz9, hsz9⟩ : ∃ z : Nat → Int32, z = fun _ => 0 := ⟨_, rfl⟩
  rw [← hla, ← hsz9] at hRK
  have qq := hRK.q
  have qsz : ∀ j, j < 4 → -1 ≤ (fsz j).toInt ∧ (fsz j).toInt ≤ 24 := fun j hj => by rw [hfs j hj]; decide
  have hro0 : (fro 0).toInt = 0 := by rw [hro]; rfl
  have hro1 : (fro 1).toInt = 0 := by rw [hro]; rfl
  have hro2 : (fro 2).toInt = 0 := by rw [hro]; rfl
  have hla1 : (la (xs 1).toNatClampNeg).toInt = -1 := by rw [hla]; rfl
  have hfs1 : 0 ≤ (xs 1).toInt ∧ (xs 1).toInt ≤ 3 → (fsz (xs 1).toNatClampNeg).toInt = -1 := fun h9 => by rw [hfs _ (hw_i4 h9)]; rfl
  have hla2 : (la (xs 2).toNatClampNeg).toInt = -1 := by rw [hla]; rfl
  have hfs2 : 0 ≤ (xs 2).toInt ∧ (xs 2).toInt ≤ 3 → (fsz (xs 2).toNatClampNeg).toInt = -1 := fun h9 => by rw [hfs _ (hw_i4 h9)]; rfl
  have hla3 : (la (xs 3).toNatClampNeg).toInt = -1 := by rw [hla]; rfl
  have hfs3 : 0 ≤ (xs 3).toInt ∧ (xs 3).toInt ≤ 3 → (fsz (xs 3).toNatClampNeg).toInt = -1 := fun h9 => by rw [hfs _ (hw_i4 h9)]; rfl
  have hik1 : (fik (xs 1).toNatClampNeg).toInt = 0 := by rw [hik]; rfl
  refine lv_aload_n hx hb dL_law_523 rfl (lv_at hl 2 rfl) ?_
  refine hw_cM0 (va_runV (As := []) (rest := []) ⟨hx, hb, hml, hown, hts⟩ (k_X11_undo l D G1 x _ rx 0 0 0 0 gx Rx ⟨by first | decide | omega, by first | decide | omega⟩) (cwV 0 hts gL_law_X11_undo rfl rfl rfl (by decide +kernel) ⟨Nat.le_of_ble_eq_true rfl, Nat.le_of_ble_eq_true rfl⟩) (hw_pV (hw_rc (q := (RX11, TX11, 14)) hK vx rfl) hH hK hST hS (by decide) (hw_hG hGe1) vx) rfl rfl hl.1 rfl (lv_room (Nat.le_of_ble_eq_true rfl)) dL_law_524 ⟨Nat.le_of_ble_eq_true rfl, Nat.le_of_ble_eq_true rfl⟩) hS (hw_AWsub (by decide) hGe1 hS.1) (fun v H locs hp hz hk hS => ?_)
  have l1 : (0 : Int32).toInt = 0 := rfl
  obtain ⟨x2, x3, x4, rfl, hH, v5, q6⟩ := hp
  have hRK := hw_Racks.kept hRK (fun q9 h9 l9 => hk q9 l9 (hw_AWn h9 (by decide) l9))
  have vc := va_at.kept vc (hk _ (hw_lt vc) (hw_AWn (hw_RX_0 Rx) (by decide) (hw_lt vc)))
  have vt := va_at.kept vt (hk _ (hw_lt vt) (hw_AWn (hw_RX_1 Rx) (by decide) (hw_lt vt)))
  have vq := va_at.kept vq (hk _ (hw_lt vq) (hw_AWn (hw_RX_13 Rx) (by decide) (hw_lt vq)))
  have vm := va_at.kept vm (hk _ (hw_lt vm) (hw_AWn gm (by decide) (hw_lt vm)))
  have vro := va_at.kept vro (hk _ (hw_lt vro) (hw_AWn (hw_RM_0 Rm) (by decide) (hw_lt vro)))
  have vik := va_at.kept vik (hk _ (hw_lt vik) (hw_AWn (hw_RM_2 Rm) (by decide) (hw_lt vik)))
  have vla := va_at.kept vla (hk _ (hw_lt vla) (hw_AWn (hw_RM_41 Rm) (by decide) (hw_lt vla)))
  have vsz := va_at.kept vsz (hk _ (hw_lt vsz) (hw_AWn (hw_RM_42 Rm) (by decide) (hw_lt vsz)))
  refine lv_aload_n hx hb dL_law_527 rfl (lv_at hl 1 rfl) ?_
  refine hw_cM0 (va_runV (As := []) (rest := [.int x2]) ⟨hx, hb, hml, hown, hts⟩ (k_X12_undo l D G1 mo _ rm 0 0 0 0 60 0 0 0 0 0 0 0 0 0 gm Rm ⟨by first | decide | omega, by first | decide | omega⟩ ⟨by first | decide | omega, by first | decide | omega⟩ ⟨by first | decide | omega, by first | decide | omega⟩ ⟨by first | decide | omega, by first | decide | omega⟩ ⟨by first | decide | omega, by first | decide | omega⟩ ⟨by first | decide | omega, by first | decide | omega⟩ ⟨by first | decide | omega, by first | decide | omega⟩ ⟨by first | decide | omega, by first | decide | omega⟩ ⟨by first | decide | omega, by first | decide | omega⟩ ⟨by first | decide | omega, by first | decide | omega⟩ ⟨by first | decide | omega, by first | decide | omega⟩ ⟨by first | decide | omega, by first | decide | omega⟩) (cwV 0 hts gL_law_X12_undo rfl rfl rfl (by decide +kernel) ⟨Nat.le_of_ble_eq_true rfl, Nat.le_of_ble_eq_true rfl⟩) (hw_pV (hw_rc (q := (RX12, TX12, 45)) hK vm rfl) hH hK hST hS (by decide) (hw_hG hGe1) vm) rfl rfl hl.1 rfl (lv_room (Nat.le_of_ble_eq_true rfl)) dL_law_528 ⟨Nat.le_of_ble_eq_true rfl, Nat.le_of_ble_eq_true rfl⟩) hS (hw_AWsub (by decide) hGe1 hS.1) (fun v H locs hp hz hk hS => ?_)
  have l7 : (60 : Int32).toInt = 60 := rfl
  obtain ⟨x8, x9, rfl, hH, v10, g11, q12⟩ := hp
  have hRK := hw_Racks.kept hRK (fun q9 h9 l9 => hk q9 l9 (hw_AWn h9 (by decide) l9))
  have v5 := va_at.kept v5 (hk _ (hw_lt v5) (hw_AWn gx (by decide) (hw_lt v5)))
  have vc := va_at.kept vc (hk _ (hw_lt vc) (hw_AWn (hw_RX_0 Rx) (by decide) (hw_lt vc)))
  have vt := va_at.kept vt (hk _ (hw_lt vt) (hw_AWn (hw_RX_1 Rx) (by decide) (hw_lt vt)))
  have vq := va_at.kept vq (hk _ (hw_lt vq) (hw_AWn (hw_RX_13 Rx) (by decide) (hw_lt vq)))
  have vik := va_at.kept vik (hk _ (hw_lt vik) (hw_AWn (hw_RM_2 Rm) (by decide) (hw_lt vik)))
  have vla := va_at.kept vla (hk _ (hw_lt vla) (hw_AWn (hw_RM_41 Rm) (by decide) (hw_lt vla)))
  have vsz := va_at.kept vsz (hk _ (hw_lt vsz) (hw_AWn (hw_RM_42 Rm) (by decide) (hw_lt vsz)))
  refine lv_icmp_eq (tgt := 1188) hx hb dL_law_531 (by decide) (fun c13 => ?_) (fun c13 => ?_)
  · have b14 : x2.toInt = x8.toInt := hw_ieq c13
    refine lv_iinc (v := 6) (lv' := [(3, .int 6), (2, .ref mo), (1, .ref x), (0, .ref b)]) hx hb dL_law_1188 hl (k := 0) rfl (by rfl) (by decide) rfl (fun ls hl => ?_)
    refine lv_goto (tgt := 18) hx hb dL_law_1191 (by decide) ?_
    refine lv_iload_n hx hb dL_law_18 rfl (lv_at hl 0 rfl) ?_
    refine lv_aload_n hx hb dL_law_19 rfl (lv_at hl 3 rfl) ?_
    refine va_slen hx hb hX hbl hbA hS dL_law_20 ?_
    refine lv_bipush (v := 6) hx hb dL_law_21 (by decide) ?_
    refine lv_isub hx hb dL_law_23 ?_
    refine lv_topi (fun x15 e16 => ?_)
    have t17 : x15.toInt = (Int32.ofNat L).toInt - 6 := by rw [e16]; exact hw_sub rfl rfl (by omega) (by omega)
    refine lv_icmp_gt (tgt := 1194) hx hb dL_law_24 (by decide) (fun c18 => ?_) (fun c18 => ?_)
    · have b19 : x15.toInt < 6 := hw_ilt c18
      refine lv_iconst (v := 1) hx hb dL_law_1194 (by decide) ?_
      have hfg := hw_hfg hG0 (by decide) hS.2.2
      refine va_forget hfg ?_
      refine W.widen (k := 600000) (n := 7302250) (by decide) (by decide) ?_
      exact lw_ret hx hb hr hlocks dL_law_1195
    · have b20 : 6 ≤ x15.toInt := hw_inlt c18
      exfalso; omega
  · have b21 : x2.toInt ≠ x8.toInt := hw_ine c13
    exfalso
    first | omega | contradiction | (subst_vars; omega)

set_option maxHeartbeats 40000000 in
set_option maxRecDepth 100000 in
theorem hw_case536 {p : Program} {e : Env} {s : State} {m : MethodId} {below : List Frame} {meth : Method} {c : Code} (l : Launch) {b L : Nat} {xs : Nat → Int32} {D : hw_D} {G : Nat → Nat} {H : Heap} {locs : List Loc} {x mo : Nat} {ls : Array Slot} (hL : L ≤ 6) (hL6 : 6 ≤ L) (hx : p.tables.exec = Jvm.exec) (hb : c.code = code) (hr : meth.sig.returnType = ret) (hml : c.maxLocals = 4) (hown : s.vm.findClass R_law = some m.cls) (hts0 : ∀ w ∈ lw_tbl, w.before #[Value.ref b] s = true) (hts : ∀ w ∈ wsL_law, w.before #[Value.ref b] s = true) (hX : va_X b L xs s s.heap) (hbl : b < s.heap.size) (hlocks : meth.locks = false) (hG0 : G = fun _ => 0) (hK : va_K D.1 vwCl (hw_ty D.2.1) s) (hST : hw_ST D.2.2 G s.heap.size s) (hF : hw_F0 D G s H x mo) (hS : va_S (hw_AW G [1, 2, 3, 4, 5, 6, 7, 8, 9, 10, 11, 12, 13, 14, 15, 16, 17, 18, 19, 20, 21, 22, 23, 24, 25, 26, 27, 28, 29, 30, 31, 32, 40, 42, 44, 45, 46, 48, 49, 50, 51, 53, 55, 58, 59, 67, 68, 69, 70, 71, 72, 73, 74, 75, 76, 77, 78, 79, 80, 81, 82, 83, 84, 101, 102, 103, 104, 105, 106, 107, 108, 109, 127, 128, 129, 132] s.heap.size) s.heap H locs) (hl : lv_has ls 4 [(3, .int 0), (2, .ref mo), (1, .ref x), (0, .ref b)]) : W p l e room_1 s m #[Value.ref b] below meth c H locs 200 8000 (lw_Z below #[Value.ref b] s) (F0 m 536 ls []) := by
  have hH0 : hw_HT D G s.heap := fun a h => absurd (by rw [hG0]) h
  have hbA : ¬ (hw_AW G [1, 2, 3, 4, 5, 6, 7, 8, 9, 10, 11, 12, 13, 14, 15, 16, 17, 18, 19, 20, 21, 22, 23, 24, 25, 26, 27, 28, 29, 30, 31, 32, 40, 42, 44, 45, 46, 48, 49, 50, 51, 53, 55, 58, 59, 67, 68, 69, 70, 71, 72, 73, 74, 75, 76, 77, 78, 79, 80, 81, 82, 83, 84, 101, 102, 103, 104, 105, 106, 107, 108, 109, 127, 128, 129, 132] s.heap.size) b := hw_AWn (k := 0) (by rw [hG0]) (by decide) hbl
  have hLi : (Int32.ofNat L).toInt = (L : Int) := nI_toInt (by omega)
  obtain ⟨G1, rx, rc, rt, rn, fq, rm, fro, fik, fla, fsz, hH, hGe1, wx, wm, gx, gm, Rx, vx, Rc, vc, Rt, vt, Rn, vn, vq, hRK, Rm, vm, vro, hro, vik, hik, vla, vsz, hfs⟩ := hF
  have hHs := hH0
  obtain ⟨la, hla⟩ : ∃ z : Nat → Int32, z = fun _ => -1 := ⟨_, rfl⟩
  obtain ⟨sz9, hsz9⟩ : ∃ z : Nat → Int32, z = fun _ => 0 := ⟨_, rfl⟩
  rw [← hla, ← hsz9] at hRK
  have qq := hRK.q
  have qsz : ∀ j, j < 4 → -1 ≤ (fsz j).toInt ∧ (fsz j).toInt ≤ 24 := fun j hj => by rw [hfs j hj]; decide
  have hro0 : (fro 0).toInt = 0 := by rw [hro]; rfl
  have hro1 : (fro 1).toInt = 0 := by rw [hro]; rfl
  have hro2 : (fro 2).toInt = 0 := by rw [hro]; rfl
  have hla1 : (la (xs 1).toNatClampNeg).toInt = -1 := by rw [hla]; rfl
  have hfs1 : 0 ≤ (xs 1).toInt ∧ (xs 1).toInt ≤ 3 → (fsz (xs 1).toNatClampNeg).toInt = -1 := fun h9 => by rw [hfs _ (hw_i4 h9)]; rfl
  have hla2 : (la (xs 2).toNatClampNeg).toInt = -1 := by rw [hla]; rfl
  have hfs2 : 0 ≤ (xs 2).toInt ∧ (xs 2).toInt ≤ 3 → (fsz (xs 2).toNatClampNeg).toInt = -1 := fun h9 => by rw [hfs _ (hw_i4 h9)]; rfl
  have hla3 : (la (xs 3).toNatClampNeg).toInt = -1 := by rw [hla]; rfl
  have hfs3 : 0 ≤ (xs 3).toInt ∧ (xs 3).toInt ≤ 3 → (fsz (xs 3).toNatClampNeg).toInt = -1 := fun h9 => by rw [hfs _ (hw_i4 h9)]; rfl
  have hik1 : (fik (xs 1).toNatClampNeg).toInt = 0 := by rw [hik]; rfl
  refine lv_aload_n hx hb dL_law_536 rfl (lv_at hl 2 rfl) ?_
  refine lv_aload_n hx hb dL_law_537 rfl (lv_at hl 3 rfl) ?_
  refine lv_iload_n hx hb dL_law_538 rfl (lv_at hl 0 rfl) ?_
  refine lv_iconst (v := 1) hx hb dL_law_539 (by decide) ?_
  refine lv_iadd hx hb dL_law_540 ?_
  refine W.eq (g2 := F0 m 541 ls [.int 1, .ref b, .ref x]) rfl ?_
  refine va_sld hx hb hX hbl hbA hS (hw_in (x := 1) (by decide) (by have h9 : (1 : Int32).toInt = 1 := rfl; omega)) dL_law_541 ?_
  refine W.eq (g2 := F0 m 542 ls [.int (xs 1), .ref x]) rfl ?_
  refine hw_cM0 (va_runV (As := [.int (xs 1)]) (rest := []) ⟨hx, hb, hml, hown, hts⟩ (k_X11_keep l D G1 x (xs 1) _ rx 0 0 0 0 rn 0 0 0 gx Rx ⟨by first | decide | omega, by first | decide | omega⟩ Rn) (cwV 1 hts gL_law_X11_keep rfl rfl rfl (by decide +kernel) ⟨Nat.le_of_ble_eq_true rfl, Nat.le_of_ble_eq_true rfl⟩) (hw_pV (hw_rc (q := (RX11, TX11, 14)) hK vx rfl) hH hK hST hS (by decide) (hw_hG hGe1) ⟨vx, vn⟩) rfl rfl hl.1 rfl (lv_room (Nat.le_of_ble_eq_true rfl)) dL_law_542 ⟨Nat.le_of_ble_eq_true rfl, Nat.le_of_ble_eq_true rfl⟩) hS (hw_AWsub (by decide) hGe1 hS.1) (fun v H locs hp hz hk hS => ?_)
  have l1 : (0 : Int32).toInt = 0 := rfl
  rcases hp with ⟨x2, x3, x4, rfl, hH, v5, v6, q7⟩ | ⟨x8, x9, x10, x11, rfl, hH, v12, v13, q14, q15⟩
  · have hRK := hw_Racks.kept hRK (fun q9 h9 l9 => hk q9 l9 (hw_AWn h9 (by decide) l9))
    have vc := va_at.kept vc (hk _ (hw_lt vc) (hw_AWn (hw_RX_0 Rx) (by decide) (hw_lt vc)))
    have vq := va_at.kept vq (hk _ (hw_lt vq) (hw_AWn (hw_RX_13 Rx) (by decide) (hw_lt vq)))
    have vm := va_at.kept vm (hk _ (hw_lt vm) (hw_AWn gm (by decide) (hw_lt vm)))
    have vro := va_at.kept vro (hk _ (hw_lt vro) (hw_AWn (hw_RM_0 Rm) (by decide) (hw_lt vro)))
    have vik := va_at.kept vik (hk _ (hw_lt vik) (hw_AWn (hw_RM_2 Rm) (by decide) (hw_lt vik)))
    have vla := va_at.kept vla (hk _ (hw_lt vla) (hw_AWn (hw_RM_41 Rm) (by decide) (hw_lt vla)))
    have vsz := va_at.kept vsz (hk _ (hw_lt vsz) (hw_AWn (hw_RM_42 Rm) (by decide) (hw_lt vsz)))
    refine lv_aload_n hx hb dL_law_545 rfl (lv_at hl 1 rfl) ?_
    refine lv_aload_n hx hb dL_law_546 rfl (lv_at hl 3 rfl) ?_
    refine lv_iload_n hx hb dL_law_547 rfl (lv_at hl 0 rfl) ?_
    refine lv_iconst (v := 1) hx hb dL_law_548 (by decide) ?_
    refine lv_iadd hx hb dL_law_549 ?_
    refine W.eq (g2 := F0 m 550 ls [.int 1, .ref b, .ref mo, .int (-2)]) rfl ?_
    refine va_sld hx hb hX hbl hbA hS (hw_in (x := 1) (by decide) (by have h9 : (1 : Int32).toInt = 1 := rfl; omega)) dL_law_550 ?_
    refine W.eq (g2 := F0 m 551 ls [.int (xs 1), .ref mo, .int (-2)]) rfl ?_
    refine hw_cM0 (va_runV (As := [.int (xs 1)]) (rest := [.int (-2)]) ⟨hx, hb, hml, hown, hts⟩ (k_X12_keep l D G1 mo (xs 1) _ rm 0 0 0 0 60 0 0 0 0 0 0 0 0 0 fro gm Rm ⟨by first | decide | omega, by first | decide | omega⟩ ⟨by first | decide | omega, by first | decide | omega⟩ ⟨by first | decide | omega, by first | decide | omega⟩ ⟨by first | decide | omega, by first | decide | omega⟩ ⟨by first | decide | omega, by first | decide | omega⟩ ⟨by first | decide | omega, by first | decide | omega⟩ ⟨by first | decide | omega, by first | decide | omega⟩ ⟨by first | decide | omega, by first | decide | omega⟩ ⟨by first | decide | omega, by first | decide | omega⟩ ⟨by first | decide | omega, by first | decide | omega⟩ ⟨by first | decide | omega, by first | decide | omega⟩ ⟨by first | decide | omega, by first | decide | omega⟩) (cwV 1 hts gL_law_X12_keep rfl rfl rfl (by decide +kernel) ⟨Nat.le_of_ble_eq_true rfl, Nat.le_of_ble_eq_true rfl⟩) (hw_pV (hw_rc (q := (RX12, TX12, 45)) hK vm rfl) hH hK hST hS (by decide) (hw_hG hGe1) ⟨vm, vro⟩) rfl rfl hl.1 rfl (lv_room (Nat.le_of_ble_eq_true rfl)) dL_law_551 ⟨Nat.le_of_ble_eq_true rfl, Nat.le_of_ble_eq_true rfl⟩) hS (hw_AWsub (by decide) hGe1 hS.1) (fun v H locs hp hz hk hS => ?_)
    have l16 : (60 : Int32).toInt = 60 := rfl
    rcases hp with ⟨f17, rfl, hH, v18, v19, q20⟩ | ⟨x21, f22, rfl, hH, v23, v24, q25, q26⟩
    · have hRK := hw_Racks.kept hRK (fun q9 h9 l9 => hk q9 l9 (hw_AWn h9 (by decide) l9))
      have v5 := va_at.kept v5 (hk _ (hw_lt v5) (hw_AWn gx (by decide) (hw_lt v5)))
      have vc := va_at.kept vc (hk _ (hw_lt vc) (hw_AWn (hw_RX_0 Rx) (by decide) (hw_lt vc)))
      have v6 := va_at.kept v6 (hk _ (hw_lt v6) (hw_AWn (hw_RX_2 Rx) (by decide) (hw_lt v6)))
      have vq := va_at.kept vq (hk _ (hw_lt vq) (hw_AWn (hw_RX_13 Rx) (by decide) (hw_lt vq)))
      have vla := va_at.kept vla (hk _ (hw_lt vla) (hw_AWn (hw_RM_41 Rm) (by decide) (hw_lt vla)))
      have vsz := va_at.kept vsz (hk _ (hw_lt vsz) (hw_AWn (hw_RM_42 Rm) (by decide) (hw_lt vsz)))
      refine lv_icmp_eq (tgt := 1188) hx hb dL_law_554 (by decide) (fun c27 => ?_) (fun c27 => ?_)
      · refine lv_iinc (v := 6) (lv' := [(3, .int 6), (2, .ref mo), (1, .ref x), (0, .ref b)]) hx hb dL_law_1188 hl (k := 0) rfl (by rfl) (by decide) rfl (fun ls hl => ?_)
        refine lv_goto (tgt := 18) hx hb dL_law_1191 (by decide) ?_
        refine lv_iload_n hx hb dL_law_18 rfl (lv_at hl 0 rfl) ?_
        refine lv_aload_n hx hb dL_law_19 rfl (lv_at hl 3 rfl) ?_
        refine va_slen hx hb hX hbl hbA hS dL_law_20 ?_
        refine lv_bipush (v := 6) hx hb dL_law_21 (by decide) ?_
        refine lv_isub hx hb dL_law_23 ?_
        refine lv_topi (fun x28 e29 => ?_)
        have t30 : x28.toInt = (Int32.ofNat L).toInt - 6 := by rw [e29]; exact hw_sub rfl rfl (by omega) (by omega)
        refine lv_icmp_gt (tgt := 1194) hx hb dL_law_24 (by decide) (fun c31 => ?_) (fun c31 => ?_)
        · have b32 : x28.toInt < 6 := hw_ilt c31
          refine lv_iconst (v := 1) hx hb dL_law_1194 (by decide) ?_
          have hfg := hw_hfg hG0 (by decide) hS.2.2
          refine va_forget hfg ?_
          refine W.widen (k := 600000) (n := 7302250) (by decide) (by decide) ?_
          exact lw_ret hx hb hr hlocks dL_law_1195
        · have b33 : 6 ≤ x28.toInt := hw_inlt c31
          exfalso; omega
      · exact absurd c27 (by decide)
    · have q26i := hw_ieq q26
      have hRK := hw_Racks.kept hRK (fun q9 h9 l9 => hk q9 l9 (hw_AWn h9 (by decide) l9))
      have v5 := va_at.kept v5 (hk _ (hw_lt v5) (hw_AWn gx (by decide) (hw_lt v5)))
      have vc := va_at.kept vc (hk _ (hw_lt vc) (hw_AWn (hw_RX_0 Rx) (by decide) (hw_lt vc)))
      have v6 := va_at.kept v6 (hk _ (hw_lt v6) (hw_AWn (hw_RX_2 Rx) (by decide) (hw_lt v6)))
      have vq := va_at.kept vq (hk _ (hw_lt vq) (hw_AWn (hw_RX_13 Rx) (by decide) (hw_lt vq)))
      have vla := va_at.kept vla (hk _ (hw_lt vla) (hw_AWn (hw_RM_41 Rm) (by decide) (hw_lt vla)))
      have vsz := va_at.kept vsz (hk _ (hw_lt vsz) (hw_AWn (hw_RM_42 Rm) (by decide) (hw_lt vsz)))
      refine lv_icmp_eq (tgt := 1188) hx hb dL_law_554 (by decide) (fun c34 => ?_) (fun c34 => ?_)
      · have b35 : (-2) = x21.toInt := hw_ieq c34
        refine lv_iinc (v := 6) (lv' := [(3, .int 6), (2, .ref mo), (1, .ref x), (0, .ref b)]) hx hb dL_law_1188 hl (k := 0) rfl (by rfl) (by decide) rfl (fun ls hl => ?_)
        refine lv_goto (tgt := 18) hx hb dL_law_1191 (by decide) ?_
        refine lv_iload_n hx hb dL_law_18 rfl (lv_at hl 0 rfl) ?_
        refine lv_aload_n hx hb dL_law_19 rfl (lv_at hl 3 rfl) ?_
        refine va_slen hx hb hX hbl hbA hS dL_law_20 ?_
        refine lv_bipush (v := 6) hx hb dL_law_21 (by decide) ?_
        refine lv_isub hx hb dL_law_23 ?_
        refine lv_topi (fun x36 e37 => ?_)
        have t38 : x36.toInt = (Int32.ofNat L).toInt - 6 := by rw [e37]; exact hw_sub rfl rfl (by omega) (by omega)
        refine lv_icmp_gt (tgt := 1194) hx hb dL_law_24 (by decide) (fun c39 => ?_) (fun c39 => ?_)
        · have b40 : x36.toInt < 6 := hw_ilt c39
          refine lv_iconst (v := 1) hx hb dL_law_1194 (by decide) ?_
          have hfg := hw_hfg hG0 (by decide) hS.2.2
          refine va_forget hfg ?_
          refine W.widen (k := 600000) (n := 7302250) (by decide) (by decide) ?_
          exact lw_ret hx hb hr hlocks dL_law_1195
        · have b41 : 6 ≤ x36.toInt := hw_inlt c39
          exfalso; omega
      · have b42 : (-2) ≠ x21.toInt := hw_ine c34
        exfalso
        first | omega | contradiction | (subst_vars; omega)
  · have q15i := hw_ieq q15
    have hRK := hw_Racks.kept hRK (fun q9 h9 l9 => hk q9 l9 (hw_AWn h9 (by decide) l9))
    have vc := va_at.kept vc (hk _ (hw_lt vc) (hw_AWn (hw_RX_0 Rx) (by decide) (hw_lt vc)))
    have vq := va_at.kept vq (hk _ (hw_lt vq) (hw_AWn (hw_RX_13 Rx) (by decide) (hw_lt vq)))
    have vm := va_at.kept vm (hk _ (hw_lt vm) (hw_AWn gm (by decide) (hw_lt vm)))
    have vro := va_at.kept vro (hk _ (hw_lt vro) (hw_AWn (hw_RM_0 Rm) (by decide) (hw_lt vro)))
    have vik := va_at.kept vik (hk _ (hw_lt vik) (hw_AWn (hw_RM_2 Rm) (by decide) (hw_lt vik)))
    have vla := va_at.kept vla (hk _ (hw_lt vla) (hw_AWn (hw_RM_41 Rm) (by decide) (hw_lt vla)))
    have vsz := va_at.kept vsz (hk _ (hw_lt vsz) (hw_AWn (hw_RM_42 Rm) (by decide) (hw_lt vsz)))
    refine lv_aload_n hx hb dL_law_545 rfl (lv_at hl 1 rfl) ?_
    refine lv_aload_n hx hb dL_law_546 rfl (lv_at hl 3 rfl) ?_
    refine lv_iload_n hx hb dL_law_547 rfl (lv_at hl 0 rfl) ?_
    refine lv_iconst (v := 1) hx hb dL_law_548 (by decide) ?_
    refine lv_iadd hx hb dL_law_549 ?_
    refine W.eq (g2 := F0 m 550 ls [.int 1, .ref b, .ref mo, .int x8]) rfl ?_
    refine va_sld hx hb hX hbl hbA hS (hw_in (x := 1) (by decide) (by have h9 : (1 : Int32).toInt = 1 := rfl; omega)) dL_law_550 ?_
    refine W.eq (g2 := F0 m 551 ls [.int (xs 1), .ref mo, .int x8]) rfl ?_
    refine hw_cM0 (va_runV (As := [.int (xs 1)]) (rest := [.int x8]) ⟨hx, hb, hml, hown, hts⟩ (k_X12_keep l D G1 mo (xs 1) _ rm 0 0 0 0 60 0 0 0 0 0 0 0 0 0 fro gm Rm ⟨by first | decide | omega, by first | decide | omega⟩ ⟨by first | decide | omega, by first | decide | omega⟩ ⟨by first | decide | omega, by first | decide | omega⟩ ⟨by first | decide | omega, by first | decide | omega⟩ ⟨by first | decide | omega, by first | decide | omega⟩ ⟨by first | decide | omega, by first | decide | omega⟩ ⟨by first | decide | omega, by first | decide | omega⟩ ⟨by first | decide | omega, by first | decide | omega⟩ ⟨by first | decide | omega, by first | decide | omega⟩ ⟨by first | decide | omega, by first | decide | omega⟩ ⟨by first | decide | omega, by first | decide | omega⟩ ⟨by first | decide | omega, by first | decide | omega⟩) (cwV 1 hts gL_law_X12_keep rfl rfl rfl (by decide +kernel) ⟨Nat.le_of_ble_eq_true rfl, Nat.le_of_ble_eq_true rfl⟩) (hw_pV (hw_rc (q := (RX12, TX12, 45)) hK vm rfl) hH hK hST hS (by decide) (hw_hG hGe1) ⟨vm, vro⟩) rfl rfl hl.1 rfl (lv_room (Nat.le_of_ble_eq_true rfl)) dL_law_551 ⟨Nat.le_of_ble_eq_true rfl, Nat.le_of_ble_eq_true rfl⟩) hS (hw_AWsub (by decide) hGe1 hS.1) (fun v H locs hp hz hk hS => ?_)
    have l43 : (60 : Int32).toInt = 60 := rfl
    rcases hp with ⟨f44, rfl, hH, v45, v46, q47⟩ | ⟨x48, f49, rfl, hH, v50, v51, q52, q53⟩
    · have hRK := hw_Racks.kept hRK (fun q9 h9 l9 => hk q9 l9 (hw_AWn h9 (by decide) l9))
      have v12 := va_at.kept v12 (hk _ (hw_lt v12) (hw_AWn gx (by decide) (hw_lt v12)))
      have vc := va_at.kept vc (hk _ (hw_lt vc) (hw_AWn (hw_RX_0 Rx) (by decide) (hw_lt vc)))
      have v13 := va_at.kept v13 (hk _ (hw_lt v13) (hw_AWn (hw_RX_2 Rx) (by decide) (hw_lt v13)))
      have vq := va_at.kept vq (hk _ (hw_lt vq) (hw_AWn (hw_RX_13 Rx) (by decide) (hw_lt vq)))
      have vla := va_at.kept vla (hk _ (hw_lt vla) (hw_AWn (hw_RM_41 Rm) (by decide) (hw_lt vla)))
      have vsz := va_at.kept vsz (hk _ (hw_lt vsz) (hw_AWn (hw_RM_42 Rm) (by decide) (hw_lt vsz)))
      refine lv_icmp_eq (tgt := 1188) hx hb dL_law_554 (by decide) (fun c54 => ?_) (fun c54 => ?_)
      · have b55 : x8.toInt = (-2) := hw_ieq c54
        refine lv_iinc (v := 6) (lv' := [(3, .int 6), (2, .ref mo), (1, .ref x), (0, .ref b)]) hx hb dL_law_1188 hl (k := 0) rfl (by rfl) (by decide) rfl (fun ls hl => ?_)
        refine lv_goto (tgt := 18) hx hb dL_law_1191 (by decide) ?_
        refine lv_iload_n hx hb dL_law_18 rfl (lv_at hl 0 rfl) ?_
        refine lv_aload_n hx hb dL_law_19 rfl (lv_at hl 3 rfl) ?_
        refine va_slen hx hb hX hbl hbA hS dL_law_20 ?_
        refine lv_bipush (v := 6) hx hb dL_law_21 (by decide) ?_
        refine lv_isub hx hb dL_law_23 ?_
        refine lv_topi (fun x56 e57 => ?_)
        have t58 : x56.toInt = (Int32.ofNat L).toInt - 6 := by rw [e57]; exact hw_sub rfl rfl (by omega) (by omega)
        refine lv_icmp_gt (tgt := 1194) hx hb dL_law_24 (by decide) (fun c59 => ?_) (fun c59 => ?_)
        · have b60 : x56.toInt < 6 := hw_ilt c59
          refine lv_iconst (v := 1) hx hb dL_law_1194 (by decide) ?_
          have hfg := hw_hfg hG0 (by decide) hS.2.2
          refine va_forget hfg ?_
          refine W.widen (k := 600000) (n := 7302250) (by decide) (by decide) ?_
          exact lw_ret hx hb hr hlocks dL_law_1195
        · have b61 : 6 ≤ x56.toInt := hw_inlt c59
          exfalso; omega
      · have b62 : x8.toInt ≠ (-2) := hw_ine c54
        exfalso
        first | omega | contradiction | (subst_vars; omega)
    · have q53i := hw_ieq q53
      have hRK := hw_Racks.kept hRK (fun q9 h9 l9 => hk q9 l9 (hw_AWn h9 (by decide) l9))
      have v12 := va_at.kept v12 (hk _ (hw_lt v12) (hw_AWn gx (by decide) (hw_lt v12)))
      have vc := va_at.kept vc (hk _ (hw_lt vc) (hw_AWn (hw_RX_0 Rx) (by decide) (hw_lt vc)))
      have v13 := va_at.kept v13 (hk _ (hw_lt v13) (hw_AWn (hw_RX_2 Rx) (by decide) (hw_lt v13)))
      have vq := va_at.kept vq (hk _ (hw_lt vq) (hw_AWn (hw_RX_13 Rx) (by decide) (hw_lt vq)))
      have vla := va_at.kept vla (hk _ (hw_lt vla) (hw_AWn (hw_RM_41 Rm) (by decide) (hw_lt vla)))
      have vsz := va_at.kept vsz (hk _ (hw_lt vsz) (hw_AWn (hw_RM_42 Rm) (by decide) (hw_lt vsz)))
      refine lv_icmp_eq (tgt := 1188) hx hb dL_law_554 (by decide) (fun c63 => ?_) (fun c63 => ?_)
      · have b64 : x8.toInt = x48.toInt := hw_ieq c63
        refine lv_iinc (v := 6) (lv' := [(3, .int 6), (2, .ref mo), (1, .ref x), (0, .ref b)]) hx hb dL_law_1188 hl (k := 0) rfl (by rfl) (by decide) rfl (fun ls hl => ?_)
        refine lv_goto (tgt := 18) hx hb dL_law_1191 (by decide) ?_
        refine lv_iload_n hx hb dL_law_18 rfl (lv_at hl 0 rfl) ?_
        refine lv_aload_n hx hb dL_law_19 rfl (lv_at hl 3 rfl) ?_
        refine va_slen hx hb hX hbl hbA hS dL_law_20 ?_
        refine lv_bipush (v := 6) hx hb dL_law_21 (by decide) ?_
        refine lv_isub hx hb dL_law_23 ?_
        refine lv_topi (fun x65 e66 => ?_)
        have t67 : x65.toInt = (Int32.ofNat L).toInt - 6 := by rw [e66]; exact hw_sub rfl rfl (by omega) (by omega)
        refine lv_icmp_gt (tgt := 1194) hx hb dL_law_24 (by decide) (fun c68 => ?_) (fun c68 => ?_)
        · have b69 : x65.toInt < 6 := hw_ilt c68
          refine lv_iconst (v := 1) hx hb dL_law_1194 (by decide) ?_
          have hfg := hw_hfg hG0 (by decide) hS.2.2
          refine va_forget hfg ?_
          refine W.widen (k := 600000) (n := 7302250) (by decide) (by decide) ?_
          exact lw_ret hx hb hr hlocks dL_law_1195
        · have b70 : 6 ≤ x65.toInt := hw_inlt c68
          exfalso; omega
      · have b71 : x8.toInt ≠ x48.toInt := hw_ine c63
        exfalso
        first | omega | contradiction | (subst_vars; omega)

set_option maxHeartbeats 40000000 in
set_option maxRecDepth 100000 in
theorem hw_case559 {p : Program} {e : Env} {s : State} {m : MethodId} {below : List Frame} {meth : Method} {c : Code} (l : Launch) {b L : Nat} {xs : Nat → Int32} {D : hw_D} {G : Nat → Nat} {H : Heap} {locs : List Loc} {x mo : Nat} {ls : Array Slot} (hL : L ≤ 6) (hL6 : 6 ≤ L) (hx : p.tables.exec = Jvm.exec) (hb : c.code = code) (hr : meth.sig.returnType = ret) (hml : c.maxLocals = 4) (hown : s.vm.findClass R_law = some m.cls) (hts0 : ∀ w ∈ lw_tbl, w.before #[Value.ref b] s = true) (hts : ∀ w ∈ wsL_law, w.before #[Value.ref b] s = true) (hX : va_X b L xs s s.heap) (hbl : b < s.heap.size) (hlocks : meth.locks = false) (hG0 : G = fun _ => 0) (hK : va_K D.1 vwCl (hw_ty D.2.1) s) (hST : hw_ST D.2.2 G s.heap.size s) (hF : hw_F0 D G s H x mo) (hS : va_S (hw_AW G [1, 2, 3, 4, 5, 6, 7, 8, 9, 10, 11, 12, 13, 14, 15, 16, 17, 18, 19, 20, 21, 22, 23, 24, 25, 26, 27, 28, 29, 30, 31, 32, 40, 42, 44, 45, 46, 48, 49, 50, 51, 53, 55, 58, 59, 67, 68, 69, 70, 71, 72, 73, 74, 75, 76, 77, 78, 79, 80, 81, 82, 83, 84, 101, 102, 103, 104, 105, 106, 107, 108, 109, 127, 128, 129, 132] s.heap.size) s.heap H locs) (hl : lv_has ls 4 [(3, .int 0), (2, .ref mo), (1, .ref x), (0, .ref b)]) : W p l e room_1 s m #[Value.ref b] below meth c H locs 200 8000 (lw_Z below #[Value.ref b] s) (F0 m 559 ls []) := by
  have hH0 : hw_HT D G s.heap := fun a h => absurd (by rw [hG0]) h
  have hbA : ¬ (hw_AW G [1, 2, 3, 4, 5, 6, 7, 8, 9, 10, 11, 12, 13, 14, 15, 16, 17, 18, 19, 20, 21, 22, 23, 24, 25, 26, 27, 28, 29, 30, 31, 32, 40, 42, 44, 45, 46, 48, 49, 50, 51, 53, 55, 58, 59, 67, 68, 69, 70, 71, 72, 73, 74, 75, 76, 77, 78, 79, 80, 81, 82, 83, 84, 101, 102, 103, 104, 105, 106, 107, 108, 109, 127, 128, 129, 132] s.heap.size) b := hw_AWn (k := 0) (by rw [hG0]) (by decide) hbl
  have hLi : (Int32.ofNat L).toInt = (L : Int) := nI_toInt (by omega)
  obtain ⟨G1, rx, rc, rt, rn, fq, rm, fro, fik, fla, fsz, hH, hGe1, wx, wm, gx, gm, Rx, vx, Rc, vc, Rt, vt, Rn, vn, vq, hRK, Rm, vm, vro, hro, vik, hik, vla, vsz, hfs⟩ := hF
  have hHs := hH0
  obtain ⟨la, hla⟩ : ∃ z : Nat → Int32, z = fun _ => -1 := ⟨_, rfl⟩
  obtain ⟨sz9, hsz9⟩ : ∃ z : Nat → Int32, z = fun _ => 0 := ⟨_, rfl⟩
  rw [← hla, ← hsz9] at hRK
  have qq := hRK.q
  have qsz : ∀ j, j < 4 → -1 ≤ (fsz j).toInt ∧ (fsz j).toInt ≤ 24 := fun j hj => by rw [hfs j hj]; decide
  have hro0 : (fro 0).toInt = 0 := by rw [hro]; rfl
  have hro1 : (fro 1).toInt = 0 := by rw [hro]; rfl
  have hro2 : (fro 2).toInt = 0 := by rw [hro]; rfl
  have hla1 : (la (xs 1).toNatClampNeg).toInt = -1 := by rw [hla]; rfl
  have hfs1 : 0 ≤ (xs 1).toInt ∧ (xs 1).toInt ≤ 3 → (fsz (xs 1).toNatClampNeg).toInt = -1 := fun h9 => by rw [hfs _ (hw_i4 h9)]; rfl
  have hla2 : (la (xs 2).toNatClampNeg).toInt = -1 := by rw [hla]; rfl
  have hfs2 : 0 ≤ (xs 2).toInt ∧ (xs 2).toInt ≤ 3 → (fsz (xs 2).toNatClampNeg).toInt = -1 := fun h9 => by rw [hfs _ (hw_i4 h9)]; rfl
  have hla3 : (la (xs 3).toNatClampNeg).toInt = -1 := by rw [hla]; rfl
  have hfs3 : 0 ≤ (xs 3).toInt ∧ (xs 3).toInt ≤ 3 → (fsz (xs 3).toNatClampNeg).toInt = -1 := fun h9 => by rw [hfs _ (hw_i4 h9)]; rfl
  have hik1 : (fik (xs 1).toNatClampNeg).toInt = 0 := by rw [hik]; rfl
  refine lv_aload_n hx hb dL_law_559 rfl (lv_at hl 2 rfl) ?_
  refine lv_aload_n hx hb dL_law_560 rfl (lv_at hl 3 rfl) ?_
  refine lv_iload_n hx hb dL_law_561 rfl (lv_at hl 0 rfl) ?_
  refine lv_iconst (v := 1) hx hb dL_law_562 (by decide) ?_
  refine lv_iadd hx hb dL_law_563 ?_
  refine W.eq (g2 := F0 m 564 ls [.int 1, .ref b, .ref x]) rfl ?_
  refine va_sld hx hb hX hbl hbA hS (hw_in (x := 1) (by decide) (by have h9 : (1 : Int32).toInt = 1 := rfl; omega)) dL_law_564 ?_
  refine W.eq (g2 := F0 m 565 ls [.int (xs 1), .ref x]) rfl ?_
  refine hw_cM0 (va_runV (As := [.int (xs 1)]) (rest := []) ⟨hx, hb, hml, hown, hts⟩ (k_X11_back l D G1 x (xs 1) _ rx 0 0 0 0 gx Rx ⟨by first | decide | omega, by first | decide | omega⟩) (cwV 1 hts gL_law_X11_back rfl rfl rfl (by decide +kernel) ⟨Nat.le_of_ble_eq_true rfl, Nat.le_of_ble_eq_true rfl⟩) (hw_pV (hw_rc (q := (RX11, TX11, 14)) hK vx rfl) hH hK hST hS (by decide) (hw_hG hGe1) vx) rfl rfl hl.1 rfl (lv_room (Nat.le_of_ble_eq_true rfl)) dL_law_565 ⟨Nat.le_of_ble_eq_true rfl, Nat.le_of_ble_eq_true rfl⟩) hS (hw_AWsub (by decide) hGe1 hS.1) (fun v H locs hp hz hk hS => ?_)
  have l1 : (0 : Int32).toInt = 0 := rfl
  rcases hp with ⟨x2, rfl, hH, v3, q4⟩ | ⟨x5, rfl, hH, v6, q7⟩ | ⟨x8, x9, rfl, hH, v10, q11, q12⟩
  · have hRK := hw_Racks.kept hRK (fun q9 h9 l9 => hk q9 l9 (hw_AWn h9 (by decide) l9))
    have vc := va_at.kept vc (hk _ (hw_lt vc) (hw_AWn (hw_RX_0 Rx) (by decide) (hw_lt vc)))
    have vq := va_at.kept vq (hk _ (hw_lt vq) (hw_AWn (hw_RX_13 Rx) (by decide) (hw_lt vq)))
    have vm := va_at.kept vm (hk _ (hw_lt vm) (hw_AWn gm (by decide) (hw_lt vm)))
    have vro := va_at.kept vro (hk _ (hw_lt vro) (hw_AWn (hw_RM_0 Rm) (by decide) (hw_lt vro)))
    have vik := va_at.kept vik (hk _ (hw_lt vik) (hw_AWn (hw_RM_2 Rm) (by decide) (hw_lt vik)))
    have vla := va_at.kept vla (hk _ (hw_lt vla) (hw_AWn (hw_RM_41 Rm) (by decide) (hw_lt vla)))
    have vsz := va_at.kept vsz (hk _ (hw_lt vsz) (hw_AWn (hw_RM_42 Rm) (by decide) (hw_lt vsz)))
    refine lv_aload_n hx hb dL_law_568 rfl (lv_at hl 1 rfl) ?_
    refine lv_aload_n hx hb dL_law_569 rfl (lv_at hl 3 rfl) ?_
    refine lv_iload_n hx hb dL_law_570 rfl (lv_at hl 0 rfl) ?_
    refine lv_iconst (v := 1) hx hb dL_law_571 (by decide) ?_
    refine lv_iadd hx hb dL_law_572 ?_
    refine W.eq (g2 := F0 m 573 ls [.int 1, .ref b, .ref mo, .int (-2)]) rfl ?_
    refine va_sld hx hb hX hbl hbA hS (hw_in (x := 1) (by decide) (by have h9 : (1 : Int32).toInt = 1 := rfl; omega)) dL_law_573 ?_
    refine W.eq (g2 := F0 m 574 ls [.int (xs 1), .ref mo, .int (-2)]) rfl ?_
    refine hw_cM0 (va_runV (As := [.int (xs 1)]) (rest := [.int (-2)]) ⟨hx, hb, hml, hown, hts⟩ (k_X12_back l D G1 mo (xs 1) _ rm 0 0 0 0 60 0 0 0 0 0 0 0 0 0 fik gm Rm ⟨by first | decide | omega, by first | decide | omega⟩ ⟨by first | decide | omega, by first | decide | omega⟩ ⟨by first | decide | omega, by first | decide | omega⟩ ⟨by first | decide | omega, by first | decide | omega⟩ ⟨by first | decide | omega, by first | decide | omega⟩ ⟨by first | decide | omega, by first | decide | omega⟩ ⟨by first | decide | omega, by first | decide | omega⟩ ⟨by first | decide | omega, by first | decide | omega⟩ ⟨by first | decide | omega, by first | decide | omega⟩ ⟨by first | decide | omega, by first | decide | omega⟩ ⟨by first | decide | omega, by first | decide | omega⟩ ⟨by first | decide | omega, by first | decide | omega⟩) (cwV 1 hts gL_law_X12_back rfl rfl rfl (by decide +kernel) ⟨Nat.le_of_ble_eq_true rfl, Nat.le_of_ble_eq_true rfl⟩) (hw_pV (hw_rc (q := (RX12, TX12, 45)) hK vm rfl) hH hK hST hS (by decide) (hw_hG hGe1) ⟨vm, vik⟩) rfl rfl hl.1 rfl (lv_room (Nat.le_of_ble_eq_true rfl)) dL_law_574 ⟨Nat.le_of_ble_eq_true rfl, Nat.le_of_ble_eq_true rfl⟩) hS (hw_AWsub (by decide) hGe1 hS.1) (fun v H locs hp hz hk hS => ?_)
    have l13 : (60 : Int32).toInt = 60 := rfl
    rcases hp with ⟨x14, rfl, hH, v15, v16, g17, q18⟩ | ⟨x19, rfl, hH, v20, v21, g22, q23⟩ | ⟨x24, x25, rfl, hH, v26, v27, g28, q29, q30⟩
    · have hRK := hw_Racks.kept hRK (fun q9 h9 l9 => hk q9 l9 (hw_AWn h9 (by decide) l9))
      have v3 := va_at.kept v3 (hk _ (hw_lt v3) (hw_AWn gx (by decide) (hw_lt v3)))
      have vc := va_at.kept vc (hk _ (hw_lt vc) (hw_AWn (hw_RX_0 Rx) (by decide) (hw_lt vc)))
      have vq := va_at.kept vq (hk _ (hw_lt vq) (hw_AWn (hw_RX_13 Rx) (by decide) (hw_lt vq)))
      have vla := va_at.kept vla (hk _ (hw_lt vla) (hw_AWn (hw_RM_41 Rm) (by decide) (hw_lt vla)))
      have vsz := va_at.kept vsz (hk _ (hw_lt vsz) (hw_AWn (hw_RM_42 Rm) (by decide) (hw_lt vsz)))
      refine lv_icmp_eq (tgt := 1188) hx hb dL_law_577 (by decide) (fun c31 => ?_) (fun c31 => ?_)
      · refine lv_iinc (v := 6) (lv' := [(3, .int 6), (2, .ref mo), (1, .ref x), (0, .ref b)]) hx hb dL_law_1188 hl (k := 0) rfl (by rfl) (by decide) rfl (fun ls hl => ?_)
        refine lv_goto (tgt := 18) hx hb dL_law_1191 (by decide) ?_
        refine lv_iload_n hx hb dL_law_18 rfl (lv_at hl 0 rfl) ?_
        refine lv_aload_n hx hb dL_law_19 rfl (lv_at hl 3 rfl) ?_
        refine va_slen hx hb hX hbl hbA hS dL_law_20 ?_
        refine lv_bipush (v := 6) hx hb dL_law_21 (by decide) ?_
        refine lv_isub hx hb dL_law_23 ?_
        refine lv_topi (fun x32 e33 => ?_)
        have t34 : x32.toInt = (Int32.ofNat L).toInt - 6 := by rw [e33]; exact hw_sub rfl rfl (by omega) (by omega)
        refine lv_icmp_gt (tgt := 1194) hx hb dL_law_24 (by decide) (fun c35 => ?_) (fun c35 => ?_)
        · have b36 : x32.toInt < 6 := hw_ilt c35
          refine lv_iconst (v := 1) hx hb dL_law_1194 (by decide) ?_
          have hfg := hw_hfg hG0 (by decide) hS.2.2
          refine va_forget hfg ?_
          refine W.widen (k := 600000) (n := 7302250) (by decide) (by decide) ?_
          exact lw_ret hx hb hr hlocks dL_law_1195
        · have b37 : 6 ≤ x32.toInt := hw_inlt c35
          exfalso; omega
      · exact absurd c31 (by decide)
    · have hRK := hw_Racks.kept hRK (fun q9 h9 l9 => hk q9 l9 (hw_AWn h9 (by decide) l9))
      have v3 := va_at.kept v3 (hk _ (hw_lt v3) (hw_AWn gx (by decide) (hw_lt v3)))
      have vc := va_at.kept vc (hk _ (hw_lt vc) (hw_AWn (hw_RX_0 Rx) (by decide) (hw_lt vc)))
      have vq := va_at.kept vq (hk _ (hw_lt vq) (hw_AWn (hw_RX_13 Rx) (by decide) (hw_lt vq)))
      have vla := va_at.kept vla (hk _ (hw_lt vla) (hw_AWn (hw_RM_41 Rm) (by decide) (hw_lt vla)))
      have vsz := va_at.kept vsz (hk _ (hw_lt vsz) (hw_AWn (hw_RM_42 Rm) (by decide) (hw_lt vsz)))
      refine lv_icmp_eq (tgt := 1188) hx hb dL_law_577 (by decide) (fun c38 => ?_) (fun c38 => ?_)
      · exact absurd c38 (by decide)
      · exfalso
        first | omega | contradiction | (subst_vars; omega)
    · have hRK := hw_Racks.kept hRK (fun q9 h9 l9 => hk q9 l9 (hw_AWn h9 (by decide) l9))
      have v3 := va_at.kept v3 (hk _ (hw_lt v3) (hw_AWn gx (by decide) (hw_lt v3)))
      have vc := va_at.kept vc (hk _ (hw_lt vc) (hw_AWn (hw_RX_0 Rx) (by decide) (hw_lt vc)))
      have vq := va_at.kept vq (hk _ (hw_lt vq) (hw_AWn (hw_RX_13 Rx) (by decide) (hw_lt vq)))
      have vla := va_at.kept vla (hk _ (hw_lt vla) (hw_AWn (hw_RM_41 Rm) (by decide) (hw_lt vla)))
      have vsz := va_at.kept vsz (hk _ (hw_lt vsz) (hw_AWn (hw_RM_42 Rm) (by decide) (hw_lt vsz)))
      refine lv_icmp_eq (tgt := 1188) hx hb dL_law_577 (by decide) (fun c39 => ?_) (fun c39 => ?_)
      · have b40 : (-2) = x24.toInt := hw_ieq c39
        refine lv_iinc (v := 6) (lv' := [(3, .int 6), (2, .ref mo), (1, .ref x), (0, .ref b)]) hx hb dL_law_1188 hl (k := 0) rfl (by rfl) (by decide) rfl (fun ls hl => ?_)
        refine lv_goto (tgt := 18) hx hb dL_law_1191 (by decide) ?_
        refine lv_iload_n hx hb dL_law_18 rfl (lv_at hl 0 rfl) ?_
        refine lv_aload_n hx hb dL_law_19 rfl (lv_at hl 3 rfl) ?_
        refine va_slen hx hb hX hbl hbA hS dL_law_20 ?_
        refine lv_bipush (v := 6) hx hb dL_law_21 (by decide) ?_
        refine lv_isub hx hb dL_law_23 ?_
        refine lv_topi (fun x41 e42 => ?_)
        have t43 : x41.toInt = (Int32.ofNat L).toInt - 6 := by rw [e42]; exact hw_sub rfl rfl (by omega) (by omega)
        refine lv_icmp_gt (tgt := 1194) hx hb dL_law_24 (by decide) (fun c44 => ?_) (fun c44 => ?_)
        · have b45 : x41.toInt < 6 := hw_ilt c44
          refine lv_iconst (v := 1) hx hb dL_law_1194 (by decide) ?_
          have hfg := hw_hfg hG0 (by decide) hS.2.2
          refine va_forget hfg ?_
          refine W.widen (k := 600000) (n := 7302250) (by decide) (by decide) ?_
          exact lw_ret hx hb hr hlocks dL_law_1195
        · have b46 : 6 ≤ x41.toInt := hw_inlt c44
          exfalso; omega
      · have b47 : (-2) ≠ x24.toInt := hw_ine c39
        exfalso
        first | omega | contradiction | (subst_vars; omega)
  · have hRK := hw_Racks.kept hRK (fun q9 h9 l9 => hk q9 l9 (hw_AWn h9 (by decide) l9))
    have vc := va_at.kept vc (hk _ (hw_lt vc) (hw_AWn (hw_RX_0 Rx) (by decide) (hw_lt vc)))
    have vq := va_at.kept vq (hk _ (hw_lt vq) (hw_AWn (hw_RX_13 Rx) (by decide) (hw_lt vq)))
    have vm := va_at.kept vm (hk _ (hw_lt vm) (hw_AWn gm (by decide) (hw_lt vm)))
    have vro := va_at.kept vro (hk _ (hw_lt vro) (hw_AWn (hw_RM_0 Rm) (by decide) (hw_lt vro)))
    have vik := va_at.kept vik (hk _ (hw_lt vik) (hw_AWn (hw_RM_2 Rm) (by decide) (hw_lt vik)))
    have vla := va_at.kept vla (hk _ (hw_lt vla) (hw_AWn (hw_RM_41 Rm) (by decide) (hw_lt vla)))
    have vsz := va_at.kept vsz (hk _ (hw_lt vsz) (hw_AWn (hw_RM_42 Rm) (by decide) (hw_lt vsz)))
    refine lv_aload_n hx hb dL_law_568 rfl (lv_at hl 1 rfl) ?_
    refine lv_aload_n hx hb dL_law_569 rfl (lv_at hl 3 rfl) ?_
    refine lv_iload_n hx hb dL_law_570 rfl (lv_at hl 0 rfl) ?_
    refine lv_iconst (v := 1) hx hb dL_law_571 (by decide) ?_
    refine lv_iadd hx hb dL_law_572 ?_
    refine W.eq (g2 := F0 m 573 ls [.int 1, .ref b, .ref mo, .int (-4)]) rfl ?_
    refine va_sld hx hb hX hbl hbA hS (hw_in (x := 1) (by decide) (by have h9 : (1 : Int32).toInt = 1 := rfl; omega)) dL_law_573 ?_
    refine W.eq (g2 := F0 m 574 ls [.int (xs 1), .ref mo, .int (-4)]) rfl ?_
    refine hw_cM0 (va_runV (As := [.int (xs 1)]) (rest := [.int (-4)]) ⟨hx, hb, hml, hown, hts⟩ (k_X12_back l D G1 mo (xs 1) _ rm 0 0 0 0 60 0 0 0 0 0 0 0 0 0 fik gm Rm ⟨by first | decide | omega, by first | decide | omega⟩ ⟨by first | decide | omega, by first | decide | omega⟩ ⟨by first | decide | omega, by first | decide | omega⟩ ⟨by first | decide | omega, by first | decide | omega⟩ ⟨by first | decide | omega, by first | decide | omega⟩ ⟨by first | decide | omega, by first | decide | omega⟩ ⟨by first | decide | omega, by first | decide | omega⟩ ⟨by first | decide | omega, by first | decide | omega⟩ ⟨by first | decide | omega, by first | decide | omega⟩ ⟨by first | decide | omega, by first | decide | omega⟩ ⟨by first | decide | omega, by first | decide | omega⟩ ⟨by first | decide | omega, by first | decide | omega⟩) (cwV 1 hts gL_law_X12_back rfl rfl rfl (by decide +kernel) ⟨Nat.le_of_ble_eq_true rfl, Nat.le_of_ble_eq_true rfl⟩) (hw_pV (hw_rc (q := (RX12, TX12, 45)) hK vm rfl) hH hK hST hS (by decide) (hw_hG hGe1) ⟨vm, vik⟩) rfl rfl hl.1 rfl (lv_room (Nat.le_of_ble_eq_true rfl)) dL_law_574 ⟨Nat.le_of_ble_eq_true rfl, Nat.le_of_ble_eq_true rfl⟩) hS (hw_AWsub (by decide) hGe1 hS.1) (fun v H locs hp hz hk hS => ?_)
    have l48 : (60 : Int32).toInt = 60 := rfl
    rcases hp with ⟨x49, rfl, hH, v50, v51, g52, q53⟩ | ⟨x54, rfl, hH, v55, v56, g57, q58⟩ | ⟨x59, x60, rfl, hH, v61, v62, g63, q64, q65⟩
    · have hRK := hw_Racks.kept hRK (fun q9 h9 l9 => hk q9 l9 (hw_AWn h9 (by decide) l9))
      have v6 := va_at.kept v6 (hk _ (hw_lt v6) (hw_AWn gx (by decide) (hw_lt v6)))
      have vc := va_at.kept vc (hk _ (hw_lt vc) (hw_AWn (hw_RX_0 Rx) (by decide) (hw_lt vc)))
      have vq := va_at.kept vq (hk _ (hw_lt vq) (hw_AWn (hw_RX_13 Rx) (by decide) (hw_lt vq)))
      have vla := va_at.kept vla (hk _ (hw_lt vla) (hw_AWn (hw_RM_41 Rm) (by decide) (hw_lt vla)))
      have vsz := va_at.kept vsz (hk _ (hw_lt vsz) (hw_AWn (hw_RM_42 Rm) (by decide) (hw_lt vsz)))
      refine lv_icmp_eq (tgt := 1188) hx hb dL_law_577 (by decide) (fun c66 => ?_) (fun c66 => ?_)
      · exact absurd c66 (by decide)
      · exfalso
        first | omega | contradiction | (subst_vars; omega)
    · have hRK := hw_Racks.kept hRK (fun q9 h9 l9 => hk q9 l9 (hw_AWn h9 (by decide) l9))
      have v6 := va_at.kept v6 (hk _ (hw_lt v6) (hw_AWn gx (by decide) (hw_lt v6)))
      have vc := va_at.kept vc (hk _ (hw_lt vc) (hw_AWn (hw_RX_0 Rx) (by decide) (hw_lt vc)))
      have vq := va_at.kept vq (hk _ (hw_lt vq) (hw_AWn (hw_RX_13 Rx) (by decide) (hw_lt vq)))
      have vla := va_at.kept vla (hk _ (hw_lt vla) (hw_AWn (hw_RM_41 Rm) (by decide) (hw_lt vla)))
      have vsz := va_at.kept vsz (hk _ (hw_lt vsz) (hw_AWn (hw_RM_42 Rm) (by decide) (hw_lt vsz)))
      refine lv_icmp_eq (tgt := 1188) hx hb dL_law_577 (by decide) (fun c67 => ?_) (fun c67 => ?_)
      · refine lv_iinc (v := 6) (lv' := [(3, .int 6), (2, .ref mo), (1, .ref x), (0, .ref b)]) hx hb dL_law_1188 hl (k := 0) rfl (by rfl) (by decide) rfl (fun ls hl => ?_)
        refine lv_goto (tgt := 18) hx hb dL_law_1191 (by decide) ?_
        refine lv_iload_n hx hb dL_law_18 rfl (lv_at hl 0 rfl) ?_
        refine lv_aload_n hx hb dL_law_19 rfl (lv_at hl 3 rfl) ?_
        refine va_slen hx hb hX hbl hbA hS dL_law_20 ?_
        refine lv_bipush (v := 6) hx hb dL_law_21 (by decide) ?_
        refine lv_isub hx hb dL_law_23 ?_
        refine lv_topi (fun x68 e69 => ?_)
        have t70 : x68.toInt = (Int32.ofNat L).toInt - 6 := by rw [e69]; exact hw_sub rfl rfl (by omega) (by omega)
        refine lv_icmp_gt (tgt := 1194) hx hb dL_law_24 (by decide) (fun c71 => ?_) (fun c71 => ?_)
        · have b72 : x68.toInt < 6 := hw_ilt c71
          refine lv_iconst (v := 1) hx hb dL_law_1194 (by decide) ?_
          have hfg := hw_hfg hG0 (by decide) hS.2.2
          refine va_forget hfg ?_
          refine W.widen (k := 600000) (n := 7302250) (by decide) (by decide) ?_
          exact lw_ret hx hb hr hlocks dL_law_1195
        · have b73 : 6 ≤ x68.toInt := hw_inlt c71
          exfalso; omega
      · exact absurd c67 (by decide)
    · have hRK := hw_Racks.kept hRK (fun q9 h9 l9 => hk q9 l9 (hw_AWn h9 (by decide) l9))
      have v6 := va_at.kept v6 (hk _ (hw_lt v6) (hw_AWn gx (by decide) (hw_lt v6)))
      have vc := va_at.kept vc (hk _ (hw_lt vc) (hw_AWn (hw_RX_0 Rx) (by decide) (hw_lt vc)))
      have vq := va_at.kept vq (hk _ (hw_lt vq) (hw_AWn (hw_RX_13 Rx) (by decide) (hw_lt vq)))
      have vla := va_at.kept vla (hk _ (hw_lt vla) (hw_AWn (hw_RM_41 Rm) (by decide) (hw_lt vla)))
      have vsz := va_at.kept vsz (hk _ (hw_lt vsz) (hw_AWn (hw_RM_42 Rm) (by decide) (hw_lt vsz)))
      refine lv_icmp_eq (tgt := 1188) hx hb dL_law_577 (by decide) (fun c74 => ?_) (fun c74 => ?_)
      · have b75 : (-4) = x59.toInt := hw_ieq c74
        refine lv_iinc (v := 6) (lv' := [(3, .int 6), (2, .ref mo), (1, .ref x), (0, .ref b)]) hx hb dL_law_1188 hl (k := 0) rfl (by rfl) (by decide) rfl (fun ls hl => ?_)
        refine lv_goto (tgt := 18) hx hb dL_law_1191 (by decide) ?_
        refine lv_iload_n hx hb dL_law_18 rfl (lv_at hl 0 rfl) ?_
        refine lv_aload_n hx hb dL_law_19 rfl (lv_at hl 3 rfl) ?_
        refine va_slen hx hb hX hbl hbA hS dL_law_20 ?_
        refine lv_bipush (v := 6) hx hb dL_law_21 (by decide) ?_
        refine lv_isub hx hb dL_law_23 ?_
        refine lv_topi (fun x76 e77 => ?_)
        have t78 : x76.toInt = (Int32.ofNat L).toInt - 6 := by rw [e77]; exact hw_sub rfl rfl (by omega) (by omega)
        refine lv_icmp_gt (tgt := 1194) hx hb dL_law_24 (by decide) (fun c79 => ?_) (fun c79 => ?_)
        · have b80 : x76.toInt < 6 := hw_ilt c79
          refine lv_iconst (v := 1) hx hb dL_law_1194 (by decide) ?_
          have hfg := hw_hfg hG0 (by decide) hS.2.2
          refine va_forget hfg ?_
          refine W.widen (k := 600000) (n := 7302250) (by decide) (by decide) ?_
          exact lw_ret hx hb hr hlocks dL_law_1195
        · have b81 : 6 ≤ x76.toInt := hw_inlt c79
          exfalso; omega
      · have b82 : (-4) ≠ x59.toInt := hw_ine c74
        exfalso
        first | omega | contradiction | (subst_vars; omega)
  · have hRK := hw_Racks.kept hRK (fun q9 h9 l9 => hk q9 l9 (hw_AWn h9 (by decide) l9))
    have vc := va_at.kept vc (hk _ (hw_lt vc) (hw_AWn (hw_RX_0 Rx) (by decide) (hw_lt vc)))
    have vq := va_at.kept vq (hk _ (hw_lt vq) (hw_AWn (hw_RX_13 Rx) (by decide) (hw_lt vq)))
    have vm := va_at.kept vm (hk _ (hw_lt vm) (hw_AWn gm (by decide) (hw_lt vm)))
    have vro := va_at.kept vro (hk _ (hw_lt vro) (hw_AWn (hw_RM_0 Rm) (by decide) (hw_lt vro)))
    have vik := va_at.kept vik (hk _ (hw_lt vik) (hw_AWn (hw_RM_2 Rm) (by decide) (hw_lt vik)))
    have vla := va_at.kept vla (hk _ (hw_lt vla) (hw_AWn (hw_RM_41 Rm) (by decide) (hw_lt vla)))
    have vsz := va_at.kept vsz (hk _ (hw_lt vsz) (hw_AWn (hw_RM_42 Rm) (by decide) (hw_lt vsz)))
    refine lv_aload_n hx hb dL_law_568 rfl (lv_at hl 1 rfl) ?_
    refine lv_aload_n hx hb dL_law_569 rfl (lv_at hl 3 rfl) ?_
    refine lv_iload_n hx hb dL_law_570 rfl (lv_at hl 0 rfl) ?_
    refine lv_iconst (v := 1) hx hb dL_law_571 (by decide) ?_
    refine lv_iadd hx hb dL_law_572 ?_
    refine W.eq (g2 := F0 m 573 ls [.int 1, .ref b, .ref mo, .int x8]) rfl ?_
    refine va_sld hx hb hX hbl hbA hS (hw_in (x := 1) (by decide) (by have h9 : (1 : Int32).toInt = 1 := rfl; omega)) dL_law_573 ?_
    refine W.eq (g2 := F0 m 574 ls [.int (xs 1), .ref mo, .int x8]) rfl ?_
    refine hw_cM0 (va_runV (As := [.int (xs 1)]) (rest := [.int x8]) ⟨hx, hb, hml, hown, hts⟩ (k_X12_back l D G1 mo (xs 1) _ rm 0 0 0 0 60 0 0 0 0 0 0 0 0 0 fik gm Rm ⟨by first | decide | omega, by first | decide | omega⟩ ⟨by first | decide | omega, by first | decide | omega⟩ ⟨by first | decide | omega, by first | decide | omega⟩ ⟨by first | decide | omega, by first | decide | omega⟩ ⟨by first | decide | omega, by first | decide | omega⟩ ⟨by first | decide | omega, by first | decide | omega⟩ ⟨by first | decide | omega, by first | decide | omega⟩ ⟨by first | decide | omega, by first | decide | omega⟩ ⟨by first | decide | omega, by first | decide | omega⟩ ⟨by first | decide | omega, by first | decide | omega⟩ ⟨by first | decide | omega, by first | decide | omega⟩ ⟨by first | decide | omega, by first | decide | omega⟩) (cwV 1 hts gL_law_X12_back rfl rfl rfl (by decide +kernel) ⟨Nat.le_of_ble_eq_true rfl, Nat.le_of_ble_eq_true rfl⟩) (hw_pV (hw_rc (q := (RX12, TX12, 45)) hK vm rfl) hH hK hST hS (by decide) (hw_hG hGe1) ⟨vm, vik⟩) rfl rfl hl.1 rfl (lv_room (Nat.le_of_ble_eq_true rfl)) dL_law_574 ⟨Nat.le_of_ble_eq_true rfl, Nat.le_of_ble_eq_true rfl⟩) hS (hw_AWsub (by decide) hGe1 hS.1) (fun v H locs hp hz hk hS => ?_)
    have l83 : (60 : Int32).toInt = 60 := rfl
    rcases hp with ⟨x84, rfl, hH, v85, v86, g87, q88⟩ | ⟨x89, rfl, hH, v90, v91, g92, q93⟩ | ⟨x94, x95, rfl, hH, v96, v97, g98, q99, q100⟩
    · have hRK := hw_Racks.kept hRK (fun q9 h9 l9 => hk q9 l9 (hw_AWn h9 (by decide) l9))
      have v10 := va_at.kept v10 (hk _ (hw_lt v10) (hw_AWn gx (by decide) (hw_lt v10)))
      have vc := va_at.kept vc (hk _ (hw_lt vc) (hw_AWn (hw_RX_0 Rx) (by decide) (hw_lt vc)))
      have vq := va_at.kept vq (hk _ (hw_lt vq) (hw_AWn (hw_RX_13 Rx) (by decide) (hw_lt vq)))
      have vla := va_at.kept vla (hk _ (hw_lt vla) (hw_AWn (hw_RM_41 Rm) (by decide) (hw_lt vla)))
      have vsz := va_at.kept vsz (hk _ (hw_lt vsz) (hw_AWn (hw_RM_42 Rm) (by decide) (hw_lt vsz)))
      refine lv_icmp_eq (tgt := 1188) hx hb dL_law_577 (by decide) (fun c101 => ?_) (fun c101 => ?_)
      · have b102 : x8.toInt = (-2) := hw_ieq c101
        refine lv_iinc (v := 6) (lv' := [(3, .int 6), (2, .ref mo), (1, .ref x), (0, .ref b)]) hx hb dL_law_1188 hl (k := 0) rfl (by rfl) (by decide) rfl (fun ls hl => ?_)
        refine lv_goto (tgt := 18) hx hb dL_law_1191 (by decide) ?_
        refine lv_iload_n hx hb dL_law_18 rfl (lv_at hl 0 rfl) ?_
        refine lv_aload_n hx hb dL_law_19 rfl (lv_at hl 3 rfl) ?_
        refine va_slen hx hb hX hbl hbA hS dL_law_20 ?_
        refine lv_bipush (v := 6) hx hb dL_law_21 (by decide) ?_
        refine lv_isub hx hb dL_law_23 ?_
        refine lv_topi (fun x103 e104 => ?_)
        have t105 : x103.toInt = (Int32.ofNat L).toInt - 6 := by rw [e104]; exact hw_sub rfl rfl (by omega) (by omega)
        refine lv_icmp_gt (tgt := 1194) hx hb dL_law_24 (by decide) (fun c106 => ?_) (fun c106 => ?_)
        · have b107 : x103.toInt < 6 := hw_ilt c106
          refine lv_iconst (v := 1) hx hb dL_law_1194 (by decide) ?_
          have hfg := hw_hfg hG0 (by decide) hS.2.2
          refine va_forget hfg ?_
          refine W.widen (k := 600000) (n := 7302250) (by decide) (by decide) ?_
          exact lw_ret hx hb hr hlocks dL_law_1195
        · have b108 : 6 ≤ x103.toInt := hw_inlt c106
          exfalso; omega
      · have b109 : x8.toInt ≠ (-2) := hw_ine c101
        exfalso
        first | omega | contradiction | (subst_vars; omega)
    · have hRK := hw_Racks.kept hRK (fun q9 h9 l9 => hk q9 l9 (hw_AWn h9 (by decide) l9))
      have v10 := va_at.kept v10 (hk _ (hw_lt v10) (hw_AWn gx (by decide) (hw_lt v10)))
      have vc := va_at.kept vc (hk _ (hw_lt vc) (hw_AWn (hw_RX_0 Rx) (by decide) (hw_lt vc)))
      have vq := va_at.kept vq (hk _ (hw_lt vq) (hw_AWn (hw_RX_13 Rx) (by decide) (hw_lt vq)))
      have vla := va_at.kept vla (hk _ (hw_lt vla) (hw_AWn (hw_RM_41 Rm) (by decide) (hw_lt vla)))
      have vsz := va_at.kept vsz (hk _ (hw_lt vsz) (hw_AWn (hw_RM_42 Rm) (by decide) (hw_lt vsz)))
      refine lv_icmp_eq (tgt := 1188) hx hb dL_law_577 (by decide) (fun c110 => ?_) (fun c110 => ?_)
      · have b111 : x8.toInt = (-4) := hw_ieq c110
        refine lv_iinc (v := 6) (lv' := [(3, .int 6), (2, .ref mo), (1, .ref x), (0, .ref b)]) hx hb dL_law_1188 hl (k := 0) rfl (by rfl) (by decide) rfl (fun ls hl => ?_)
        refine lv_goto (tgt := 18) hx hb dL_law_1191 (by decide) ?_
        refine lv_iload_n hx hb dL_law_18 rfl (lv_at hl 0 rfl) ?_
        refine lv_aload_n hx hb dL_law_19 rfl (lv_at hl 3 rfl) ?_
        refine va_slen hx hb hX hbl hbA hS dL_law_20 ?_
        refine lv_bipush (v := 6) hx hb dL_law_21 (by decide) ?_
        refine lv_isub hx hb dL_law_23 ?_
        refine lv_topi (fun x112 e113 => ?_)
        have t114 : x112.toInt = (Int32.ofNat L).toInt - 6 := by rw [e113]; exact hw_sub rfl rfl (by omega) (by omega)
        refine lv_icmp_gt (tgt := 1194) hx hb dL_law_24 (by decide) (fun c115 => ?_) (fun c115 => ?_)
        · have b116 : x112.toInt < 6 := hw_ilt c115
          refine lv_iconst (v := 1) hx hb dL_law_1194 (by decide) ?_
          have hfg := hw_hfg hG0 (by decide) hS.2.2
          refine va_forget hfg ?_
          refine W.widen (k := 600000) (n := 7302250) (by decide) (by decide) ?_
          exact lw_ret hx hb hr hlocks dL_law_1195
        · have b117 : 6 ≤ x112.toInt := hw_inlt c115
          exfalso; omega
      · have b118 : x8.toInt ≠ (-4) := hw_ine c110
        exfalso
        first | omega | contradiction | (subst_vars; omega)
    · have hRK := hw_Racks.kept hRK (fun q9 h9 l9 => hk q9 l9 (hw_AWn h9 (by decide) l9))
      have v10 := va_at.kept v10 (hk _ (hw_lt v10) (hw_AWn gx (by decide) (hw_lt v10)))
      have vc := va_at.kept vc (hk _ (hw_lt vc) (hw_AWn (hw_RX_0 Rx) (by decide) (hw_lt vc)))
      have vq := va_at.kept vq (hk _ (hw_lt vq) (hw_AWn (hw_RX_13 Rx) (by decide) (hw_lt vq)))
      have vla := va_at.kept vla (hk _ (hw_lt vla) (hw_AWn (hw_RM_41 Rm) (by decide) (hw_lt vla)))
      have vsz := va_at.kept vsz (hk _ (hw_lt vsz) (hw_AWn (hw_RM_42 Rm) (by decide) (hw_lt vsz)))
      refine lv_icmp_eq (tgt := 1188) hx hb dL_law_577 (by decide) (fun c119 => ?_) (fun c119 => ?_)
      · have b120 : x8.toInt = x94.toInt := hw_ieq c119
        refine lv_iinc (v := 6) (lv' := [(3, .int 6), (2, .ref mo), (1, .ref x), (0, .ref b)]) hx hb dL_law_1188 hl (k := 0) rfl (by rfl) (by decide) rfl (fun ls hl => ?_)
        refine lv_goto (tgt := 18) hx hb dL_law_1191 (by decide) ?_
        refine lv_iload_n hx hb dL_law_18 rfl (lv_at hl 0 rfl) ?_
        refine lv_aload_n hx hb dL_law_19 rfl (lv_at hl 3 rfl) ?_
        refine va_slen hx hb hX hbl hbA hS dL_law_20 ?_
        refine lv_bipush (v := 6) hx hb dL_law_21 (by decide) ?_
        refine lv_isub hx hb dL_law_23 ?_
        refine lv_topi (fun x121 e122 => ?_)
        have t123 : x121.toInt = (Int32.ofNat L).toInt - 6 := by rw [e122]; exact hw_sub rfl rfl (by omega) (by omega)
        refine lv_icmp_gt (tgt := 1194) hx hb dL_law_24 (by decide) (fun c124 => ?_) (fun c124 => ?_)
        · have b125 : x121.toInt < 6 := hw_ilt c124
          refine lv_iconst (v := 1) hx hb dL_law_1194 (by decide) ?_
          have hfg := hw_hfg hG0 (by decide) hS.2.2
          refine va_forget hfg ?_
          refine W.widen (k := 600000) (n := 7302250) (by decide) (by decide) ?_
          exact lw_ret hx hb hr hlocks dL_law_1195
        · have b126 : 6 ≤ x121.toInt := hw_inlt c124
          exfalso; omega
      · have b127 : x8.toInt ≠ x94.toInt := hw_ine c119
        exfalso
        first | omega | contradiction | (subst_vars; omega)

set_option maxHeartbeats 40000000 in
set_option maxRecDepth 100000 in
theorem hw_case582 {p : Program} {e : Env} {s : State} {m : MethodId} {below : List Frame} {meth : Method} {c : Code} (l : Launch) {b L : Nat} {xs : Nat → Int32} {D : hw_D} {G : Nat → Nat} {H : Heap} {locs : List Loc} {x mo : Nat} {ls : Array Slot} (hL : L ≤ 6) (hL6 : 6 ≤ L) (hx : p.tables.exec = Jvm.exec) (hb : c.code = code) (hr : meth.sig.returnType = ret) (hml : c.maxLocals = 4) (hown : s.vm.findClass R_law = some m.cls) (hts0 : ∀ w ∈ lw_tbl, w.before #[Value.ref b] s = true) (hts : ∀ w ∈ wsL_law, w.before #[Value.ref b] s = true) (hX : va_X b L xs s s.heap) (hbl : b < s.heap.size) (hlocks : meth.locks = false) (hG0 : G = fun _ => 0) (hK : va_K D.1 vwCl (hw_ty D.2.1) s) (hST : hw_ST D.2.2 G s.heap.size s) (hF : hw_F0 D G s H x mo) (hS : va_S (hw_AW G [1, 2, 3, 4, 5, 6, 7, 8, 9, 10, 11, 12, 13, 14, 15, 16, 17, 18, 19, 20, 21, 22, 23, 24, 25, 26, 27, 28, 29, 30, 31, 32, 40, 42, 44, 45, 46, 48, 49, 50, 51, 53, 55, 58, 59, 67, 68, 69, 70, 71, 72, 73, 74, 75, 76, 77, 78, 79, 80, 81, 82, 83, 84, 101, 102, 103, 104, 105, 106, 107, 108, 109, 127, 128, 129, 132] s.heap.size) s.heap H locs) (hl : lv_has ls 4 [(3, .int 0), (2, .ref mo), (1, .ref x), (0, .ref b)]) : W p l e room_1 s m #[Value.ref b] below meth c H locs 200 8000 (lw_Z below #[Value.ref b] s) (F0 m 582 ls []) := by
  have hH0 : hw_HT D G s.heap := fun a h => absurd (by rw [hG0]) h
  have hbA : ¬ (hw_AW G [1, 2, 3, 4, 5, 6, 7, 8, 9, 10, 11, 12, 13, 14, 15, 16, 17, 18, 19, 20, 21, 22, 23, 24, 25, 26, 27, 28, 29, 30, 31, 32, 40, 42, 44, 45, 46, 48, 49, 50, 51, 53, 55, 58, 59, 67, 68, 69, 70, 71, 72, 73, 74, 75, 76, 77, 78, 79, 80, 81, 82, 83, 84, 101, 102, 103, 104, 105, 106, 107, 108, 109, 127, 128, 129, 132] s.heap.size) b := hw_AWn (k := 0) (by rw [hG0]) (by decide) hbl
  have hLi : (Int32.ofNat L).toInt = (L : Int) := nI_toInt (by omega)
  obtain ⟨G1, rx, rc, rt, rn, fq, rm, fro, fik, fla, fsz, hH, hGe1, wx, wm, gx, gm, Rx, vx, Rc, vc, Rt, vt, Rn, vn, vq, hRK, Rm, vm, vro, hro, vik, hik, vla, vsz, hfs⟩ := hF
  have hHs := hH0
  obtain ⟨la, hla⟩ : ∃ z : Nat → Int32, z = fun _ => -1 := ⟨_, rfl⟩
  obtain ⟨sz9, hsz9⟩ : ∃ z : Nat → Int32, z = fun _ => 0 := ⟨_, rfl⟩
  rw [← hla, ← hsz9] at hRK
  have qq := hRK.q
  have qsz : ∀ j, j < 4 → -1 ≤ (fsz j).toInt ∧ (fsz j).toInt ≤ 24 := fun j hj => by rw [hfs j hj]; decide
  have hro0 : (fro 0).toInt = 0 := by rw [hro]; rfl
  have hro1 : (fro 1).toInt = 0 := by rw [hro]; rfl
  have hro2 : (fro 2).toInt = 0 := by rw [hro]; rfl
  have hla1 : (la (xs 1).toNatClampNeg).toInt = -1 := by rw [hla]; rfl
  have hfs1 : 0 ≤ (xs 1).toInt ∧ (xs 1).toInt ≤ 3 → (fsz (xs 1).toNatClampNeg).toInt = -1 := fun h9 => by rw [hfs _ (hw_i4 h9)]; rfl
  have hla2 : (la (xs 2).toNatClampNeg).toInt = -1 := by rw [hla]; rfl
  have hfs2 : 0 ≤ (xs 2).toInt ∧ (xs 2).toInt ≤ 3 → (fsz (xs 2).toNatClampNeg).toInt = -1 := fun h9 => by rw [hfs _ (hw_i4 h9)]; rfl
  have hla3 : (la (xs 3).toNatClampNeg).toInt = -1 := by rw [hla]; rfl
  have hfs3 : 0 ≤ (xs 3).toInt ∧ (xs 3).toInt ≤ 3 → (fsz (xs 3).toNatClampNeg).toInt = -1 := fun h9 => by rw [hfs _ (hw_i4 h9)]; rfl
  have hik1 : (fik (xs 1).toNatClampNeg).toInt = 0 := by rw [hik]; rfl
  refine lv_aload_n hx hb dL_law_582 rfl (lv_at hl 2 rfl) ?_
  refine lv_aload_n hx hb dL_law_583 rfl (lv_at hl 3 rfl) ?_
  refine lv_iload_n hx hb dL_law_584 rfl (lv_at hl 0 rfl) ?_
  refine lv_iconst (v := 1) hx hb dL_law_585 (by decide) ?_
  refine lv_iadd hx hb dL_law_586 ?_
  refine W.eq (g2 := F0 m 587 ls [.int 1, .ref b, .ref x]) rfl ?_
  refine va_sld hx hb hX hbl hbA hS (hw_in (x := 1) (by decide) (by have h9 : (1 : Int32).toInt = 1 := rfl; omega)) dL_law_587 ?_
  refine W.eq (g2 := F0 m 588 ls [.int (xs 1), .ref x]) rfl ?_
  refine hw_cR (va_runV (As := [.int (xs 1)]) (rest := []) ⟨hx, hb, hml, hown, hts⟩ (k_X11_belongs l D G1 x (xs 1) _ rx 0 0 0 0 rc 0 0 0 60 gx Rx ⟨by first | decide | omega, by first | decide | omega⟩ Rc ⟨by first | decide | omega, by first | decide | omega⟩ ⟨by first | decide | omega, by first | decide | omega⟩ ⟨by first | decide | omega, by first | decide | omega⟩) (cwV 1 hts gL_law_X11_belongs rfl rfl rfl (by decide +kernel) ⟨Nat.le_of_ble_eq_true rfl, Nat.le_of_ble_eq_true rfl⟩) (hw_pV (hw_rc (q := (RX11, TX11, 14)) hK vx rfl) hH hK hST hS (by decide) (hw_hG hGe1) ⟨vx, vc⟩) rfl rfl hl.1 rfl (lv_room (Nat.le_of_ble_eq_true rfl)) dL_law_588 ⟨Nat.le_of_ble_eq_true rfl, Nat.le_of_ble_eq_true rfl⟩) (fun v hp => ?_)
  have l1 : (0 : Int32).toInt = 0 := rfl
  have l2 : (60 : Int32).toInt = 60 := rfl
  obtain ⟨x3, rfl, q4⟩ := hp
  refine lv_aload_n hx hb dL_law_591 rfl (lv_at hl 1 rfl) ?_
  refine lv_aload_n hx hb dL_law_592 rfl (lv_at hl 3 rfl) ?_
  refine lv_iload_n hx hb dL_law_593 rfl (lv_at hl 0 rfl) ?_
  refine lv_iconst (v := 1) hx hb dL_law_594 (by decide) ?_
  refine lv_iadd hx hb dL_law_595 ?_
  refine W.eq (g2 := F0 m 596 ls [.int 1, .ref b, .ref mo, .int x3]) rfl ?_
  refine va_sld hx hb hX hbl hbA hS (hw_in (x := 1) (by decide) (by have h9 : (1 : Int32).toInt = 1 := rfl; omega)) dL_law_596 ?_
  refine W.eq (g2 := F0 m 597 ls [.int (xs 1), .ref mo, .int x3]) rfl ?_
  refine hw_cR (va_runV (As := [.int (xs 1)]) (rest := [.int x3]) ⟨hx, hb, hml, hown, hts⟩ (k_X12_belongs l D G1 mo (xs 1) _ rm 0 0 0 0 60 0 0 0 0 0 0 0 0 0 gm Rm ⟨by first | decide | omega, by first | decide | omega⟩ ⟨by first | decide | omega, by first | decide | omega⟩ ⟨by first | decide | omega, by first | decide | omega⟩ ⟨by first | decide | omega, by first | decide | omega⟩ ⟨by first | decide | omega, by first | decide | omega⟩ ⟨by first | decide | omega, by first | decide | omega⟩ ⟨by first | decide | omega, by first | decide | omega⟩ ⟨by first | decide | omega, by first | decide | omega⟩ ⟨by first | decide | omega, by first | decide | omega⟩ ⟨by first | decide | omega, by first | decide | omega⟩ ⟨by first | decide | omega, by first | decide | omega⟩ ⟨by first | decide | omega, by first | decide | omega⟩) (cwV 1 hts gL_law_X12_belongs rfl rfl rfl (by decide +kernel) ⟨Nat.le_of_ble_eq_true rfl, Nat.le_of_ble_eq_true rfl⟩) (hw_pV (hw_rc (q := (RX12, TX12, 45)) hK vm rfl) hH hK hST hS (by decide) (hw_hG hGe1) vm) rfl rfl hl.1 rfl (lv_room (Nat.le_of_ble_eq_true rfl)) dL_law_597 ⟨Nat.le_of_ble_eq_true rfl, Nat.le_of_ble_eq_true rfl⟩) (fun v hp => ?_)
  obtain ⟨x5, rfl, q6⟩ := hp
  refine lv_icmp_eq (tgt := 1188) hx hb dL_law_600 (by decide) (fun c7 => ?_) (fun c7 => ?_)
  · have b8 : x3.toInt = x5.toInt := hw_ieq c7
    refine lv_iinc (v := 6) (lv' := [(3, .int 6), (2, .ref mo), (1, .ref x), (0, .ref b)]) hx hb dL_law_1188 hl (k := 0) rfl (by rfl) (by decide) rfl (fun ls hl => ?_)
    refine lv_goto (tgt := 18) hx hb dL_law_1191 (by decide) ?_
    refine lv_iload_n hx hb dL_law_18 rfl (lv_at hl 0 rfl) ?_
    refine lv_aload_n hx hb dL_law_19 rfl (lv_at hl 3 rfl) ?_
    refine va_slen hx hb hX hbl hbA hS dL_law_20 ?_
    refine lv_bipush (v := 6) hx hb dL_law_21 (by decide) ?_
    refine lv_isub hx hb dL_law_23 ?_
    refine lv_topi (fun x9 e10 => ?_)
    have t11 : x9.toInt = (Int32.ofNat L).toInt - 6 := by rw [e10]; exact hw_sub rfl rfl (by omega) (by omega)
    refine lv_icmp_gt (tgt := 1194) hx hb dL_law_24 (by decide) (fun c12 => ?_) (fun c12 => ?_)
    · have b13 : x9.toInt < 6 := hw_ilt c12
      refine lv_iconst (v := 1) hx hb dL_law_1194 (by decide) ?_
      have hfg := hw_hfg hG0 (by decide) hS.2.2
      refine va_forget hfg ?_
      refine W.widen (k := 600000) (n := 7302250) (by decide) (by decide) ?_
      exact lw_ret hx hb hr hlocks dL_law_1195
    · have b14 : 6 ≤ x9.toInt := hw_inlt c12
      exfalso; omega
  · have b15 : x3.toInt ≠ x5.toInt := hw_ine c7
    exfalso
    first | omega | contradiction | (subst_vars; omega)

set_option maxHeartbeats 40000000 in
set_option maxRecDepth 100000 in
theorem hw_case605 {p : Program} {e : Env} {s : State} {m : MethodId} {below : List Frame} {meth : Method} {c : Code} (l : Launch) {b L : Nat} {xs : Nat → Int32} {D : hw_D} {G : Nat → Nat} {H : Heap} {locs : List Loc} {x mo : Nat} {ls : Array Slot} (hL : L ≤ 6) (hL6 : 6 ≤ L) (hx : p.tables.exec = Jvm.exec) (hb : c.code = code) (hr : meth.sig.returnType = ret) (hml : c.maxLocals = 4) (hown : s.vm.findClass R_law = some m.cls) (hts0 : ∀ w ∈ lw_tbl, w.before #[Value.ref b] s = true) (hts : ∀ w ∈ wsL_law, w.before #[Value.ref b] s = true) (hX : va_X b L xs s s.heap) (hbl : b < s.heap.size) (hlocks : meth.locks = false) (hG0 : G = fun _ => 0) (hK : va_K D.1 vwCl (hw_ty D.2.1) s) (hST : hw_ST D.2.2 G s.heap.size s) (hF : hw_F0 D G s H x mo) (hS : va_S (hw_AW G [1, 2, 3, 4, 5, 6, 7, 8, 9, 10, 11, 12, 13, 14, 15, 16, 17, 18, 19, 20, 21, 22, 23, 24, 25, 26, 27, 28, 29, 30, 31, 32, 40, 42, 44, 45, 46, 48, 49, 50, 51, 53, 55, 58, 59, 67, 68, 69, 70, 71, 72, 73, 74, 75, 76, 77, 78, 79, 80, 81, 82, 83, 84, 101, 102, 103, 104, 105, 106, 107, 108, 109, 127, 128, 129, 132] s.heap.size) s.heap H locs) (hl : lv_has ls 4 [(3, .int 0), (2, .ref mo), (1, .ref x), (0, .ref b)]) : W p l e room_1 s m #[Value.ref b] below meth c H locs 200 8000 (lw_Z below #[Value.ref b] s) (F0 m 605 ls []) := by
  have hH0 : hw_HT D G s.heap := fun a h => absurd (by rw [hG0]) h
  have hbA : ¬ (hw_AW G [1, 2, 3, 4, 5, 6, 7, 8, 9, 10, 11, 12, 13, 14, 15, 16, 17, 18, 19, 20, 21, 22, 23, 24, 25, 26, 27, 28, 29, 30, 31, 32, 40, 42, 44, 45, 46, 48, 49, 50, 51, 53, 55, 58, 59, 67, 68, 69, 70, 71, 72, 73, 74, 75, 76, 77, 78, 79, 80, 81, 82, 83, 84, 101, 102, 103, 104, 105, 106, 107, 108, 109, 127, 128, 129, 132] s.heap.size) b := hw_AWn (k := 0) (by rw [hG0]) (by decide) hbl
  have hLi : (Int32.ofNat L).toInt = (L : Int) := nI_toInt (by omega)
  obtain ⟨G1, rx, rc, rt, rn, fq, rm, fro, fik, fla, fsz, hH, hGe1, wx, wm, gx, gm, Rx, vx, Rc, vc, Rt, vt, Rn, vn, vq, hRK, Rm, vm, vro, hro, vik, hik, vla, vsz, hfs⟩ := hF
  have hHs := hH0
  obtain ⟨la, hla⟩ : ∃ z : Nat → Int32, z = fun _ => -1 := ⟨_, rfl⟩
  obtain ⟨sz9, hsz9⟩ : ∃ z : Nat → Int32, z = fun _ => 0 := ⟨_, rfl⟩
  rw [← hla, ← hsz9] at hRK
  have qq := hRK.q
  have qsz : ∀ j, j < 4 → -1 ≤ (fsz j).toInt ∧ (fsz j).toInt ≤ 24 := fun j hj => by rw [hfs j hj]; decide
  have hro0 : (fro 0).toInt = 0 := by rw [hro]; rfl
  have hro1 : (fro 1).toInt = 0 := by rw [hro]; rfl
  have hro2 : (fro 2).toInt = 0 := by rw [hro]; rfl
  have hla1 : (la (xs 1).toNatClampNeg).toInt = -1 := by rw [hla]; rfl
  have hfs1 : 0 ≤ (xs 1).toInt ∧ (xs 1).toInt ≤ 3 → (fsz (xs 1).toNatClampNeg).toInt = -1 := fun h9 => by rw [hfs _ (hw_i4 h9)]; rfl
  have hla2 : (la (xs 2).toNatClampNeg).toInt = -1 := by rw [hla]; rfl
  have hfs2 : 0 ≤ (xs 2).toInt ∧ (xs 2).toInt ≤ 3 → (fsz (xs 2).toNatClampNeg).toInt = -1 := fun h9 => by rw [hfs _ (hw_i4 h9)]; rfl
  have hla3 : (la (xs 3).toNatClampNeg).toInt = -1 := by rw [hla]; rfl
  have hfs3 : 0 ≤ (xs 3).toInt ∧ (xs 3).toInt ≤ 3 → (fsz (xs 3).toNatClampNeg).toInt = -1 := fun h9 => by rw [hfs _ (hw_i4 h9)]; rfl
  have hik1 : (fik (xs 1).toNatClampNeg).toInt = 0 := by rw [hik]; rfl
  refine lv_aload_n hx hb dL_law_605 rfl (lv_at hl 2 rfl) ?_
  refine lv_aload_n hx hb dL_law_606 rfl (lv_at hl 3 rfl) ?_
  refine lv_iload_n hx hb dL_law_607 rfl (lv_at hl 0 rfl) ?_
  refine lv_iconst (v := 1) hx hb dL_law_608 (by decide) ?_
  refine lv_iadd hx hb dL_law_609 ?_
  refine W.eq (g2 := F0 m 610 ls [.int 1, .ref b, .ref x]) rfl ?_
  refine va_sld hx hb hX hbl hbA hS (hw_in (x := 1) (by decide) (by have h9 : (1 : Int32).toInt = 1 := rfl; omega)) dL_law_610 ?_
  refine W.eq (g2 := F0 m 611 ls [.int (xs 1), .ref x]) rfl ?_
  refine hw_cR (va_runV (As := [.int (xs 1)]) (rest := []) ⟨hx, hb, hml, hown, hts⟩ (k_X11_openers l D G1 x (xs 1) _ rx 0 0 0 0 rc 0 0 0 60 gx Rx ⟨by first | decide | omega, by first | decide | omega⟩ Rc ⟨by first | decide | omega, by first | decide | omega⟩ ⟨by first | decide | omega, by first | decide | omega⟩ ⟨by first | decide | omega, by first | decide | omega⟩) (cwV 1 hts gL_law_X11_openers rfl rfl rfl (by decide +kernel) ⟨Nat.le_of_ble_eq_true rfl, Nat.le_of_ble_eq_true rfl⟩) (hw_pV (hw_rc (q := (RX11, TX11, 14)) hK vx rfl) hH hK hST hS (by decide) (hw_hG hGe1) ⟨vx, vc⟩) rfl rfl hl.1 rfl (lv_room (Nat.le_of_ble_eq_true rfl)) dL_law_611 ⟨Nat.le_of_ble_eq_true rfl, Nat.le_of_ble_eq_true rfl⟩) (fun v hp => ?_)
  have l1 : (0 : Int32).toInt = 0 := rfl
  have l2 : (60 : Int32).toInt = 60 := rfl
  obtain ⟨x3, rfl, q4⟩ := hp
  refine lv_aload_n hx hb dL_law_614 rfl (lv_at hl 1 rfl) ?_
  refine lv_aload_n hx hb dL_law_615 rfl (lv_at hl 3 rfl) ?_
  refine lv_iload_n hx hb dL_law_616 rfl (lv_at hl 0 rfl) ?_
  refine lv_iconst (v := 1) hx hb dL_law_617 (by decide) ?_
  refine lv_iadd hx hb dL_law_618 ?_
  refine W.eq (g2 := F0 m 619 ls [.int 1, .ref b, .ref mo, .int x3]) rfl ?_
  refine va_sld hx hb hX hbl hbA hS (hw_in (x := 1) (by decide) (by have h9 : (1 : Int32).toInt = 1 := rfl; omega)) dL_law_619 ?_
  refine W.eq (g2 := F0 m 620 ls [.int (xs 1), .ref mo, .int x3]) rfl ?_
  refine hw_cR (va_runV (As := [.int (xs 1)]) (rest := [.int x3]) ⟨hx, hb, hml, hown, hts⟩ (k_X12_openers l D G1 mo (xs 1) _ rm 0 0 0 0 60 0 0 0 0 0 0 0 0 0 gm Rm ⟨by first | decide | omega, by first | decide | omega⟩ ⟨by first | decide | omega, by first | decide | omega⟩ ⟨by first | decide | omega, by first | decide | omega⟩ ⟨by first | decide | omega, by first | decide | omega⟩ ⟨by first | decide | omega, by first | decide | omega⟩ ⟨by first | decide | omega, by first | decide | omega⟩ ⟨by first | decide | omega, by first | decide | omega⟩ ⟨by first | decide | omega, by first | decide | omega⟩ ⟨by first | decide | omega, by first | decide | omega⟩ ⟨by first | decide | omega, by first | decide | omega⟩ ⟨by first | decide | omega, by first | decide | omega⟩ ⟨by first | decide | omega, by first | decide | omega⟩) (cwV 1 hts gL_law_X12_openers rfl rfl rfl (by decide +kernel) ⟨Nat.le_of_ble_eq_true rfl, Nat.le_of_ble_eq_true rfl⟩) (hw_pV (hw_rc (q := (RX12, TX12, 45)) hK vm rfl) hH hK hST hS (by decide) (hw_hG hGe1) vm) rfl rfl hl.1 rfl (lv_room (Nat.le_of_ble_eq_true rfl)) dL_law_620 ⟨Nat.le_of_ble_eq_true rfl, Nat.le_of_ble_eq_true rfl⟩) (fun v hp => ?_)
  obtain ⟨x5, rfl, q6⟩ := hp
  refine lv_icmp_eq (tgt := 1188) hx hb dL_law_623 (by decide) (fun c7 => ?_) (fun c7 => ?_)
  · have b8 : x3.toInt = x5.toInt := hw_ieq c7
    refine lv_iinc (v := 6) (lv' := [(3, .int 6), (2, .ref mo), (1, .ref x), (0, .ref b)]) hx hb dL_law_1188 hl (k := 0) rfl (by rfl) (by decide) rfl (fun ls hl => ?_)
    refine lv_goto (tgt := 18) hx hb dL_law_1191 (by decide) ?_
    refine lv_iload_n hx hb dL_law_18 rfl (lv_at hl 0 rfl) ?_
    refine lv_aload_n hx hb dL_law_19 rfl (lv_at hl 3 rfl) ?_
    refine va_slen hx hb hX hbl hbA hS dL_law_20 ?_
    refine lv_bipush (v := 6) hx hb dL_law_21 (by decide) ?_
    refine lv_isub hx hb dL_law_23 ?_
    refine lv_topi (fun x9 e10 => ?_)
    have t11 : x9.toInt = (Int32.ofNat L).toInt - 6 := by rw [e10]; exact hw_sub rfl rfl (by omega) (by omega)
    refine lv_icmp_gt (tgt := 1194) hx hb dL_law_24 (by decide) (fun c12 => ?_) (fun c12 => ?_)
    · have b13 : x9.toInt < 6 := hw_ilt c12
      refine lv_iconst (v := 1) hx hb dL_law_1194 (by decide) ?_
      have hfg := hw_hfg hG0 (by decide) hS.2.2
      refine va_forget hfg ?_
      refine W.widen (k := 600000) (n := 7302250) (by decide) (by decide) ?_
      exact lw_ret hx hb hr hlocks dL_law_1195
    · have b14 : 6 ≤ x9.toInt := hw_inlt c12
      exfalso; omega
  · have b15 : x3.toInt ≠ x5.toInt := hw_ine c7
    exfalso
    first | omega | contradiction | (subst_vars; omega)

set_option maxHeartbeats 40000000 in
set_option maxRecDepth 100000 in
theorem hw_case628 {p : Program} {e : Env} {s : State} {m : MethodId} {below : List Frame} {meth : Method} {c : Code} (l : Launch) {b L : Nat} {xs : Nat → Int32} {D : hw_D} {G : Nat → Nat} {H : Heap} {locs : List Loc} {x mo : Nat} {ls : Array Slot} (hL : L ≤ 6) (hL6 : 6 ≤ L) (hx : p.tables.exec = Jvm.exec) (hb : c.code = code) (hr : meth.sig.returnType = ret) (hml : c.maxLocals = 4) (hown : s.vm.findClass R_law = some m.cls) (hts0 : ∀ w ∈ lw_tbl, w.before #[Value.ref b] s = true) (hts : ∀ w ∈ wsL_law, w.before #[Value.ref b] s = true) (hX : va_X b L xs s s.heap) (hbl : b < s.heap.size) (hlocks : meth.locks = false) (hG0 : G = fun _ => 0) (hK : va_K D.1 vwCl (hw_ty D.2.1) s) (hST : hw_ST D.2.2 G s.heap.size s) (hF : hw_F0 D G s H x mo) (hS : va_S (hw_AW G [1, 2, 3, 4, 5, 6, 7, 8, 9, 10, 11, 12, 13, 14, 15, 16, 17, 18, 19, 20, 21, 22, 23, 24, 25, 26, 27, 28, 29, 30, 31, 32, 40, 42, 44, 45, 46, 48, 49, 50, 51, 53, 55, 58, 59, 67, 68, 69, 70, 71, 72, 73, 74, 75, 76, 77, 78, 79, 80, 81, 82, 83, 84, 101, 102, 103, 104, 105, 106, 107, 108, 109, 127, 128, 129, 132] s.heap.size) s.heap H locs) (hl : lv_has ls 4 [(3, .int 0), (2, .ref mo), (1, .ref x), (0, .ref b)]) : W p l e room_1 s m #[Value.ref b] below meth c H locs 200 8000 (lw_Z below #[Value.ref b] s) (F0 m 628 ls []) := by
  have hH0 : hw_HT D G s.heap := fun a h => absurd (by rw [hG0]) h
  have hbA : ¬ (hw_AW G [1, 2, 3, 4, 5, 6, 7, 8, 9, 10, 11, 12, 13, 14, 15, 16, 17, 18, 19, 20, 21, 22, 23, 24, 25, 26, 27, 28, 29, 30, 31, 32, 40, 42, 44, 45, 46, 48, 49, 50, 51, 53, 55, 58, 59, 67, 68, 69, 70, 71, 72, 73, 74, 75, 76, 77, 78, 79, 80, 81, 82, 83, 84, 101, 102, 103, 104, 105, 106, 107, 108, 109, 127, 128, 129, 132] s.heap.size) b := hw_AWn (k := 0) (by rw [hG0]) (by decide) hbl
  have hLi : (Int32.ofNat L).toInt = (L : Int) := nI_toInt (by omega)
  obtain ⟨G1, rx, rc, rt, rn, fq, rm, fro, fik, fla, fsz, hH, hGe1, wx, wm, gx, gm, Rx, vx, Rc, vc, Rt, vt, Rn, vn, vq, hRK, Rm, vm, vro, hro, vik, hik, vla, vsz, hfs⟩ := hF
  have hHs := hH0
  obtain ⟨la, hla⟩ : ∃ z : Nat → Int32, z = fun _ => -1 := ⟨_, rfl⟩
  obtain ⟨sz9, hsz9⟩ : ∃ z : Nat → Int32, z = fun _ => 0 := ⟨_, rfl⟩
  rw [← hla, ← hsz9] at hRK
  have qq := hRK.q
  have qsz : ∀ j, j < 4 → -1 ≤ (fsz j).toInt ∧ (fsz j).toInt ≤ 24 := fun j hj => by rw [hfs j hj]; decide
  have hro0 : (fro 0).toInt = 0 := by rw [hro]; rfl
  have hro1 : (fro 1).toInt = 0 := by rw [hro]; rfl
  have hro2 : (fro 2).toInt = 0 := by rw [hro]; rfl
  have hla1 : (la (xs 1).toNatClampNeg).toInt = -1 := by rw [hla]; rfl
  have hfs1 : 0 ≤ (xs 1).toInt ∧ (xs 1).toInt ≤ 3 → (fsz (xs 1).toNatClampNeg).toInt = -1 := fun h9 => by rw [hfs _ (hw_i4 h9)]; rfl
  have hla2 : (la (xs 2).toNatClampNeg).toInt = -1 := by rw [hla]; rfl
  have hfs2 : 0 ≤ (xs 2).toInt ∧ (xs 2).toInt ≤ 3 → (fsz (xs 2).toNatClampNeg).toInt = -1 := fun h9 => by rw [hfs _ (hw_i4 h9)]; rfl
  have hla3 : (la (xs 3).toNatClampNeg).toInt = -1 := by rw [hla]; rfl
  have hfs3 : 0 ≤ (xs 3).toInt ∧ (xs 3).toInt ≤ 3 → (fsz (xs 3).toNatClampNeg).toInt = -1 := fun h9 => by rw [hfs _ (hw_i4 h9)]; rfl
  have hik1 : (fik (xs 1).toNatClampNeg).toInt = 0 := by rw [hik]; rfl
  refine lv_aload_n hx hb dL_law_628 rfl (lv_at hl 2 rfl) ?_
  refine lv_aload_n hx hb dL_law_629 rfl (lv_at hl 3 rfl) ?_
  refine lv_iload_n hx hb dL_law_630 rfl (lv_at hl 0 rfl) ?_
  refine lv_iconst (v := 1) hx hb dL_law_631 (by decide) ?_
  refine lv_iadd hx hb dL_law_632 ?_
  refine W.eq (g2 := F0 m 633 ls [.int 1, .ref b, .ref x]) rfl ?_
  refine va_sld hx hb hX hbl hbA hS (hw_in (x := 1) (by decide) (by have h9 : (1 : Int32).toInt = 1 := rfl; omega)) dL_law_633 ?_
  refine W.eq (g2 := F0 m 634 ls [.int (xs 1), .ref x]) rfl ?_
  refine hw_cR (va_runV (As := [.int (xs 1)]) (rest := []) ⟨hx, hb, hml, hown, hts⟩ (k_X11_twins l D G1 x (xs 1) _ rx 0 0 0 0 rc 0 0 0 60 gx Rx ⟨by first | decide | omega, by first | decide | omega⟩ Rc ⟨by first | decide | omega, by first | decide | omega⟩ ⟨by first | decide | omega, by first | decide | omega⟩ ⟨by first | decide | omega, by first | decide | omega⟩) (cwV 1 hts gL_law_X11_twins rfl rfl rfl (by decide +kernel) ⟨Nat.le_of_ble_eq_true rfl, Nat.le_of_ble_eq_true rfl⟩) (hw_pV (hw_rc (q := (RX11, TX11, 14)) hK vx rfl) hH hK hST hS (by decide) (hw_hG hGe1) ⟨vx, vc⟩) rfl rfl hl.1 rfl (lv_room (Nat.le_of_ble_eq_true rfl)) dL_law_634 ⟨Nat.le_of_ble_eq_true rfl, Nat.le_of_ble_eq_true rfl⟩) (fun v hp => ?_)
  have l1 : (0 : Int32).toInt = 0 := rfl
  have l2 : (60 : Int32).toInt = 60 := rfl
  rcases hp with ⟨rfl, q3⟩ | ⟨x4, rfl, q5, q6, q7⟩
  · refine lv_aload_n hx hb dL_law_637 rfl (lv_at hl 1 rfl) ?_
    refine lv_aload_n hx hb dL_law_638 rfl (lv_at hl 3 rfl) ?_
    refine lv_iload_n hx hb dL_law_639 rfl (lv_at hl 0 rfl) ?_
    refine lv_iconst (v := 1) hx hb dL_law_640 (by decide) ?_
    refine lv_iadd hx hb dL_law_641 ?_
    refine W.eq (g2 := F0 m 642 ls [.int 1, .ref b, .ref mo, .int (-3)]) rfl ?_
    refine va_sld hx hb hX hbl hbA hS (hw_in (x := 1) (by decide) (by have h9 : (1 : Int32).toInt = 1 := rfl; omega)) dL_law_642 ?_
    refine W.eq (g2 := F0 m 643 ls [.int (xs 1), .ref mo, .int (-3)]) rfl ?_
    refine hw_cR (va_runV (As := [.int (xs 1)]) (rest := [.int (-3)]) ⟨hx, hb, hml, hown, hts⟩ (k_X12_twins l D G1 mo (xs 1) _ rm 0 0 0 0 60 0 0 0 0 0 0 0 0 0 gm Rm ⟨by first | decide | omega, by first | decide | omega⟩ ⟨by first | decide | omega, by first | decide | omega⟩ ⟨by first | decide | omega, by first | decide | omega⟩ ⟨by first | decide | omega, by first | decide | omega⟩ ⟨by first | decide | omega, by first | decide | omega⟩ ⟨by first | decide | omega, by first | decide | omega⟩ ⟨by first | decide | omega, by first | decide | omega⟩ ⟨by first | decide | omega, by first | decide | omega⟩ ⟨by first | decide | omega, by first | decide | omega⟩ ⟨by first | decide | omega, by first | decide | omega⟩ ⟨by first | decide | omega, by first | decide | omega⟩ ⟨by first | decide | omega, by first | decide | omega⟩) (cwV 1 hts gL_law_X12_twins rfl rfl rfl (by decide +kernel) ⟨Nat.le_of_ble_eq_true rfl, Nat.le_of_ble_eq_true rfl⟩) (hw_pV (hw_rc (q := (RX12, TX12, 45)) hK vm rfl) hH hK hST hS (by decide) (hw_hG hGe1) vm) rfl rfl hl.1 rfl (lv_room (Nat.le_of_ble_eq_true rfl)) dL_law_643 ⟨Nat.le_of_ble_eq_true rfl, Nat.le_of_ble_eq_true rfl⟩) (fun v hp => ?_)
    rcases hp with ⟨rfl, q8⟩ | ⟨x9, rfl, q10, q11, q12⟩
    · refine lv_icmp_eq (tgt := 1188) hx hb dL_law_646 (by decide) (fun c13 => ?_) (fun c13 => ?_)
      · refine lv_iinc (v := 6) (lv' := [(3, .int 6), (2, .ref mo), (1, .ref x), (0, .ref b)]) hx hb dL_law_1188 hl (k := 0) rfl (by rfl) (by decide) rfl (fun ls hl => ?_)
        refine lv_goto (tgt := 18) hx hb dL_law_1191 (by decide) ?_
        refine lv_iload_n hx hb dL_law_18 rfl (lv_at hl 0 rfl) ?_
        refine lv_aload_n hx hb dL_law_19 rfl (lv_at hl 3 rfl) ?_
        refine va_slen hx hb hX hbl hbA hS dL_law_20 ?_
        refine lv_bipush (v := 6) hx hb dL_law_21 (by decide) ?_
        refine lv_isub hx hb dL_law_23 ?_
        refine lv_topi (fun x14 e15 => ?_)
        have t16 : x14.toInt = (Int32.ofNat L).toInt - 6 := by rw [e15]; exact hw_sub rfl rfl (by omega) (by omega)
        refine lv_icmp_gt (tgt := 1194) hx hb dL_law_24 (by decide) (fun c17 => ?_) (fun c17 => ?_)
        · have b18 : x14.toInt < 6 := hw_ilt c17
          refine lv_iconst (v := 1) hx hb dL_law_1194 (by decide) ?_
          have hfg := hw_hfg hG0 (by decide) hS.2.2
          refine va_forget hfg ?_
          refine W.widen (k := 600000) (n := 7302250) (by decide) (by decide) ?_
          exact lw_ret hx hb hr hlocks dL_law_1195
        · have b19 : 6 ≤ x14.toInt := hw_inlt c17
          exfalso; omega
      · exact absurd c13 (by decide)
    · refine lv_icmp_eq (tgt := 1188) hx hb dL_law_646 (by decide) (fun c20 => ?_) (fun c20 => ?_)
      · have b21 : (-3) = x9.toInt := hw_ieq c20
        refine lv_iinc (v := 6) (lv' := [(3, .int 6), (2, .ref mo), (1, .ref x), (0, .ref b)]) hx hb dL_law_1188 hl (k := 0) rfl (by rfl) (by decide) rfl (fun ls hl => ?_)
        refine lv_goto (tgt := 18) hx hb dL_law_1191 (by decide) ?_
        refine lv_iload_n hx hb dL_law_18 rfl (lv_at hl 0 rfl) ?_
        refine lv_aload_n hx hb dL_law_19 rfl (lv_at hl 3 rfl) ?_
        refine va_slen hx hb hX hbl hbA hS dL_law_20 ?_
        refine lv_bipush (v := 6) hx hb dL_law_21 (by decide) ?_
        refine lv_isub hx hb dL_law_23 ?_
        refine lv_topi (fun x22 e23 => ?_)
        have t24 : x22.toInt = (Int32.ofNat L).toInt - 6 := by rw [e23]; exact hw_sub rfl rfl (by omega) (by omega)
        refine lv_icmp_gt (tgt := 1194) hx hb dL_law_24 (by decide) (fun c25 => ?_) (fun c25 => ?_)
        · have b26 : x22.toInt < 6 := hw_ilt c25
          refine lv_iconst (v := 1) hx hb dL_law_1194 (by decide) ?_
          have hfg := hw_hfg hG0 (by decide) hS.2.2
          refine va_forget hfg ?_
          refine W.widen (k := 600000) (n := 7302250) (by decide) (by decide) ?_
          exact lw_ret hx hb hr hlocks dL_law_1195
        · have b27 : 6 ≤ x22.toInt := hw_inlt c25
          exfalso; omega
      · have b28 : (-3) ≠ x9.toInt := hw_ine c20
        exfalso
        first | omega | contradiction | (subst_vars; omega)
  · refine lv_aload_n hx hb dL_law_637 rfl (lv_at hl 1 rfl) ?_
    refine lv_aload_n hx hb dL_law_638 rfl (lv_at hl 3 rfl) ?_
    refine lv_iload_n hx hb dL_law_639 rfl (lv_at hl 0 rfl) ?_
    refine lv_iconst (v := 1) hx hb dL_law_640 (by decide) ?_
    refine lv_iadd hx hb dL_law_641 ?_
    refine W.eq (g2 := F0 m 642 ls [.int 1, .ref b, .ref mo, .int x4]) rfl ?_
    refine va_sld hx hb hX hbl hbA hS (hw_in (x := 1) (by decide) (by have h9 : (1 : Int32).toInt = 1 := rfl; omega)) dL_law_642 ?_
    refine W.eq (g2 := F0 m 643 ls [.int (xs 1), .ref mo, .int x4]) rfl ?_
    refine hw_cR (va_runV (As := [.int (xs 1)]) (rest := [.int x4]) ⟨hx, hb, hml, hown, hts⟩ (k_X12_twins l D G1 mo (xs 1) _ rm 0 0 0 0 60 0 0 0 0 0 0 0 0 0 gm Rm ⟨by first | decide | omega, by first | decide | omega⟩ ⟨by first | decide | omega, by first | decide | omega⟩ ⟨by first | decide | omega, by first | decide | omega⟩ ⟨by first | decide | omega, by first | decide | omega⟩ ⟨by first | decide | omega, by first | decide | omega⟩ ⟨by first | decide | omega, by first | decide | omega⟩ ⟨by first | decide | omega, by first | decide | omega⟩ ⟨by first | decide | omega, by first | decide | omega⟩ ⟨by first | decide | omega, by first | decide | omega⟩ ⟨by first | decide | omega, by first | decide | omega⟩ ⟨by first | decide | omega, by first | decide | omega⟩ ⟨by first | decide | omega, by first | decide | omega⟩) (cwV 1 hts gL_law_X12_twins rfl rfl rfl (by decide +kernel) ⟨Nat.le_of_ble_eq_true rfl, Nat.le_of_ble_eq_true rfl⟩) (hw_pV (hw_rc (q := (RX12, TX12, 45)) hK vm rfl) hH hK hST hS (by decide) (hw_hG hGe1) vm) rfl rfl hl.1 rfl (lv_room (Nat.le_of_ble_eq_true rfl)) dL_law_643 ⟨Nat.le_of_ble_eq_true rfl, Nat.le_of_ble_eq_true rfl⟩) (fun v hp => ?_)
    rcases hp with ⟨rfl, q29⟩ | ⟨x30, rfl, q31, q32, q33⟩
    · refine lv_icmp_eq (tgt := 1188) hx hb dL_law_646 (by decide) (fun c34 => ?_) (fun c34 => ?_)
      · have b35 : x4.toInt = (-3) := hw_ieq c34
        refine lv_iinc (v := 6) (lv' := [(3, .int 6), (2, .ref mo), (1, .ref x), (0, .ref b)]) hx hb dL_law_1188 hl (k := 0) rfl (by rfl) (by decide) rfl (fun ls hl => ?_)
        refine lv_goto (tgt := 18) hx hb dL_law_1191 (by decide) ?_
        refine lv_iload_n hx hb dL_law_18 rfl (lv_at hl 0 rfl) ?_
        refine lv_aload_n hx hb dL_law_19 rfl (lv_at hl 3 rfl) ?_
        refine va_slen hx hb hX hbl hbA hS dL_law_20 ?_
        refine lv_bipush (v := 6) hx hb dL_law_21 (by decide) ?_
        refine lv_isub hx hb dL_law_23 ?_
        refine lv_topi (fun x36 e37 => ?_)
        have t38 : x36.toInt = (Int32.ofNat L).toInt - 6 := by rw [e37]; exact hw_sub rfl rfl (by omega) (by omega)
        refine lv_icmp_gt (tgt := 1194) hx hb dL_law_24 (by decide) (fun c39 => ?_) (fun c39 => ?_)
        · have b40 : x36.toInt < 6 := hw_ilt c39
          refine lv_iconst (v := 1) hx hb dL_law_1194 (by decide) ?_
          have hfg := hw_hfg hG0 (by decide) hS.2.2
          refine va_forget hfg ?_
          refine W.widen (k := 600000) (n := 7302250) (by decide) (by decide) ?_
          exact lw_ret hx hb hr hlocks dL_law_1195
        · have b41 : 6 ≤ x36.toInt := hw_inlt c39
          exfalso; omega
      · have b42 : x4.toInt ≠ (-3) := hw_ine c34
        exfalso
        first | omega | contradiction | (subst_vars; omega)
    · refine lv_icmp_eq (tgt := 1188) hx hb dL_law_646 (by decide) (fun c43 => ?_) (fun c43 => ?_)
      · have b44 : x4.toInt = x30.toInt := hw_ieq c43
        refine lv_iinc (v := 6) (lv' := [(3, .int 6), (2, .ref mo), (1, .ref x), (0, .ref b)]) hx hb dL_law_1188 hl (k := 0) rfl (by rfl) (by decide) rfl (fun ls hl => ?_)
        refine lv_goto (tgt := 18) hx hb dL_law_1191 (by decide) ?_
        refine lv_iload_n hx hb dL_law_18 rfl (lv_at hl 0 rfl) ?_
        refine lv_aload_n hx hb dL_law_19 rfl (lv_at hl 3 rfl) ?_
        refine va_slen hx hb hX hbl hbA hS dL_law_20 ?_
        refine lv_bipush (v := 6) hx hb dL_law_21 (by decide) ?_
        refine lv_isub hx hb dL_law_23 ?_
        refine lv_topi (fun x45 e46 => ?_)
        have t47 : x45.toInt = (Int32.ofNat L).toInt - 6 := by rw [e46]; exact hw_sub rfl rfl (by omega) (by omega)
        refine lv_icmp_gt (tgt := 1194) hx hb dL_law_24 (by decide) (fun c48 => ?_) (fun c48 => ?_)
        · have b49 : x45.toInt < 6 := hw_ilt c48
          refine lv_iconst (v := 1) hx hb dL_law_1194 (by decide) ?_
          have hfg := hw_hfg hG0 (by decide) hS.2.2
          refine va_forget hfg ?_
          refine W.widen (k := 600000) (n := 7302250) (by decide) (by decide) ?_
          exact lw_ret hx hb hr hlocks dL_law_1195
        · have b50 : 6 ≤ x45.toInt := hw_inlt c48
          exfalso; omega
      · have b51 : x4.toInt ≠ x30.toInt := hw_ine c43
        exfalso
        first | omega | contradiction | (subst_vars; omega)

set_option maxHeartbeats 40000000 in
set_option maxRecDepth 100000 in
theorem hw_case651 {p : Program} {e : Env} {s : State} {m : MethodId} {below : List Frame} {meth : Method} {c : Code} (l : Launch) {b L : Nat} {xs : Nat → Int32} {D : hw_D} {G : Nat → Nat} {H : Heap} {locs : List Loc} {x mo : Nat} {ls : Array Slot} (hL : L ≤ 6) (hL6 : 6 ≤ L) (hx : p.tables.exec = Jvm.exec) (hb : c.code = code) (hr : meth.sig.returnType = ret) (hml : c.maxLocals = 4) (hown : s.vm.findClass R_law = some m.cls) (hts0 : ∀ w ∈ lw_tbl, w.before #[Value.ref b] s = true) (hts : ∀ w ∈ wsL_law, w.before #[Value.ref b] s = true) (hX : va_X b L xs s s.heap) (hbl : b < s.heap.size) (hlocks : meth.locks = false) (hG0 : G = fun _ => 0) (hK : va_K D.1 vwCl (hw_ty D.2.1) s) (hST : hw_ST D.2.2 G s.heap.size s) (hF : hw_F0 D G s H x mo) (hS : va_S (hw_AW G [1, 2, 3, 4, 5, 6, 7, 8, 9, 10, 11, 12, 13, 14, 15, 16, 17, 18, 19, 20, 21, 22, 23, 24, 25, 26, 27, 28, 29, 30, 31, 32, 40, 42, 44, 45, 46, 48, 49, 50, 51, 53, 55, 58, 59, 67, 68, 69, 70, 71, 72, 73, 74, 75, 76, 77, 78, 79, 80, 81, 82, 83, 84, 101, 102, 103, 104, 105, 106, 107, 108, 109, 127, 128, 129, 132] s.heap.size) s.heap H locs) (hl : lv_has ls 4 [(3, .int 0), (2, .ref mo), (1, .ref x), (0, .ref b)]) : W p l e room_1 s m #[Value.ref b] below meth c H locs 200 8000 (lw_Z below #[Value.ref b] s) (F0 m 651 ls []) := by
  have hH0 : hw_HT D G s.heap := fun a h => absurd (by rw [hG0]) h
  have hbA : ¬ (hw_AW G [1, 2, 3, 4, 5, 6, 7, 8, 9, 10, 11, 12, 13, 14, 15, 16, 17, 18, 19, 20, 21, 22, 23, 24, 25, 26, 27, 28, 29, 30, 31, 32, 40, 42, 44, 45, 46, 48, 49, 50, 51, 53, 55, 58, 59, 67, 68, 69, 70, 71, 72, 73, 74, 75, 76, 77, 78, 79, 80, 81, 82, 83, 84, 101, 102, 103, 104, 105, 106, 107, 108, 109, 127, 128, 129, 132] s.heap.size) b := hw_AWn (k := 0) (by rw [hG0]) (by decide) hbl
  have hLi : (Int32.ofNat L).toInt = (L : Int) := nI_toInt (by omega)
  obtain ⟨G1, rx, rc, rt, rn, fq, rm, fro, fik, fla, fsz, hH, hGe1, wx, wm, gx, gm, Rx, vx, Rc, vc, Rt, vt, Rn, vn, vq, hRK, Rm, vm, vro, hro, vik, hik, vla, vsz, hfs⟩ := hF
  have hHs := hH0
  obtain ⟨la, hla⟩ : ∃ z : Nat → Int32, z = fun _ => -1 := ⟨_, rfl⟩
  obtain ⟨sz9, hsz9⟩ : ∃ z : Nat → Int32, z = fun _ => 0 := ⟨_, rfl⟩
  rw [← hla, ← hsz9] at hRK
  have qq := hRK.q
  have qsz : ∀ j, j < 4 → -1 ≤ (fsz j).toInt ∧ (fsz j).toInt ≤ 24 := fun j hj => by rw [hfs j hj]; decide
  have hro0 : (fro 0).toInt = 0 := by rw [hro]; rfl
  have hro1 : (fro 1).toInt = 0 := by rw [hro]; rfl
  have hro2 : (fro 2).toInt = 0 := by rw [hro]; rfl
  have hla1 : (la (xs 1).toNatClampNeg).toInt = -1 := by rw [hla]; rfl
  have hfs1 : 0 ≤ (xs 1).toInt ∧ (xs 1).toInt ≤ 3 → (fsz (xs 1).toNatClampNeg).toInt = -1 := fun h9 => by rw [hfs _ (hw_i4 h9)]; rfl
  have hla2 : (la (xs 2).toNatClampNeg).toInt = -1 := by rw [hla]; rfl
  have hfs2 : 0 ≤ (xs 2).toInt ∧ (xs 2).toInt ≤ 3 → (fsz (xs 2).toNatClampNeg).toInt = -1 := fun h9 => by rw [hfs _ (hw_i4 h9)]; rfl
  have hla3 : (la (xs 3).toNatClampNeg).toInt = -1 := by rw [hla]; rfl
  have hfs3 : 0 ≤ (xs 3).toInt ∧ (xs 3).toInt ≤ 3 → (fsz (xs 3).toNatClampNeg).toInt = -1 := fun h9 => by rw [hfs _ (hw_i4 h9)]; rfl
  have hik1 : (fik (xs 1).toNatClampNeg).toInt = 0 := by rw [hik]; rfl
  refine lv_aload_n hx hb dL_law_651 rfl (lv_at hl 2 rfl) ?_
  refine lv_aload_n hx hb dL_law_652 rfl (lv_at hl 3 rfl) ?_
  refine lv_iload_n hx hb dL_law_653 rfl (lv_at hl 0 rfl) ?_
  refine lv_iconst (v := 1) hx hb dL_law_654 (by decide) ?_
  refine lv_iadd hx hb dL_law_655 ?_
  refine W.eq (g2 := F0 m 656 ls [.int 1, .ref b, .ref x]) rfl ?_
  refine va_sld hx hb hX hbl hbA hS (hw_in (x := 1) (by decide) (by have h9 : (1 : Int32).toInt = 1 := rfl; omega)) dL_law_656 ?_
  refine W.eq (g2 := F0 m 657 ls [.int (xs 1), .ref x]) rfl ?_
  obtain ⟨r1, pa_2, v3, R4⟩ := hH.oP (hw_RX_12 Rx)
  obtain ⟨f5, v6⟩ := hH.a13 (hw_RP_0 R4)
  refine hw_cM0 (va_runV (As := [.int (xs 1)]) (rest := []) ⟨hx, hb, hml, hown, hts⟩ (k2_X11_match l D G1 x (xs 1) _ rx 0 0 0 0 rc 0 0 0 60 r1 pa_2 f5 gx Rx ⟨by first | decide | omega, by first | decide | omega⟩ Rc ⟨by first | decide | omega, by first | decide | omega⟩ ⟨by first | decide | omega, by first | decide | omega⟩ ⟨by first | decide | omega, by first | decide | omega⟩ R4) (cwV 1 hts gL_law_X11_match rfl rfl rfl (by decide +kernel) ⟨Nat.le_of_ble_eq_true rfl, Nat.le_of_ble_eq_true rfl⟩) (hw_pV (hw_rc (q := (RX11, TX11, 14)) hK vx rfl) hH hK hST hS (by decide) (hw_hG hGe1) ⟨vx, vc, v3, v6⟩) rfl rfl hl.1 rfl (lv_room (Nat.le_of_ble_eq_true rfl)) dL_law_657 ⟨Nat.le_of_ble_eq_true rfl, Nat.le_of_ble_eq_true rfl⟩) hS (hw_AWsub (by decide) hGe1 hS.1) (fun v H locs hp hz hk hS => ?_)
  have l8 : (0 : Int32).toInt = 0 := rfl
  have l9 : (60 : Int32).toInt = 60 := rfl
  obtain ⟨x10, x11, f12, rfl, hH, v13, v14, v15, v16, q17, q18⟩ := hp
  have hRK := hw_Racks.kept hRK (fun q9 h9 l9 => hk q9 l9 (hw_AWn h9 (by decide) l9))
  have vt := va_at.kept vt (hk _ (hw_lt vt) (hw_AWn (hw_RX_1 Rx) (by decide) (hw_lt vt)))
  have vn := va_at.kept vn (hk _ (hw_lt vn) (hw_AWn (hw_RX_2 Rx) (by decide) (hw_lt vn)))
  have vq := va_at.kept vq (hk _ (hw_lt vq) (hw_AWn (hw_RX_13 Rx) (by decide) (hw_lt vq)))
  have vm := va_at.kept vm (hk _ (hw_lt vm) (hw_AWn gm (by decide) (hw_lt vm)))
  have vro := va_at.kept vro (hk _ (hw_lt vro) (hw_AWn (hw_RM_0 Rm) (by decide) (hw_lt vro)))
  have vik := va_at.kept vik (hk _ (hw_lt vik) (hw_AWn (hw_RM_2 Rm) (by decide) (hw_lt vik)))
  have vla := va_at.kept vla (hk _ (hw_lt vla) (hw_AWn (hw_RM_41 Rm) (by decide) (hw_lt vla)))
  have vsz := va_at.kept vsz (hk _ (hw_lt vsz) (hw_AWn (hw_RM_42 Rm) (by decide) (hw_lt vsz)))
  refine lv_aload_n hx hb dL_law_660 rfl (lv_at hl 1 rfl) ?_
  refine lv_aload_n hx hb dL_law_661 rfl (lv_at hl 3 rfl) ?_
  refine lv_iload_n hx hb dL_law_662 rfl (lv_at hl 0 rfl) ?_
  refine lv_iconst (v := 1) hx hb dL_law_663 (by decide) ?_
  refine lv_iadd hx hb dL_law_664 ?_
  refine W.eq (g2 := F0 m 665 ls [.int 1, .ref b, .ref mo, .int x10]) rfl ?_
  refine va_sld hx hb hX hbl hbA hS (hw_in (x := 1) (by decide) (by have h9 : (1 : Int32).toInt = 1 := rfl; omega)) dL_law_665 ?_
  refine W.eq (g2 := F0 m 666 ls [.int (xs 1), .ref mo, .int x10]) rfl ?_
  refine hw_cM0 (va_runV (As := [.int (xs 1)]) (rest := [.int x10]) ⟨hx, hb, hml, hown, hts⟩ (k_X12_match l D G1 mo (xs 1) _ rm 0 0 0 0 60 0 0 0 0 0 0 0 0 0 gm Rm ⟨by first | decide | omega, by first | decide | omega⟩ ⟨by first | decide | omega, by first | decide | omega⟩ ⟨by first | decide | omega, by first | decide | omega⟩ ⟨by first | decide | omega, by first | decide | omega⟩ ⟨by first | decide | omega, by first | decide | omega⟩ ⟨by first | decide | omega, by first | decide | omega⟩ ⟨by first | decide | omega, by first | decide | omega⟩ ⟨by first | decide | omega, by first | decide | omega⟩ ⟨by first | decide | omega, by first | decide | omega⟩ ⟨by first | decide | omega, by first | decide | omega⟩ ⟨by first | decide | omega, by first | decide | omega⟩ ⟨by first | decide | omega, by first | decide | omega⟩) (cwV 1 hts gL_law_X12_match rfl rfl rfl (by decide +kernel) ⟨Nat.le_of_ble_eq_true rfl, Nat.le_of_ble_eq_true rfl⟩) (hw_pV (hw_rc (q := (RX12, TX12, 45)) hK vm rfl) hH hK hST hS (by decide) (hw_hG hGe1) vm) rfl rfl hl.1 rfl (lv_room (Nat.le_of_ble_eq_true rfl)) dL_law_666 ⟨Nat.le_of_ble_eq_true rfl, Nat.le_of_ble_eq_true rfl⟩) hS (hw_AWsub (by decide) hGe1 hS.1) (fun v H locs hp hz hk hS => ?_)
  obtain ⟨x19, rfl, hH, v20, q21, q22⟩ := hp
  have hRK := hw_Racks.kept hRK (fun q9 h9 l9 => hk q9 l9 (hw_AWn h9 (by decide) l9))
  have v13 := va_at.kept v13 (hk _ (hw_lt v13) (hw_AWn gx (by decide) (hw_lt v13)))
  have v14 := va_at.kept v14 (hk _ (hw_lt v14) (hw_AWn (hw_RX_0 Rx) (by decide) (hw_lt v14)))
  have vt := va_at.kept vt (hk _ (hw_lt vt) (hw_AWn (hw_RX_1 Rx) (by decide) (hw_lt vt)))
  have vn := va_at.kept vn (hk _ (hw_lt vn) (hw_AWn (hw_RX_2 Rx) (by decide) (hw_lt vn)))
  have vq := va_at.kept vq (hk _ (hw_lt vq) (hw_AWn (hw_RX_13 Rx) (by decide) (hw_lt vq)))
  have vro := va_at.kept vro (hk _ (hw_lt vro) (hw_AWn (hw_RM_0 Rm) (by decide) (hw_lt vro)))
  have vik := va_at.kept vik (hk _ (hw_lt vik) (hw_AWn (hw_RM_2 Rm) (by decide) (hw_lt vik)))
  have vla := va_at.kept vla (hk _ (hw_lt vla) (hw_AWn (hw_RM_41 Rm) (by decide) (hw_lt vla)))
  have vsz := va_at.kept vsz (hk _ (hw_lt vsz) (hw_AWn (hw_RM_42 Rm) (by decide) (hw_lt vsz)))
  have v15 := va_at.kept v15 (hk _ (hw_lt v15) (hw_AWn (hw_RX_12 Rx) (by decide) (hw_lt v15)))
  have v16 := va_at.kept v16 (hk _ (hw_lt v16) (hw_AWn (hw_RP_0 R4) (by decide) (hw_lt v16)))
  refine lv_icmp_eq (tgt := 1188) hx hb dL_law_669 (by decide) (fun c23 => ?_) (fun c23 => ?_)
  · have b24 : x10.toInt = x19.toInt := hw_ieq c23
    refine lv_iinc (v := 6) (lv' := [(3, .int 6), (2, .ref mo), (1, .ref x), (0, .ref b)]) hx hb dL_law_1188 hl (k := 0) rfl (by rfl) (by decide) rfl (fun ls hl => ?_)
    refine lv_goto (tgt := 18) hx hb dL_law_1191 (by decide) ?_
    refine lv_iload_n hx hb dL_law_18 rfl (lv_at hl 0 rfl) ?_
    refine lv_aload_n hx hb dL_law_19 rfl (lv_at hl 3 rfl) ?_
    refine va_slen hx hb hX hbl hbA hS dL_law_20 ?_
    refine lv_bipush (v := 6) hx hb dL_law_21 (by decide) ?_
    refine lv_isub hx hb dL_law_23 ?_
    refine lv_topi (fun x25 e26 => ?_)
    have t27 : x25.toInt = (Int32.ofNat L).toInt - 6 := by rw [e26]; exact hw_sub rfl rfl (by omega) (by omega)
    refine lv_icmp_gt (tgt := 1194) hx hb dL_law_24 (by decide) (fun c28 => ?_) (fun c28 => ?_)
    · have b29 : x25.toInt < 6 := hw_ilt c28
      refine lv_iconst (v := 1) hx hb dL_law_1194 (by decide) ?_
      have hfg := hw_hfg hG0 (by decide) hS.2.2
      refine va_forget hfg ?_
      refine W.widen (k := 600000) (n := 7302250) (by decide) (by decide) ?_
      exact lw_ret hx hb hr hlocks dL_law_1195
    · have b30 : 6 ≤ x25.toInt := hw_inlt c28
      exfalso; omega
  · have b31 : x10.toInt ≠ x19.toInt := hw_ine c23
    exfalso
    first | omega | contradiction | (subst_vars; omega)

set_option maxHeartbeats 40000000 in
set_option maxRecDepth 100000 in
theorem hw_case674 {p : Program} {e : Env} {s : State} {m : MethodId} {below : List Frame} {meth : Method} {c : Code} (l : Launch) {b L : Nat} {xs : Nat → Int32} {D : hw_D} {G : Nat → Nat} {H : Heap} {locs : List Loc} {x mo : Nat} {ls : Array Slot} (hL : L ≤ 6) (hL6 : 6 ≤ L) (hx : p.tables.exec = Jvm.exec) (hb : c.code = code) (hr : meth.sig.returnType = ret) (hml : c.maxLocals = 4) (hown : s.vm.findClass R_law = some m.cls) (hts0 : ∀ w ∈ lw_tbl, w.before #[Value.ref b] s = true) (hts : ∀ w ∈ wsL_law, w.before #[Value.ref b] s = true) (hX : va_X b L xs s s.heap) (hbl : b < s.heap.size) (hlocks : meth.locks = false) (hG0 : G = fun _ => 0) (hK : va_K D.1 vwCl (hw_ty D.2.1) s) (hST : hw_ST D.2.2 G s.heap.size s) (hF : hw_F0 D G s H x mo) (hS : va_S (hw_AW G [1, 2, 3, 4, 5, 6, 7, 8, 9, 10, 11, 12, 13, 14, 15, 16, 17, 18, 19, 20, 21, 22, 23, 24, 25, 26, 27, 28, 29, 30, 31, 32, 40, 42, 44, 45, 46, 48, 49, 50, 51, 53, 55, 58, 59, 67, 68, 69, 70, 71, 72, 73, 74, 75, 76, 77, 78, 79, 80, 81, 82, 83, 84, 101, 102, 103, 104, 105, 106, 107, 108, 109, 127, 128, 129, 132] s.heap.size) s.heap H locs) (hl : lv_has ls 4 [(3, .int 0), (2, .ref mo), (1, .ref x), (0, .ref b)]) : W p l e room_1 s m #[Value.ref b] below meth c H locs 200 8000 (lw_Z below #[Value.ref b] s) (F0 m 674 ls []) := by
  have hH0 : hw_HT D G s.heap := fun a h => absurd (by rw [hG0]) h
  have hbA : ¬ (hw_AW G [1, 2, 3, 4, 5, 6, 7, 8, 9, 10, 11, 12, 13, 14, 15, 16, 17, 18, 19, 20, 21, 22, 23, 24, 25, 26, 27, 28, 29, 30, 31, 32, 40, 42, 44, 45, 46, 48, 49, 50, 51, 53, 55, 58, 59, 67, 68, 69, 70, 71, 72, 73, 74, 75, 76, 77, 78, 79, 80, 81, 82, 83, 84, 101, 102, 103, 104, 105, 106, 107, 108, 109, 127, 128, 129, 132] s.heap.size) b := hw_AWn (k := 0) (by rw [hG0]) (by decide) hbl
  have hLi : (Int32.ofNat L).toInt = (L : Int) := nI_toInt (by omega)
  obtain ⟨G1, rx, rc, rt, rn, fq, rm, fro, fik, fla, fsz, hH, hGe1, wx, wm, gx, gm, Rx, vx, Rc, vc, Rt, vt, Rn, vn, vq, hRK, Rm, vm, vro, hro, vik, hik, vla, vsz, hfs⟩ := hF
  have hHs := hH0
  obtain ⟨la, hla⟩ : ∃ z : Nat → Int32, z = fun _ => -1 := ⟨_, rfl⟩
  obtain ⟨sz9, hsz9⟩ : ∃ z : Nat → Int32, z = fun _ => 0 := ⟨_, rfl⟩
  rw [← hla, ← hsz9] at hRK
  have qq := hRK.q
  have qsz : ∀ j, j < 4 → -1 ≤ (fsz j).toInt ∧ (fsz j).toInt ≤ 24 := fun j hj => by rw [hfs j hj]; decide
  have hro0 : (fro 0).toInt = 0 := by rw [hro]; rfl
  have hro1 : (fro 1).toInt = 0 := by rw [hro]; rfl
  have hro2 : (fro 2).toInt = 0 := by rw [hro]; rfl
  have hla1 : (la (xs 1).toNatClampNeg).toInt = -1 := by rw [hla]; rfl
  have hfs1 : 0 ≤ (xs 1).toInt ∧ (xs 1).toInt ≤ 3 → (fsz (xs 1).toNatClampNeg).toInt = -1 := fun h9 => by rw [hfs _ (hw_i4 h9)]; rfl
  have hla2 : (la (xs 2).toNatClampNeg).toInt = -1 := by rw [hla]; rfl
  have hfs2 : 0 ≤ (xs 2).toInt ∧ (xs 2).toInt ≤ 3 → (fsz (xs 2).toNatClampNeg).toInt = -1 := fun h9 => by rw [hfs _ (hw_i4 h9)]; rfl
  have hla3 : (la (xs 3).toNatClampNeg).toInt = -1 := by rw [hla]; rfl
  have hfs3 : 0 ≤ (xs 3).toInt ∧ (xs 3).toInt ≤ 3 → (fsz (xs 3).toNatClampNeg).toInt = -1 := fun h9 => by rw [hfs _ (hw_i4 h9)]; rfl
  have hik1 : (fik (xs 1).toNatClampNeg).toInt = 0 := by rw [hik]; rfl
  refine lv_aload_n hx hb dL_law_674 rfl (lv_at hl 2 rfl) ?_
  refine lv_aload_n hx hb dL_law_675 rfl (lv_at hl 3 rfl) ?_
  refine lv_iload_n hx hb dL_law_676 rfl (lv_at hl 0 rfl) ?_
  refine lv_iconst (v := 1) hx hb dL_law_677 (by decide) ?_
  refine lv_iadd hx hb dL_law_678 ?_
  refine W.eq (g2 := F0 m 679 ls [.int 1, .ref b, .ref x]) rfl ?_
  refine va_sld hx hb hX hbl hbA hS (hw_in (x := 1) (by decide) (by have h9 : (1 : Int32).toInt = 1 := rfl; omega)) dL_law_679 ?_
  refine W.eq (g2 := F0 m 680 ls [.int (xs 1), .ref x]) rfl ?_
  obtain ⟨r1, pa_2, v3, R4⟩ := hH.oP (hw_RX_12 Rx)
  obtain ⟨f5, v6⟩ := hH.a18 (hw_RP_6 R4)
  refine hw_cM0 (va_runV (As := [.int (xs 1)]) (rest := []) ⟨hx, hb, hml, hown, hts⟩ (k2_X11_work l D G1 x (xs 1) _ rx 0 0 0 0 rc 0 0 0 60 r1 pa_2 f5 gx Rx ⟨by first | decide | omega, by first | decide | omega⟩ Rc ⟨by first | decide | omega, by first | decide | omega⟩ ⟨by first | decide | omega, by first | decide | omega⟩ ⟨by first | decide | omega, by first | decide | omega⟩ R4) (cwV 1 hts gL_law_X11_work rfl rfl rfl (by decide +kernel) ⟨Nat.le_of_ble_eq_true rfl, Nat.le_of_ble_eq_true rfl⟩) (hw_pV (hw_rc (q := (RX11, TX11, 14)) hK vx rfl) hH hK hST hS (by decide) (hw_hG hGe1) ⟨vx, vc, v3, v6⟩) rfl rfl hl.1 rfl (lv_room (Nat.le_of_ble_eq_true rfl)) dL_law_680 ⟨Nat.le_of_ble_eq_true rfl, Nat.le_of_ble_eq_true rfl⟩) hS (hw_AWsub (by decide) hGe1 hS.1) (fun v H locs hp hz hk hS => ?_)
  have l8 : (0 : Int32).toInt = 0 := rfl
  have l9 : (60 : Int32).toInt = 60 := rfl
  rcases hp with ⟨f10, rfl, hH, v11, v12, v13, v14, q15⟩ | ⟨x16, f17, rfl, hH, v18, v19, v20, v21, q22, q23⟩
  · have hRK := hw_Racks.kept hRK (fun q9 h9 l9 => hk q9 l9 (hw_AWn h9 (by decide) l9))
    have vt := va_at.kept vt (hk _ (hw_lt vt) (hw_AWn (hw_RX_1 Rx) (by decide) (hw_lt vt)))
    have vn := va_at.kept vn (hk _ (hw_lt vn) (hw_AWn (hw_RX_2 Rx) (by decide) (hw_lt vn)))
    have vq := va_at.kept vq (hk _ (hw_lt vq) (hw_AWn (hw_RX_13 Rx) (by decide) (hw_lt vq)))
    have vm := va_at.kept vm (hk _ (hw_lt vm) (hw_AWn gm (by decide) (hw_lt vm)))
    have vro := va_at.kept vro (hk _ (hw_lt vro) (hw_AWn (hw_RM_0 Rm) (by decide) (hw_lt vro)))
    have vik := va_at.kept vik (hk _ (hw_lt vik) (hw_AWn (hw_RM_2 Rm) (by decide) (hw_lt vik)))
    have vla := va_at.kept vla (hk _ (hw_lt vla) (hw_AWn (hw_RM_41 Rm) (by decide) (hw_lt vla)))
    have vsz := va_at.kept vsz (hk _ (hw_lt vsz) (hw_AWn (hw_RM_42 Rm) (by decide) (hw_lt vsz)))
    refine lv_aload_n hx hb dL_law_683 rfl (lv_at hl 1 rfl) ?_
    refine lv_aload_n hx hb dL_law_684 rfl (lv_at hl 3 rfl) ?_
    refine lv_iload_n hx hb dL_law_685 rfl (lv_at hl 0 rfl) ?_
    refine lv_iconst (v := 1) hx hb dL_law_686 (by decide) ?_
    refine lv_iadd hx hb dL_law_687 ?_
    refine W.eq (g2 := F0 m 688 ls [.int 1, .ref b, .ref mo, .int (-3)]) rfl ?_
    refine va_sld hx hb hX hbl hbA hS (hw_in (x := 1) (by decide) (by have h9 : (1 : Int32).toInt = 1 := rfl; omega)) dL_law_688 ?_
    refine W.eq (g2 := F0 m 689 ls [.int (xs 1), .ref mo, .int (-3)]) rfl ?_
    refine hw_cM0 (va_runV (As := [.int (xs 1)]) (rest := [.int (-3)]) ⟨hx, hb, hml, hown, hts⟩ (k_X12_work l D G1 mo (xs 1) _ rm 0 0 0 0 60 0 0 0 0 0 0 0 0 0 gm Rm ⟨by first | decide | omega, by first | decide | omega⟩ ⟨by first | decide | omega, by first | decide | omega⟩ ⟨by first | decide | omega, by first | decide | omega⟩ ⟨by first | decide | omega, by first | decide | omega⟩ ⟨by first | decide | omega, by first | decide | omega⟩ ⟨by first | decide | omega, by first | decide | omega⟩ ⟨by first | decide | omega, by first | decide | omega⟩ ⟨by first | decide | omega, by first | decide | omega⟩ ⟨by first | decide | omega, by first | decide | omega⟩ ⟨by first | decide | omega, by first | decide | omega⟩ ⟨by first | decide | omega, by first | decide | omega⟩ ⟨by first | decide | omega, by first | decide | omega⟩) (cwV 1 hts gL_law_X12_work rfl rfl rfl (by decide +kernel) ⟨Nat.le_of_ble_eq_true rfl, Nat.le_of_ble_eq_true rfl⟩) (hw_pV (hw_rc (q := (RX12, TX12, 45)) hK vm rfl) hH hK hST hS (by decide) (hw_hG hGe1) vm) rfl rfl hl.1 rfl (lv_room (Nat.le_of_ble_eq_true rfl)) dL_law_689 ⟨Nat.le_of_ble_eq_true rfl, Nat.le_of_ble_eq_true rfl⟩) hS (hw_AWsub (by decide) hGe1 hS.1) (fun v H locs hp hz hk hS => ?_)
    rcases hp with ⟨rfl, hH, v24, q25⟩ | ⟨x26, rfl, hH, v27, q28, q29⟩
    · have hRK := hw_Racks.kept hRK (fun q9 h9 l9 => hk q9 l9 (hw_AWn h9 (by decide) l9))
      have v11 := va_at.kept v11 (hk _ (hw_lt v11) (hw_AWn gx (by decide) (hw_lt v11)))
      have v12 := va_at.kept v12 (hk _ (hw_lt v12) (hw_AWn (hw_RX_0 Rx) (by decide) (hw_lt v12)))
      have vt := va_at.kept vt (hk _ (hw_lt vt) (hw_AWn (hw_RX_1 Rx) (by decide) (hw_lt vt)))
      have vn := va_at.kept vn (hk _ (hw_lt vn) (hw_AWn (hw_RX_2 Rx) (by decide) (hw_lt vn)))
      have vq := va_at.kept vq (hk _ (hw_lt vq) (hw_AWn (hw_RX_13 Rx) (by decide) (hw_lt vq)))
      have vro := va_at.kept vro (hk _ (hw_lt vro) (hw_AWn (hw_RM_0 Rm) (by decide) (hw_lt vro)))
      have vik := va_at.kept vik (hk _ (hw_lt vik) (hw_AWn (hw_RM_2 Rm) (by decide) (hw_lt vik)))
      have vla := va_at.kept vla (hk _ (hw_lt vla) (hw_AWn (hw_RM_41 Rm) (by decide) (hw_lt vla)))
      have vsz := va_at.kept vsz (hk _ (hw_lt vsz) (hw_AWn (hw_RM_42 Rm) (by decide) (hw_lt vsz)))
      have v13 := va_at.kept v13 (hk _ (hw_lt v13) (hw_AWn (hw_RX_12 Rx) (by decide) (hw_lt v13)))
      have v14 := va_at.kept v14 (hk _ (hw_lt v14) (hw_AWn (hw_RP_6 R4) (by decide) (hw_lt v14)))
      refine lv_icmp_eq (tgt := 1188) hx hb dL_law_692 (by decide) (fun c30 => ?_) (fun c30 => ?_)
      · refine lv_iinc (v := 6) (lv' := [(3, .int 6), (2, .ref mo), (1, .ref x), (0, .ref b)]) hx hb dL_law_1188 hl (k := 0) rfl (by rfl) (by decide) rfl (fun ls hl => ?_)
        refine lv_goto (tgt := 18) hx hb dL_law_1191 (by decide) ?_
        refine lv_iload_n hx hb dL_law_18 rfl (lv_at hl 0 rfl) ?_
        refine lv_aload_n hx hb dL_law_19 rfl (lv_at hl 3 rfl) ?_
        refine va_slen hx hb hX hbl hbA hS dL_law_20 ?_
        refine lv_bipush (v := 6) hx hb dL_law_21 (by decide) ?_
        refine lv_isub hx hb dL_law_23 ?_
        refine lv_topi (fun x31 e32 => ?_)
        have t33 : x31.toInt = (Int32.ofNat L).toInt - 6 := by rw [e32]; exact hw_sub rfl rfl (by omega) (by omega)
        refine lv_icmp_gt (tgt := 1194) hx hb dL_law_24 (by decide) (fun c34 => ?_) (fun c34 => ?_)
        · have b35 : x31.toInt < 6 := hw_ilt c34
          refine lv_iconst (v := 1) hx hb dL_law_1194 (by decide) ?_
          have hfg := hw_hfg hG0 (by decide) hS.2.2
          refine va_forget hfg ?_
          refine W.widen (k := 600000) (n := 7302250) (by decide) (by decide) ?_
          exact lw_ret hx hb hr hlocks dL_law_1195
        · have b36 : 6 ≤ x31.toInt := hw_inlt c34
          exfalso; omega
      · exact absurd c30 (by decide)
    · have hRK := hw_Racks.kept hRK (fun q9 h9 l9 => hk q9 l9 (hw_AWn h9 (by decide) l9))
      have v11 := va_at.kept v11 (hk _ (hw_lt v11) (hw_AWn gx (by decide) (hw_lt v11)))
      have v12 := va_at.kept v12 (hk _ (hw_lt v12) (hw_AWn (hw_RX_0 Rx) (by decide) (hw_lt v12)))
      have vt := va_at.kept vt (hk _ (hw_lt vt) (hw_AWn (hw_RX_1 Rx) (by decide) (hw_lt vt)))
      have vn := va_at.kept vn (hk _ (hw_lt vn) (hw_AWn (hw_RX_2 Rx) (by decide) (hw_lt vn)))
      have vq := va_at.kept vq (hk _ (hw_lt vq) (hw_AWn (hw_RX_13 Rx) (by decide) (hw_lt vq)))
      have vro := va_at.kept vro (hk _ (hw_lt vro) (hw_AWn (hw_RM_0 Rm) (by decide) (hw_lt vro)))
      have vik := va_at.kept vik (hk _ (hw_lt vik) (hw_AWn (hw_RM_2 Rm) (by decide) (hw_lt vik)))
      have vla := va_at.kept vla (hk _ (hw_lt vla) (hw_AWn (hw_RM_41 Rm) (by decide) (hw_lt vla)))
      have vsz := va_at.kept vsz (hk _ (hw_lt vsz) (hw_AWn (hw_RM_42 Rm) (by decide) (hw_lt vsz)))
      have v13 := va_at.kept v13 (hk _ (hw_lt v13) (hw_AWn (hw_RX_12 Rx) (by decide) (hw_lt v13)))
      have v14 := va_at.kept v14 (hk _ (hw_lt v14) (hw_AWn (hw_RP_6 R4) (by decide) (hw_lt v14)))
      refine lv_icmp_eq (tgt := 1188) hx hb dL_law_692 (by decide) (fun c37 => ?_) (fun c37 => ?_)
      · have b38 : (-3) = x26.toInt := hw_ieq c37
        refine lv_iinc (v := 6) (lv' := [(3, .int 6), (2, .ref mo), (1, .ref x), (0, .ref b)]) hx hb dL_law_1188 hl (k := 0) rfl (by rfl) (by decide) rfl (fun ls hl => ?_)
        refine lv_goto (tgt := 18) hx hb dL_law_1191 (by decide) ?_
        refine lv_iload_n hx hb dL_law_18 rfl (lv_at hl 0 rfl) ?_
        refine lv_aload_n hx hb dL_law_19 rfl (lv_at hl 3 rfl) ?_
        refine va_slen hx hb hX hbl hbA hS dL_law_20 ?_
        refine lv_bipush (v := 6) hx hb dL_law_21 (by decide) ?_
        refine lv_isub hx hb dL_law_23 ?_
        refine lv_topi (fun x39 e40 => ?_)
        have t41 : x39.toInt = (Int32.ofNat L).toInt - 6 := by rw [e40]; exact hw_sub rfl rfl (by omega) (by omega)
        refine lv_icmp_gt (tgt := 1194) hx hb dL_law_24 (by decide) (fun c42 => ?_) (fun c42 => ?_)
        · have b43 : x39.toInt < 6 := hw_ilt c42
          refine lv_iconst (v := 1) hx hb dL_law_1194 (by decide) ?_
          have hfg := hw_hfg hG0 (by decide) hS.2.2
          refine va_forget hfg ?_
          refine W.widen (k := 600000) (n := 7302250) (by decide) (by decide) ?_
          exact lw_ret hx hb hr hlocks dL_law_1195
        · have b44 : 6 ≤ x39.toInt := hw_inlt c42
          exfalso; omega
      · have b45 : (-3) ≠ x26.toInt := hw_ine c37
        exfalso
        first | omega | contradiction | (subst_vars; omega)
  · have hRK := hw_Racks.kept hRK (fun q9 h9 l9 => hk q9 l9 (hw_AWn h9 (by decide) l9))
    have vt := va_at.kept vt (hk _ (hw_lt vt) (hw_AWn (hw_RX_1 Rx) (by decide) (hw_lt vt)))
    have vn := va_at.kept vn (hk _ (hw_lt vn) (hw_AWn (hw_RX_2 Rx) (by decide) (hw_lt vn)))
    have vq := va_at.kept vq (hk _ (hw_lt vq) (hw_AWn (hw_RX_13 Rx) (by decide) (hw_lt vq)))
    have vm := va_at.kept vm (hk _ (hw_lt vm) (hw_AWn gm (by decide) (hw_lt vm)))
    have vro := va_at.kept vro (hk _ (hw_lt vro) (hw_AWn (hw_RM_0 Rm) (by decide) (hw_lt vro)))
    have vik := va_at.kept vik (hk _ (hw_lt vik) (hw_AWn (hw_RM_2 Rm) (by decide) (hw_lt vik)))
    have vla := va_at.kept vla (hk _ (hw_lt vla) (hw_AWn (hw_RM_41 Rm) (by decide) (hw_lt vla)))
    have vsz := va_at.kept vsz (hk _ (hw_lt vsz) (hw_AWn (hw_RM_42 Rm) (by decide) (hw_lt vsz)))
    refine lv_aload_n hx hb dL_law_683 rfl (lv_at hl 1 rfl) ?_
    refine lv_aload_n hx hb dL_law_684 rfl (lv_at hl 3 rfl) ?_
    refine lv_iload_n hx hb dL_law_685 rfl (lv_at hl 0 rfl) ?_
    refine lv_iconst (v := 1) hx hb dL_law_686 (by decide) ?_
    refine lv_iadd hx hb dL_law_687 ?_
    refine W.eq (g2 := F0 m 688 ls [.int 1, .ref b, .ref mo, .int x16]) rfl ?_
    refine va_sld hx hb hX hbl hbA hS (hw_in (x := 1) (by decide) (by have h9 : (1 : Int32).toInt = 1 := rfl; omega)) dL_law_688 ?_
    refine W.eq (g2 := F0 m 689 ls [.int (xs 1), .ref mo, .int x16]) rfl ?_
    refine hw_cM0 (va_runV (As := [.int (xs 1)]) (rest := [.int x16]) ⟨hx, hb, hml, hown, hts⟩ (k_X12_work l D G1 mo (xs 1) _ rm 0 0 0 0 60 0 0 0 0 0 0 0 0 0 gm Rm ⟨by first | decide | omega, by first | decide | omega⟩ ⟨by first | decide | omega, by first | decide | omega⟩ ⟨by first | decide | omega, by first | decide | omega⟩ ⟨by first | decide | omega, by first | decide | omega⟩ ⟨by first | decide | omega, by first | decide | omega⟩ ⟨by first | decide | omega, by first | decide | omega⟩ ⟨by first | decide | omega, by first | decide | omega⟩ ⟨by first | decide | omega, by first | decide | omega⟩ ⟨by first | decide | omega, by first | decide | omega⟩ ⟨by first | decide | omega, by first | decide | omega⟩ ⟨by first | decide | omega, by first | decide | omega⟩ ⟨by first | decide | omega, by first | decide | omega⟩) (cwV 1 hts gL_law_X12_work rfl rfl rfl (by decide +kernel) ⟨Nat.le_of_ble_eq_true rfl, Nat.le_of_ble_eq_true rfl⟩) (hw_pV (hw_rc (q := (RX12, TX12, 45)) hK vm rfl) hH hK hST hS (by decide) (hw_hG hGe1) vm) rfl rfl hl.1 rfl (lv_room (Nat.le_of_ble_eq_true rfl)) dL_law_689 ⟨Nat.le_of_ble_eq_true rfl, Nat.le_of_ble_eq_true rfl⟩) hS (hw_AWsub (by decide) hGe1 hS.1) (fun v H locs hp hz hk hS => ?_)
    rcases hp with ⟨rfl, hH, v46, q47⟩ | ⟨x48, rfl, hH, v49, q50, q51⟩
    · have hRK := hw_Racks.kept hRK (fun q9 h9 l9 => hk q9 l9 (hw_AWn h9 (by decide) l9))
      have v18 := va_at.kept v18 (hk _ (hw_lt v18) (hw_AWn gx (by decide) (hw_lt v18)))
      have v19 := va_at.kept v19 (hk _ (hw_lt v19) (hw_AWn (hw_RX_0 Rx) (by decide) (hw_lt v19)))
      have vt := va_at.kept vt (hk _ (hw_lt vt) (hw_AWn (hw_RX_1 Rx) (by decide) (hw_lt vt)))
      have vn := va_at.kept vn (hk _ (hw_lt vn) (hw_AWn (hw_RX_2 Rx) (by decide) (hw_lt vn)))
      have vq := va_at.kept vq (hk _ (hw_lt vq) (hw_AWn (hw_RX_13 Rx) (by decide) (hw_lt vq)))
      have vro := va_at.kept vro (hk _ (hw_lt vro) (hw_AWn (hw_RM_0 Rm) (by decide) (hw_lt vro)))
      have vik := va_at.kept vik (hk _ (hw_lt vik) (hw_AWn (hw_RM_2 Rm) (by decide) (hw_lt vik)))
      have vla := va_at.kept vla (hk _ (hw_lt vla) (hw_AWn (hw_RM_41 Rm) (by decide) (hw_lt vla)))
      have vsz := va_at.kept vsz (hk _ (hw_lt vsz) (hw_AWn (hw_RM_42 Rm) (by decide) (hw_lt vsz)))
      have v20 := va_at.kept v20 (hk _ (hw_lt v20) (hw_AWn (hw_RX_12 Rx) (by decide) (hw_lt v20)))
      have v21 := va_at.kept v21 (hk _ (hw_lt v21) (hw_AWn (hw_RP_6 R4) (by decide) (hw_lt v21)))
      refine lv_icmp_eq (tgt := 1188) hx hb dL_law_692 (by decide) (fun c52 => ?_) (fun c52 => ?_)
      · have b53 : x16.toInt = (-3) := hw_ieq c52
        refine lv_iinc (v := 6) (lv' := [(3, .int 6), (2, .ref mo), (1, .ref x), (0, .ref b)]) hx hb dL_law_1188 hl (k := 0) rfl (by rfl) (by decide) rfl (fun ls hl => ?_)
        refine lv_goto (tgt := 18) hx hb dL_law_1191 (by decide) ?_
        refine lv_iload_n hx hb dL_law_18 rfl (lv_at hl 0 rfl) ?_
        refine lv_aload_n hx hb dL_law_19 rfl (lv_at hl 3 rfl) ?_
        refine va_slen hx hb hX hbl hbA hS dL_law_20 ?_
        refine lv_bipush (v := 6) hx hb dL_law_21 (by decide) ?_
        refine lv_isub hx hb dL_law_23 ?_
        refine lv_topi (fun x54 e55 => ?_)
        have t56 : x54.toInt = (Int32.ofNat L).toInt - 6 := by rw [e55]; exact hw_sub rfl rfl (by omega) (by omega)
        refine lv_icmp_gt (tgt := 1194) hx hb dL_law_24 (by decide) (fun c57 => ?_) (fun c57 => ?_)
        · have b58 : x54.toInt < 6 := hw_ilt c57
          refine lv_iconst (v := 1) hx hb dL_law_1194 (by decide) ?_
          have hfg := hw_hfg hG0 (by decide) hS.2.2
          refine va_forget hfg ?_
          refine W.widen (k := 600000) (n := 7302250) (by decide) (by decide) ?_
          exact lw_ret hx hb hr hlocks dL_law_1195
        · have b59 : 6 ≤ x54.toInt := hw_inlt c57
          exfalso; omega
      · have b60 : x16.toInt ≠ (-3) := hw_ine c52
        exfalso
        first | omega | contradiction | (subst_vars; omega)
    · have hRK := hw_Racks.kept hRK (fun q9 h9 l9 => hk q9 l9 (hw_AWn h9 (by decide) l9))
      have v18 := va_at.kept v18 (hk _ (hw_lt v18) (hw_AWn gx (by decide) (hw_lt v18)))
      have v19 := va_at.kept v19 (hk _ (hw_lt v19) (hw_AWn (hw_RX_0 Rx) (by decide) (hw_lt v19)))
      have vt := va_at.kept vt (hk _ (hw_lt vt) (hw_AWn (hw_RX_1 Rx) (by decide) (hw_lt vt)))
      have vn := va_at.kept vn (hk _ (hw_lt vn) (hw_AWn (hw_RX_2 Rx) (by decide) (hw_lt vn)))
      have vq := va_at.kept vq (hk _ (hw_lt vq) (hw_AWn (hw_RX_13 Rx) (by decide) (hw_lt vq)))
      have vro := va_at.kept vro (hk _ (hw_lt vro) (hw_AWn (hw_RM_0 Rm) (by decide) (hw_lt vro)))
      have vik := va_at.kept vik (hk _ (hw_lt vik) (hw_AWn (hw_RM_2 Rm) (by decide) (hw_lt vik)))
      have vla := va_at.kept vla (hk _ (hw_lt vla) (hw_AWn (hw_RM_41 Rm) (by decide) (hw_lt vla)))
      have vsz := va_at.kept vsz (hk _ (hw_lt vsz) (hw_AWn (hw_RM_42 Rm) (by decide) (hw_lt vsz)))
      have v20 := va_at.kept v20 (hk _ (hw_lt v20) (hw_AWn (hw_RX_12 Rx) (by decide) (hw_lt v20)))
      have v21 := va_at.kept v21 (hk _ (hw_lt v21) (hw_AWn (hw_RP_6 R4) (by decide) (hw_lt v21)))
      refine lv_icmp_eq (tgt := 1188) hx hb dL_law_692 (by decide) (fun c61 => ?_) (fun c61 => ?_)
      · have b62 : x16.toInt = x48.toInt := hw_ieq c61
        refine lv_iinc (v := 6) (lv' := [(3, .int 6), (2, .ref mo), (1, .ref x), (0, .ref b)]) hx hb dL_law_1188 hl (k := 0) rfl (by rfl) (by decide) rfl (fun ls hl => ?_)
        refine lv_goto (tgt := 18) hx hb dL_law_1191 (by decide) ?_
        refine lv_iload_n hx hb dL_law_18 rfl (lv_at hl 0 rfl) ?_
        refine lv_aload_n hx hb dL_law_19 rfl (lv_at hl 3 rfl) ?_
        refine va_slen hx hb hX hbl hbA hS dL_law_20 ?_
        refine lv_bipush (v := 6) hx hb dL_law_21 (by decide) ?_
        refine lv_isub hx hb dL_law_23 ?_
        refine lv_topi (fun x63 e64 => ?_)
        have t65 : x63.toInt = (Int32.ofNat L).toInt - 6 := by rw [e64]; exact hw_sub rfl rfl (by omega) (by omega)
        refine lv_icmp_gt (tgt := 1194) hx hb dL_law_24 (by decide) (fun c66 => ?_) (fun c66 => ?_)
        · have b67 : x63.toInt < 6 := hw_ilt c66
          refine lv_iconst (v := 1) hx hb dL_law_1194 (by decide) ?_
          have hfg := hw_hfg hG0 (by decide) hS.2.2
          refine va_forget hfg ?_
          refine W.widen (k := 600000) (n := 7302250) (by decide) (by decide) ?_
          exact lw_ret hx hb hr hlocks dL_law_1195
        · have b68 : 6 ≤ x63.toInt := hw_inlt c66
          exfalso; omega
      · have b69 : x16.toInt ≠ x48.toInt := hw_ine c61
        exfalso
        first | omega | contradiction | (subst_vars; omega)

set_option maxHeartbeats 40000000 in
set_option maxRecDepth 100000 in
theorem hw_case697 {p : Program} {e : Env} {s : State} {m : MethodId} {below : List Frame} {meth : Method} {c : Code} (l : Launch) {b L : Nat} {xs : Nat → Int32} {D : hw_D} {G : Nat → Nat} {H : Heap} {locs : List Loc} {x mo : Nat} {ls : Array Slot} (hL : L ≤ 6) (hL6 : 6 ≤ L) (hx : p.tables.exec = Jvm.exec) (hb : c.code = code) (hr : meth.sig.returnType = ret) (hml : c.maxLocals = 4) (hown : s.vm.findClass R_law = some m.cls) (hts0 : ∀ w ∈ lw_tbl, w.before #[Value.ref b] s = true) (hts : ∀ w ∈ wsL_law, w.before #[Value.ref b] s = true) (hX : va_X b L xs s s.heap) (hbl : b < s.heap.size) (hlocks : meth.locks = false) (hG0 : G = fun _ => 0) (hK : va_K D.1 vwCl (hw_ty D.2.1) s) (hST : hw_ST D.2.2 G s.heap.size s) (hF : hw_F0 D G s H x mo) (hS : va_S (hw_AW G [1, 2, 3, 4, 5, 6, 7, 8, 9, 10, 11, 12, 13, 14, 15, 16, 17, 18, 19, 20, 21, 22, 23, 24, 25, 26, 27, 28, 29, 30, 31, 32, 40, 42, 44, 45, 46, 48, 49, 50, 51, 53, 55, 58, 59, 67, 68, 69, 70, 71, 72, 73, 74, 75, 76, 77, 78, 79, 80, 81, 82, 83, 84, 101, 102, 103, 104, 105, 106, 107, 108, 109, 127, 128, 129, 132] s.heap.size) s.heap H locs) (hl : lv_has ls 4 [(3, .int 0), (2, .ref mo), (1, .ref x), (0, .ref b)]) : W p l e room_1 s m #[Value.ref b] below meth c H locs 200 8000 (lw_Z below #[Value.ref b] s) (F0 m 697 ls []) := by
  have hH0 : hw_HT D G s.heap := fun a h => absurd (by rw [hG0]) h
  have hbA : ¬ (hw_AW G [1, 2, 3, 4, 5, 6, 7, 8, 9, 10, 11, 12, 13, 14, 15, 16, 17, 18, 19, 20, 21, 22, 23, 24, 25, 26, 27, 28, 29, 30, 31, 32, 40, 42, 44, 45, 46, 48, 49, 50, 51, 53, 55, 58, 59, 67, 68, 69, 70, 71, 72, 73, 74, 75, 76, 77, 78, 79, 80, 81, 82, 83, 84, 101, 102, 103, 104, 105, 106, 107, 108, 109, 127, 128, 129, 132] s.heap.size) b := hw_AWn (k := 0) (by rw [hG0]) (by decide) hbl
  have hLi : (Int32.ofNat L).toInt = (L : Int) := nI_toInt (by omega)
  obtain ⟨G1, rx, rc, rt, rn, fq, rm, fro, fik, fla, fsz, hH, hGe1, wx, wm, gx, gm, Rx, vx, Rc, vc, Rt, vt, Rn, vn, vq, hRK, Rm, vm, vro, hro, vik, hik, vla, vsz, hfs⟩ := hF
  have hHs := hH0
  obtain ⟨la, hla⟩ : ∃ z : Nat → Int32, z = fun _ => -1 := ⟨_, rfl⟩
  obtain ⟨sz9, hsz9⟩ : ∃ z : Nat → Int32, z = fun _ => 0 := ⟨_, rfl⟩
  rw [← hla, ← hsz9] at hRK
  have qq := hRK.q
  have qsz : ∀ j, j < 4 → -1 ≤ (fsz j).toInt ∧ (fsz j).toInt ≤ 24 := fun j hj => by rw [hfs j hj]; decide
  have hro0 : (fro 0).toInt = 0 := by rw [hro]; rfl
  have hro1 : (fro 1).toInt = 0 := by rw [hro]; rfl
  have hro2 : (fro 2).toInt = 0 := by rw [hro]; rfl
  have hla1 : (la (xs 1).toNatClampNeg).toInt = -1 := by rw [hla]; rfl
  have hfs1 : 0 ≤ (xs 1).toInt ∧ (xs 1).toInt ≤ 3 → (fsz (xs 1).toNatClampNeg).toInt = -1 := fun h9 => by rw [hfs _ (hw_i4 h9)]; rfl
  have hla2 : (la (xs 2).toNatClampNeg).toInt = -1 := by rw [hla]; rfl
  have hfs2 : 0 ≤ (xs 2).toInt ∧ (xs 2).toInt ≤ 3 → (fsz (xs 2).toNatClampNeg).toInt = -1 := fun h9 => by rw [hfs _ (hw_i4 h9)]; rfl
  have hla3 : (la (xs 3).toNatClampNeg).toInt = -1 := by rw [hla]; rfl
  have hfs3 : 0 ≤ (xs 3).toInt ∧ (xs 3).toInt ≤ 3 → (fsz (xs 3).toNatClampNeg).toInt = -1 := fun h9 => by rw [hfs _ (hw_i4 h9)]; rfl
  have hik1 : (fik (xs 1).toNatClampNeg).toInt = 0 := by rw [hik]; rfl
  refine lv_aload_n hx hb dL_law_697 rfl (lv_at hl 2 rfl) ?_
  refine lv_aload_n hx hb dL_law_698 rfl (lv_at hl 3 rfl) ?_
  refine lv_iload_n hx hb dL_law_699 rfl (lv_at hl 0 rfl) ?_
  refine lv_iconst (v := 1) hx hb dL_law_700 (by decide) ?_
  refine lv_iadd hx hb dL_law_701 ?_
  refine W.eq (g2 := F0 m 702 ls [.int 1, .ref b, .ref x]) rfl ?_
  refine va_sld hx hb hX hbl hbA hS (hw_in (x := 1) (by decide) (by have h9 : (1 : Int32).toInt = 1 := rfl; omega)) dL_law_702 ?_
  refine W.eq (g2 := F0 m 703 ls [.int (xs 1), .ref x]) rfl ?_
  refine lv_aload_n hx hb dL_law_703 rfl (lv_at hl 3 rfl) ?_
  refine lv_iload_n hx hb dL_law_704 rfl (lv_at hl 0 rfl) ?_
  refine lv_iconst (v := 2) hx hb dL_law_705 (by decide) ?_
  refine lv_iadd hx hb dL_law_706 ?_
  refine W.eq (g2 := F0 m 707 ls [.int 2, .ref b, .int (xs 1), .ref x]) rfl ?_
  refine va_sld hx hb hX hbl hbA hS (hw_in (x := 2) (by decide) (by have h9 : (2 : Int32).toInt = 2 := rfl; omega)) dL_law_707 ?_
  refine W.eq (g2 := F0 m 708 ls [.int (xs 2), .int (xs 1), .ref x]) rfl ?_
  refine hw_cM0 (va_runV (As := [.int (xs 1), .int (xs 2)]) (rest := []) ⟨hx, hb, hml, hown, hts⟩ (k_X11_seen l D G1 x (xs 1) (xs 2) _ rx 0 0 0 0 rc 0 0 0 60 gx Rx ⟨by first | decide | omega, by first | decide | omega⟩ Rc ⟨by first | decide | omega, by first | decide | omega⟩ ⟨by first | decide | omega, by first | decide | omega⟩ ⟨by first | decide | omega, by first | decide | omega⟩) (cwV 2 hts gL_law_X11_seen rfl rfl rfl (by decide +kernel) ⟨Nat.le_of_ble_eq_true rfl, Nat.le_of_ble_eq_true rfl⟩) (hw_pV (hw_rc (q := (RX11, TX11, 14)) hK vx rfl) hH hK hST hS (by decide) (hw_hG hGe1) ⟨vx, vc⟩) rfl rfl hl.1 rfl (lv_room (Nat.le_of_ble_eq_true rfl)) dL_law_708 ⟨Nat.le_of_ble_eq_true rfl, Nat.le_of_ble_eq_true rfl⟩) hS (hw_AWsub (by decide) hGe1 hS.1) (fun v H locs hp hz hk hS => ?_)
  have l1 : (0 : Int32).toInt = 0 := rfl
  have l2 : (60 : Int32).toInt = 60 := rfl
  obtain ⟨x3, x4, rfl, hH, v5, v6, g7, q8⟩ := hp
  have hRK := hw_Racks.kept hRK (fun q9 h9 l9 => hk q9 l9 (hw_AWn h9 (by decide) l9))
  have vt := va_at.kept vt (hk _ (hw_lt vt) (hw_AWn (hw_RX_1 Rx) (by decide) (hw_lt vt)))
  have vn := va_at.kept vn (hk _ (hw_lt vn) (hw_AWn (hw_RX_2 Rx) (by decide) (hw_lt vn)))
  have vq := va_at.kept vq (hk _ (hw_lt vq) (hw_AWn (hw_RX_13 Rx) (by decide) (hw_lt vq)))
  have vm := va_at.kept vm (hk _ (hw_lt vm) (hw_AWn gm (by decide) (hw_lt vm)))
  have vro := va_at.kept vro (hk _ (hw_lt vro) (hw_AWn (hw_RM_0 Rm) (by decide) (hw_lt vro)))
  have vik := va_at.kept vik (hk _ (hw_lt vik) (hw_AWn (hw_RM_2 Rm) (by decide) (hw_lt vik)))
  have vla := va_at.kept vla (hk _ (hw_lt vla) (hw_AWn (hw_RM_41 Rm) (by decide) (hw_lt vla)))
  have vsz := va_at.kept vsz (hk _ (hw_lt vsz) (hw_AWn (hw_RM_42 Rm) (by decide) (hw_lt vsz)))
  refine lv_aload_n hx hb dL_law_711 rfl (lv_at hl 1 rfl) ?_
  refine lv_aload_n hx hb dL_law_712 rfl (lv_at hl 3 rfl) ?_
  refine lv_iload_n hx hb dL_law_713 rfl (lv_at hl 0 rfl) ?_
  refine lv_iconst (v := 1) hx hb dL_law_714 (by decide) ?_
  refine lv_iadd hx hb dL_law_715 ?_
  refine W.eq (g2 := F0 m 716 ls [.int 1, .ref b, .ref mo, .int x3]) rfl ?_
  refine va_sld hx hb hX hbl hbA hS (hw_in (x := 1) (by decide) (by have h9 : (1 : Int32).toInt = 1 := rfl; omega)) dL_law_716 ?_
  refine W.eq (g2 := F0 m 717 ls [.int (xs 1), .ref mo, .int x3]) rfl ?_
  refine lv_aload_n hx hb dL_law_717 rfl (lv_at hl 3 rfl) ?_
  refine lv_iload_n hx hb dL_law_718 rfl (lv_at hl 0 rfl) ?_
  refine lv_iconst (v := 2) hx hb dL_law_719 (by decide) ?_
  refine lv_iadd hx hb dL_law_720 ?_
  refine W.eq (g2 := F0 m 721 ls [.int 2, .ref b, .int (xs 1), .ref mo, .int x3]) rfl ?_
  refine va_sld hx hb hX hbl hbA hS (hw_in (x := 2) (by decide) (by have h9 : (2 : Int32).toInt = 2 := rfl; omega)) dL_law_721 ?_
  refine W.eq (g2 := F0 m 722 ls [.int (xs 2), .int (xs 1), .ref mo, .int x3]) rfl ?_
  refine hw_cM0 (va_runV (As := [.int (xs 1), .int (xs 2)]) (rest := [.int x3]) ⟨hx, hb, hml, hown, hts⟩ (k_X12_seen l D G1 mo (xs 1) (xs 2) _ rm 0 0 0 0 60 0 0 0 0 0 0 0 0 0 gm Rm ⟨by first | decide | omega, by first | decide | omega⟩ ⟨by first | decide | omega, by first | decide | omega⟩ ⟨by first | decide | omega, by first | decide | omega⟩ ⟨by first | decide | omega, by first | decide | omega⟩ ⟨by first | decide | omega, by first | decide | omega⟩ ⟨by first | decide | omega, by first | decide | omega⟩ ⟨by first | decide | omega, by first | decide | omega⟩ ⟨by first | decide | omega, by first | decide | omega⟩ ⟨by first | decide | omega, by first | decide | omega⟩ ⟨by first | decide | omega, by first | decide | omega⟩ ⟨by first | decide | omega, by first | decide | omega⟩ ⟨by first | decide | omega, by first | decide | omega⟩) (cwV 2 hts gL_law_X12_seen rfl rfl rfl (by decide +kernel) ⟨Nat.le_of_ble_eq_true rfl, Nat.le_of_ble_eq_true rfl⟩) (hw_pV (hw_rc (q := (RX12, TX12, 45)) hK vm rfl) hH hK hST hS (by decide) (hw_hG hGe1) vm) rfl rfl hl.1 rfl (lv_room (Nat.le_of_ble_eq_true rfl)) dL_law_722 ⟨Nat.le_of_ble_eq_true rfl, Nat.le_of_ble_eq_true rfl⟩) hS (hw_AWsub (by decide) hGe1 hS.1) (fun v H locs hp hz hk hS => ?_)
  obtain ⟨x9, x10, rfl, hH, v11, g12, q13⟩ := hp
  have hRK := hw_Racks.kept hRK (fun q9 h9 l9 => hk q9 l9 (hw_AWn h9 (by decide) l9))
  have v5 := va_at.kept v5 (hk _ (hw_lt v5) (hw_AWn gx (by decide) (hw_lt v5)))
  have v6 := va_at.kept v6 (hk _ (hw_lt v6) (hw_AWn (hw_RX_0 Rx) (by decide) (hw_lt v6)))
  have vt := va_at.kept vt (hk _ (hw_lt vt) (hw_AWn (hw_RX_1 Rx) (by decide) (hw_lt vt)))
  have vn := va_at.kept vn (hk _ (hw_lt vn) (hw_AWn (hw_RX_2 Rx) (by decide) (hw_lt vn)))
  have vq := va_at.kept vq (hk _ (hw_lt vq) (hw_AWn (hw_RX_13 Rx) (by decide) (hw_lt vq)))
  have vro := va_at.kept vro (hk _ (hw_lt vro) (hw_AWn (hw_RM_0 Rm) (by decide) (hw_lt vro)))
  have vik := va_at.kept vik (hk _ (hw_lt vik) (hw_AWn (hw_RM_2 Rm) (by decide) (hw_lt vik)))
  have vla := va_at.kept vla (hk _ (hw_lt vla) (hw_AWn (hw_RM_41 Rm) (by decide) (hw_lt vla)))
  have vsz := va_at.kept vsz (hk _ (hw_lt vsz) (hw_AWn (hw_RM_42 Rm) (by decide) (hw_lt vsz)))
  refine lv_icmp_eq (tgt := 1188) hx hb dL_law_725 (by decide) (fun c14 => ?_) (fun c14 => ?_)
  · have b15 : x3.toInt = x9.toInt := hw_ieq c14
    refine lv_iinc (v := 6) (lv' := [(3, .int 6), (2, .ref mo), (1, .ref x), (0, .ref b)]) hx hb dL_law_1188 hl (k := 0) rfl (by rfl) (by decide) rfl (fun ls hl => ?_)
    refine lv_goto (tgt := 18) hx hb dL_law_1191 (by decide) ?_
    refine lv_iload_n hx hb dL_law_18 rfl (lv_at hl 0 rfl) ?_
    refine lv_aload_n hx hb dL_law_19 rfl (lv_at hl 3 rfl) ?_
    refine va_slen hx hb hX hbl hbA hS dL_law_20 ?_
    refine lv_bipush (v := 6) hx hb dL_law_21 (by decide) ?_
    refine lv_isub hx hb dL_law_23 ?_
    refine lv_topi (fun x16 e17 => ?_)
    have t18 : x16.toInt = (Int32.ofNat L).toInt - 6 := by rw [e17]; exact hw_sub rfl rfl (by omega) (by omega)
    refine lv_icmp_gt (tgt := 1194) hx hb dL_law_24 (by decide) (fun c19 => ?_) (fun c19 => ?_)
    · have b20 : x16.toInt < 6 := hw_ilt c19
      refine lv_iconst (v := 1) hx hb dL_law_1194 (by decide) ?_
      have hfg := hw_hfg hG0 (by decide) hS.2.2
      refine va_forget hfg ?_
      refine W.widen (k := 600000) (n := 7302250) (by decide) (by decide) ?_
      exact lw_ret hx hb hr hlocks dL_law_1195
    · have b21 : 6 ≤ x16.toInt := hw_inlt c19
      exfalso; omega
  · have b22 : x3.toInt ≠ x9.toInt := hw_ine c14
    exfalso
    first | omega | contradiction | (subst_vars; omega)

set_option maxHeartbeats 40000000 in
set_option maxRecDepth 100000 in
theorem hw_case730 {p : Program} {e : Env} {s : State} {m : MethodId} {below : List Frame} {meth : Method} {c : Code} (l : Launch) {b L : Nat} {xs : Nat → Int32} {D : hw_D} {G : Nat → Nat} {H : Heap} {locs : List Loc} {x mo : Nat} {ls : Array Slot} (hL : L ≤ 6) (hL6 : 6 ≤ L) (hx : p.tables.exec = Jvm.exec) (hb : c.code = code) (hr : meth.sig.returnType = ret) (hml : c.maxLocals = 4) (hown : s.vm.findClass R_law = some m.cls) (hts0 : ∀ w ∈ lw_tbl, w.before #[Value.ref b] s = true) (hts : ∀ w ∈ wsL_law, w.before #[Value.ref b] s = true) (hX : va_X b L xs s s.heap) (hbl : b < s.heap.size) (hlocks : meth.locks = false) (hG0 : G = fun _ => 0) (hK : va_K D.1 vwCl (hw_ty D.2.1) s) (hST : hw_ST D.2.2 G s.heap.size s) (hF : hw_F0 D G s H x mo) (hS : va_S (hw_AW G [1, 2, 3, 4, 5, 6, 7, 8, 9, 10, 11, 12, 13, 14, 15, 16, 17, 18, 19, 20, 21, 22, 23, 24, 25, 26, 27, 28, 29, 30, 31, 32, 40, 42, 44, 45, 46, 48, 49, 50, 51, 53, 55, 58, 59, 67, 68, 69, 70, 71, 72, 73, 74, 75, 76, 77, 78, 79, 80, 81, 82, 83, 84, 101, 102, 103, 104, 105, 106, 107, 108, 109, 127, 128, 129, 132] s.heap.size) s.heap H locs) (hl : lv_has ls 4 [(3, .int 0), (2, .ref mo), (1, .ref x), (0, .ref b)]) : W p l e room_1 s m #[Value.ref b] below meth c H locs 200 8000 (lw_Z below #[Value.ref b] s) (F0 m 730 ls []) := by
  have hH0 : hw_HT D G s.heap := fun a h => absurd (by rw [hG0]) h
  have hbA : ¬ (hw_AW G [1, 2, 3, 4, 5, 6, 7, 8, 9, 10, 11, 12, 13, 14, 15, 16, 17, 18, 19, 20, 21, 22, 23, 24, 25, 26, 27, 28, 29, 30, 31, 32, 40, 42, 44, 45, 46, 48, 49, 50, 51, 53, 55, 58, 59, 67, 68, 69, 70, 71, 72, 73, 74, 75, 76, 77, 78, 79, 80, 81, 82, 83, 84, 101, 102, 103, 104, 105, 106, 107, 108, 109, 127, 128, 129, 132] s.heap.size) b := hw_AWn (k := 0) (by rw [hG0]) (by decide) hbl
  have hLi : (Int32.ofNat L).toInt = (L : Int) := nI_toInt (by omega)
  obtain ⟨G1, rx, rc, rt, rn, fq, rm, fro, fik, fla, fsz, hH, hGe1, wx, wm, gx, gm, Rx, vx, Rc, vc, Rt, vt, Rn, vn, vq, hRK, Rm, vm, vro, hro, vik, hik, vla, vsz, hfs⟩ := hF
  have hHs := hH0
  obtain ⟨la, hla⟩ : ∃ z : Nat → Int32, z = fun _ => -1 := ⟨_, rfl⟩
  obtain ⟨sz9, hsz9⟩ : ∃ z : Nat → Int32, z = fun _ => 0 := ⟨_, rfl⟩
  rw [← hla, ← hsz9] at hRK
  have qq := hRK.q
  have qsz : ∀ j, j < 4 → -1 ≤ (fsz j).toInt ∧ (fsz j).toInt ≤ 24 := fun j hj => by rw [hfs j hj]; decide
  have hro0 : (fro 0).toInt = 0 := by rw [hro]; rfl
  have hro1 : (fro 1).toInt = 0 := by rw [hro]; rfl
  have hro2 : (fro 2).toInt = 0 := by rw [hro]; rfl
  have hla1 : (la (xs 1).toNatClampNeg).toInt = -1 := by rw [hla]; rfl
  have hfs1 : 0 ≤ (xs 1).toInt ∧ (xs 1).toInt ≤ 3 → (fsz (xs 1).toNatClampNeg).toInt = -1 := fun h9 => by rw [hfs _ (hw_i4 h9)]; rfl
  have hla2 : (la (xs 2).toNatClampNeg).toInt = -1 := by rw [hla]; rfl
  have hfs2 : 0 ≤ (xs 2).toInt ∧ (xs 2).toInt ≤ 3 → (fsz (xs 2).toNatClampNeg).toInt = -1 := fun h9 => by rw [hfs _ (hw_i4 h9)]; rfl
  have hla3 : (la (xs 3).toNatClampNeg).toInt = -1 := by rw [hla]; rfl
  have hfs3 : 0 ≤ (xs 3).toInt ∧ (xs 3).toInt ≤ 3 → (fsz (xs 3).toNatClampNeg).toInt = -1 := fun h9 => by rw [hfs _ (hw_i4 h9)]; rfl
  have hik1 : (fik (xs 1).toNatClampNeg).toInt = 0 := by rw [hik]; rfl
  refine lv_aload_n hx hb dL_law_730 rfl (lv_at hl 2 rfl) ?_
  refine hw_cM0 (va_runV (As := []) (rest := []) ⟨hx, hb, hml, hown, hts⟩ (k_X11_forget l D G1 x _ rx 0 0 0 0 gx Rx ⟨by first | decide | omega, by first | decide | omega⟩) (cwV 0 hts gL_law_X11_forget rfl rfl rfl (by decide +kernel) ⟨Nat.le_of_ble_eq_true rfl, Nat.le_of_ble_eq_true rfl⟩) (hw_pV (hw_rc (q := (RX11, TX11, 14)) hK vx rfl) hH hK hST hS (by decide) (hw_hG hGe1) vx) rfl rfl hl.1 rfl (lv_room (Nat.le_of_ble_eq_true rfl)) dL_law_731 ⟨Nat.le_of_ble_eq_true rfl, Nat.le_of_ble_eq_true rfl⟩) hS (hw_AWsub (by decide) hGe1 hS.1) (fun v H locs hp hz hk hS => ?_)
  have l1 : (0 : Int32).toInt = 0 := rfl
  obtain ⟨x2, x3, rfl, hH, v4, g5, q6⟩ := hp
  have q6i := hw_ieq q6
  have hRK := hw_Racks.kept hRK (fun q9 h9 l9 => hk q9 l9 (hw_AWn h9 (by decide) l9))
  have vc := va_at.kept vc (hk _ (hw_lt vc) (hw_AWn (hw_RX_0 Rx) (by decide) (hw_lt vc)))
  have vt := va_at.kept vt (hk _ (hw_lt vt) (hw_AWn (hw_RX_1 Rx) (by decide) (hw_lt vt)))
  have vn := va_at.kept vn (hk _ (hw_lt vn) (hw_AWn (hw_RX_2 Rx) (by decide) (hw_lt vn)))
  have vq := va_at.kept vq (hk _ (hw_lt vq) (hw_AWn (hw_RX_13 Rx) (by decide) (hw_lt vq)))
  have vm := va_at.kept vm (hk _ (hw_lt vm) (hw_AWn gm (by decide) (hw_lt vm)))
  have vro := va_at.kept vro (hk _ (hw_lt vro) (hw_AWn (hw_RM_0 Rm) (by decide) (hw_lt vro)))
  have vik := va_at.kept vik (hk _ (hw_lt vik) (hw_AWn (hw_RM_2 Rm) (by decide) (hw_lt vik)))
  have vla := va_at.kept vla (hk _ (hw_lt vla) (hw_AWn (hw_RM_41 Rm) (by decide) (hw_lt vla)))
  have vsz := va_at.kept vsz (hk _ (hw_lt vsz) (hw_AWn (hw_RM_42 Rm) (by decide) (hw_lt vsz)))
  refine lv_aload_n hx hb dL_law_734 rfl (lv_at hl 1 rfl) ?_
  refine hw_cM0 (va_runV (As := []) (rest := [.int x2]) ⟨hx, hb, hml, hown, hts⟩ (k_X12_forget l D G1 mo _ rm 0 0 0 0 60 0 0 0 0 0 0 0 0 0 gm Rm ⟨by first | decide | omega, by first | decide | omega⟩ ⟨by first | decide | omega, by first | decide | omega⟩ ⟨by first | decide | omega, by first | decide | omega⟩ ⟨by first | decide | omega, by first | decide | omega⟩ ⟨by first | decide | omega, by first | decide | omega⟩ ⟨by first | decide | omega, by first | decide | omega⟩ ⟨by first | decide | omega, by first | decide | omega⟩ ⟨by first | decide | omega, by first | decide | omega⟩ ⟨by first | decide | omega, by first | decide | omega⟩ ⟨by first | decide | omega, by first | decide | omega⟩ ⟨by first | decide | omega, by first | decide | omega⟩ ⟨by first | decide | omega, by first | decide | omega⟩) (cwV 0 hts gL_law_X12_forget rfl rfl rfl (by decide +kernel) ⟨Nat.le_of_ble_eq_true rfl, Nat.le_of_ble_eq_true rfl⟩) (hw_pV (hw_rc (q := (RX12, TX12, 45)) hK vm rfl) hH hK hST hS (by decide) (hw_hG hGe1) vm) rfl rfl hl.1 rfl (lv_room (Nat.le_of_ble_eq_true rfl)) dL_law_735 ⟨Nat.le_of_ble_eq_true rfl, Nat.le_of_ble_eq_true rfl⟩) hS (hw_AWsub (by decide) hGe1 hS.1) (fun v H locs hp hz hk hS => ?_)
  have l7 : (60 : Int32).toInt = 60 := rfl
  obtain ⟨x8, x9, rfl, hH, v10, g11, q12⟩ := hp
  have q12i := hw_ieq q12
  have hRK := hw_Racks.kept hRK (fun q9 h9 l9 => hk q9 l9 (hw_AWn h9 (by decide) l9))
  have v4 := va_at.kept v4 (hk _ (hw_lt v4) (hw_AWn gx (by decide) (hw_lt v4)))
  have vc := va_at.kept vc (hk _ (hw_lt vc) (hw_AWn (hw_RX_0 Rx) (by decide) (hw_lt vc)))
  have vt := va_at.kept vt (hk _ (hw_lt vt) (hw_AWn (hw_RX_1 Rx) (by decide) (hw_lt vt)))
  have vn := va_at.kept vn (hk _ (hw_lt vn) (hw_AWn (hw_RX_2 Rx) (by decide) (hw_lt vn)))
  have vq := va_at.kept vq (hk _ (hw_lt vq) (hw_AWn (hw_RX_13 Rx) (by decide) (hw_lt vq)))
  have vro := va_at.kept vro (hk _ (hw_lt vro) (hw_AWn (hw_RM_0 Rm) (by decide) (hw_lt vro)))
  have vik := va_at.kept vik (hk _ (hw_lt vik) (hw_AWn (hw_RM_2 Rm) (by decide) (hw_lt vik)))
  have vla := va_at.kept vla (hk _ (hw_lt vla) (hw_AWn (hw_RM_41 Rm) (by decide) (hw_lt vla)))
  have vsz := va_at.kept vsz (hk _ (hw_lt vsz) (hw_AWn (hw_RM_42 Rm) (by decide) (hw_lt vsz)))
  refine lv_icmp_eq (tgt := 1188) hx hb dL_law_738 (by decide) (fun c13 => ?_) (fun c13 => ?_)
  · have b14 : x2.toInt = x8.toInt := hw_ieq c13
    refine lv_iinc (v := 6) (lv' := [(3, .int 6), (2, .ref mo), (1, .ref x), (0, .ref b)]) hx hb dL_law_1188 hl (k := 0) rfl (by rfl) (by decide) rfl (fun ls hl => ?_)
    refine lv_goto (tgt := 18) hx hb dL_law_1191 (by decide) ?_
    refine lv_iload_n hx hb dL_law_18 rfl (lv_at hl 0 rfl) ?_
    refine lv_aload_n hx hb dL_law_19 rfl (lv_at hl 3 rfl) ?_
    refine va_slen hx hb hX hbl hbA hS dL_law_20 ?_
    refine lv_bipush (v := 6) hx hb dL_law_21 (by decide) ?_
    refine lv_isub hx hb dL_law_23 ?_
    refine lv_topi (fun x15 e16 => ?_)
    have t17 : x15.toInt = (Int32.ofNat L).toInt - 6 := by rw [e16]; exact hw_sub rfl rfl (by omega) (by omega)
    refine lv_icmp_gt (tgt := 1194) hx hb dL_law_24 (by decide) (fun c18 => ?_) (fun c18 => ?_)
    · have b19 : x15.toInt < 6 := hw_ilt c18
      refine lv_iconst (v := 1) hx hb dL_law_1194 (by decide) ?_
      have hfg := hw_hfg hG0 (by decide) hS.2.2
      refine va_forget hfg ?_
      refine W.widen (k := 600000) (n := 7302250) (by decide) (by decide) ?_
      exact lw_ret hx hb hr hlocks dL_law_1195
    · have b20 : 6 ≤ x15.toInt := hw_inlt c18
      exfalso; omega
  · have b21 : x2.toInt ≠ x8.toInt := hw_ine c13
    exfalso
    first | omega | contradiction | (subst_vars; omega)

set_option maxHeartbeats 40000000 in
set_option maxRecDepth 100000 in
theorem hw_case743 {p : Program} {e : Env} {s : State} {m : MethodId} {below : List Frame} {meth : Method} {c : Code} (l : Launch) {b L : Nat} {xs : Nat → Int32} {D : hw_D} {G : Nat → Nat} {H : Heap} {locs : List Loc} {x mo : Nat} {ls : Array Slot} (hL : L ≤ 6) (hL6 : 6 ≤ L) (hx : p.tables.exec = Jvm.exec) (hb : c.code = code) (hr : meth.sig.returnType = ret) (hml : c.maxLocals = 4) (hown : s.vm.findClass R_law = some m.cls) (hts0 : ∀ w ∈ lw_tbl, w.before #[Value.ref b] s = true) (hts : ∀ w ∈ wsL_law, w.before #[Value.ref b] s = true) (hX : va_X b L xs s s.heap) (hbl : b < s.heap.size) (hlocks : meth.locks = false) (hG0 : G = fun _ => 0) (hK : va_K D.1 vwCl (hw_ty D.2.1) s) (hST : hw_ST D.2.2 G s.heap.size s) (hF : hw_F0 D G s H x mo) (hS : va_S (hw_AW G [1, 2, 3, 4, 5, 6, 7, 8, 9, 10, 11, 12, 13, 14, 15, 16, 17, 18, 19, 20, 21, 22, 23, 24, 25, 26, 27, 28, 29, 30, 31, 32, 40, 42, 44, 45, 46, 48, 49, 50, 51, 53, 55, 58, 59, 67, 68, 69, 70, 71, 72, 73, 74, 75, 76, 77, 78, 79, 80, 81, 82, 83, 84, 101, 102, 103, 104, 105, 106, 107, 108, 109, 127, 128, 129, 132] s.heap.size) s.heap H locs) (hl : lv_has ls 4 [(3, .int 0), (2, .ref mo), (1, .ref x), (0, .ref b)]) : W p l e room_1 s m #[Value.ref b] below meth c H locs 200 8000 (lw_Z below #[Value.ref b] s) (F0 m 743 ls []) := by
  have hH0 : hw_HT D G s.heap := fun a h => absurd (by rw [hG0]) h
  have hbA : ¬ (hw_AW G [1, 2, 3, 4, 5, 6, 7, 8, 9, 10, 11, 12, 13, 14, 15, 16, 17, 18, 19, 20, 21, 22, 23, 24, 25, 26, 27, 28, 29, 30, 31, 32, 40, 42, 44, 45, 46, 48, 49, 50, 51, 53, 55, 58, 59, 67, 68, 69, 70, 71, 72, 73, 74, 75, 76, 77, 78, 79, 80, 81, 82, 83, 84, 101, 102, 103, 104, 105, 106, 107, 108, 109, 127, 128, 129, 132] s.heap.size) b := hw_AWn (k := 0) (by rw [hG0]) (by decide) hbl
  have hLi : (Int32.ofNat L).toInt = (L : Int) := nI_toInt (by omega)
  obtain ⟨G1, rx, rc, rt, rn, fq, rm, fro, fik, fla, fsz, hH, hGe1, wx, wm, gx, gm, Rx, vx, Rc, vc, Rt, vt, Rn, vn, vq, hRK, Rm, vm, vro, hro, vik, hik, vla, vsz, hfs⟩ := hF
  have hHs := hH0
  obtain ⟨la, hla⟩ : ∃ z : Nat → Int32, z = fun _ => -1 := ⟨_, rfl⟩
  obtain ⟨sz9, hsz9⟩ : ∃ z : Nat → Int32, z = fun _ => 0 := ⟨_, rfl⟩
  rw [← hla, ← hsz9] at hRK
  have qq := hRK.q
  have qsz : ∀ j, j < 4 → -1 ≤ (fsz j).toInt ∧ (fsz j).toInt ≤ 24 := fun j hj => by rw [hfs j hj]; decide
  have hro0 : (fro 0).toInt = 0 := by rw [hro]; rfl
  have hro1 : (fro 1).toInt = 0 := by rw [hro]; rfl
  have hro2 : (fro 2).toInt = 0 := by rw [hro]; rfl
  have hla1 : (la (xs 1).toNatClampNeg).toInt = -1 := by rw [hla]; rfl
  have hfs1 : 0 ≤ (xs 1).toInt ∧ (xs 1).toInt ≤ 3 → (fsz (xs 1).toNatClampNeg).toInt = -1 := fun h9 => by rw [hfs _ (hw_i4 h9)]; rfl
  have hla2 : (la (xs 2).toNatClampNeg).toInt = -1 := by rw [hla]; rfl
  have hfs2 : 0 ≤ (xs 2).toInt ∧ (xs 2).toInt ≤ 3 → (fsz (xs 2).toNatClampNeg).toInt = -1 := fun h9 => by rw [hfs _ (hw_i4 h9)]; rfl
  have hla3 : (la (xs 3).toNatClampNeg).toInt = -1 := by rw [hla]; rfl
  have hfs3 : 0 ≤ (xs 3).toInt ∧ (xs 3).toInt ≤ 3 → (fsz (xs 3).toNatClampNeg).toInt = -1 := fun h9 => by rw [hfs _ (hw_i4 h9)]; rfl
  have hik1 : (fik (xs 1).toNatClampNeg).toInt = 0 := by rw [hik]; rfl
  refine lv_aload_n hx hb dL_law_743 rfl (lv_at hl 2 rfl) ?_
  refine lv_aload_n hx hb dL_law_744 rfl (lv_at hl 3 rfl) ?_
  refine lv_iload_n hx hb dL_law_745 rfl (lv_at hl 0 rfl) ?_
  refine lv_iconst (v := 1) hx hb dL_law_746 (by decide) ?_
  refine lv_iadd hx hb dL_law_747 ?_
  refine W.eq (g2 := F0 m 748 ls [.int 1, .ref b, .ref x]) rfl ?_
  refine va_sld hx hb hX hbl hbA hS (hw_in (x := 1) (by decide) (by have h9 : (1 : Int32).toInt = 1 := rfl; omega)) dL_law_748 ?_
  refine W.eq (g2 := F0 m 749 ls [.int (xs 1), .ref x]) rfl ?_
  refine hw_cR (va_runV (As := [.int (xs 1)]) (rest := []) ⟨hx, hb, hml, hown, hts⟩ (k_X11_cuts l D G1 x (xs 1) _ rx 0 0 0 0 gx Rx ⟨by first | decide | omega, by first | decide | omega⟩) (cwV 1 hts gL_law_X11_cuts rfl rfl rfl (by decide +kernel) ⟨Nat.le_of_ble_eq_true rfl, Nat.le_of_ble_eq_true rfl⟩) (hw_pV (hw_rc (q := (RX11, TX11, 14)) hK vx rfl) hH hK hST hS (by decide) (hw_hG hGe1) vx) rfl rfl hl.1 rfl (lv_room (Nat.le_of_ble_eq_true rfl)) dL_law_749 ⟨Nat.le_of_ble_eq_true rfl, Nat.le_of_ble_eq_true rfl⟩) (fun v hp => ?_)
  have l1 : (0 : Int32).toInt = 0 := rfl
  rcases hp with ⟨rfl, q2⟩ | ⟨x3, rfl, q4, q5, q6, q7⟩
  · refine lv_aload_n hx hb dL_law_752 rfl (lv_at hl 1 rfl) ?_
    refine lv_aload_n hx hb dL_law_753 rfl (lv_at hl 3 rfl) ?_
    refine lv_iload_n hx hb dL_law_754 rfl (lv_at hl 0 rfl) ?_
    refine lv_iconst (v := 1) hx hb dL_law_755 (by decide) ?_
    refine lv_iadd hx hb dL_law_756 ?_
    refine W.eq (g2 := F0 m 757 ls [.int 1, .ref b, .ref mo, .int (-3)]) rfl ?_
    refine va_sld hx hb hX hbl hbA hS (hw_in (x := 1) (by decide) (by have h9 : (1 : Int32).toInt = 1 := rfl; omega)) dL_law_757 ?_
    refine W.eq (g2 := F0 m 758 ls [.int (xs 1), .ref mo, .int (-3)]) rfl ?_
    refine hw_cR (va_runV (As := [.int (xs 1)]) (rest := [.int (-3)]) ⟨hx, hb, hml, hown, hts⟩ (k_X12_cuts l D G1 mo (xs 1) _ rm 0 0 0 0 60 0 0 0 0 0 0 0 0 0 gm Rm ⟨by first | decide | omega, by first | decide | omega⟩ ⟨by first | decide | omega, by first | decide | omega⟩ ⟨by first | decide | omega, by first | decide | omega⟩ ⟨by first | decide | omega, by first | decide | omega⟩ ⟨by first | decide | omega, by first | decide | omega⟩ ⟨by first | decide | omega, by first | decide | omega⟩ ⟨by first | decide | omega, by first | decide | omega⟩ ⟨by first | decide | omega, by first | decide | omega⟩ ⟨by first | decide | omega, by first | decide | omega⟩ ⟨by first | decide | omega, by first | decide | omega⟩ ⟨by first | decide | omega, by first | decide | omega⟩ ⟨by first | decide | omega, by first | decide | omega⟩) (cwV 1 hts gL_law_X12_cuts rfl rfl rfl (by decide +kernel) ⟨Nat.le_of_ble_eq_true rfl, Nat.le_of_ble_eq_true rfl⟩) (hw_pV (hw_rc (q := (RX12, TX12, 45)) hK vm rfl) hH hK hST hS (by decide) (hw_hG hGe1) vm) rfl rfl hl.1 rfl (lv_room (Nat.le_of_ble_eq_true rfl)) dL_law_758 ⟨Nat.le_of_ble_eq_true rfl, Nat.le_of_ble_eq_true rfl⟩) (fun v hp => ?_)
    have l8 : (60 : Int32).toInt = 60 := rfl
    rcases hp with ⟨rfl, q9⟩ | ⟨x10, rfl, q11, q12, q13, q14⟩
    · refine lv_icmp_eq (tgt := 1188) hx hb dL_law_761 (by decide) (fun c15 => ?_) (fun c15 => ?_)
      · refine lv_iinc (v := 6) (lv' := [(3, .int 6), (2, .ref mo), (1, .ref x), (0, .ref b)]) hx hb dL_law_1188 hl (k := 0) rfl (by rfl) (by decide) rfl (fun ls hl => ?_)
        refine lv_goto (tgt := 18) hx hb dL_law_1191 (by decide) ?_
        refine lv_iload_n hx hb dL_law_18 rfl (lv_at hl 0 rfl) ?_
        refine lv_aload_n hx hb dL_law_19 rfl (lv_at hl 3 rfl) ?_
        refine va_slen hx hb hX hbl hbA hS dL_law_20 ?_
        refine lv_bipush (v := 6) hx hb dL_law_21 (by decide) ?_
        refine lv_isub hx hb dL_law_23 ?_
        refine lv_topi (fun x16 e17 => ?_)
        have t18 : x16.toInt = (Int32.ofNat L).toInt - 6 := by rw [e17]; exact hw_sub rfl rfl (by omega) (by omega)
        refine lv_icmp_gt (tgt := 1194) hx hb dL_law_24 (by decide) (fun c19 => ?_) (fun c19 => ?_)
        · have b20 : x16.toInt < 6 := hw_ilt c19
          refine lv_iconst (v := 1) hx hb dL_law_1194 (by decide) ?_
          have hfg := hw_hfg hG0 (by decide) hS.2.2
          refine va_forget hfg ?_
          refine W.widen (k := 600000) (n := 7302250) (by decide) (by decide) ?_
          exact lw_ret hx hb hr hlocks dL_law_1195
        · have b21 : 6 ≤ x16.toInt := hw_inlt c19
          exfalso; omega
      · exact absurd c15 (by decide)
    · refine lv_icmp_eq (tgt := 1188) hx hb dL_law_761 (by decide) (fun c22 => ?_) (fun c22 => ?_)
      · have b23 : (-3) = x10.toInt := hw_ieq c22
        refine lv_iinc (v := 6) (lv' := [(3, .int 6), (2, .ref mo), (1, .ref x), (0, .ref b)]) hx hb dL_law_1188 hl (k := 0) rfl (by rfl) (by decide) rfl (fun ls hl => ?_)
        refine lv_goto (tgt := 18) hx hb dL_law_1191 (by decide) ?_
        refine lv_iload_n hx hb dL_law_18 rfl (lv_at hl 0 rfl) ?_
        refine lv_aload_n hx hb dL_law_19 rfl (lv_at hl 3 rfl) ?_
        refine va_slen hx hb hX hbl hbA hS dL_law_20 ?_
        refine lv_bipush (v := 6) hx hb dL_law_21 (by decide) ?_
        refine lv_isub hx hb dL_law_23 ?_
        refine lv_topi (fun x24 e25 => ?_)
        have t26 : x24.toInt = (Int32.ofNat L).toInt - 6 := by rw [e25]; exact hw_sub rfl rfl (by omega) (by omega)
        refine lv_icmp_gt (tgt := 1194) hx hb dL_law_24 (by decide) (fun c27 => ?_) (fun c27 => ?_)
        · have b28 : x24.toInt < 6 := hw_ilt c27
          refine lv_iconst (v := 1) hx hb dL_law_1194 (by decide) ?_
          have hfg := hw_hfg hG0 (by decide) hS.2.2
          refine va_forget hfg ?_
          refine W.widen (k := 600000) (n := 7302250) (by decide) (by decide) ?_
          exact lw_ret hx hb hr hlocks dL_law_1195
        · have b29 : 6 ≤ x24.toInt := hw_inlt c27
          exfalso; omega
      · have b30 : (-3) ≠ x10.toInt := hw_ine c22
        exfalso
        first | omega | contradiction | (subst_vars; omega)
  · refine lv_aload_n hx hb dL_law_752 rfl (lv_at hl 1 rfl) ?_
    refine lv_aload_n hx hb dL_law_753 rfl (lv_at hl 3 rfl) ?_
    refine lv_iload_n hx hb dL_law_754 rfl (lv_at hl 0 rfl) ?_
    refine lv_iconst (v := 1) hx hb dL_law_755 (by decide) ?_
    refine lv_iadd hx hb dL_law_756 ?_
    refine W.eq (g2 := F0 m 757 ls [.int 1, .ref b, .ref mo, .int x3]) rfl ?_
    refine va_sld hx hb hX hbl hbA hS (hw_in (x := 1) (by decide) (by have h9 : (1 : Int32).toInt = 1 := rfl; omega)) dL_law_757 ?_
    refine W.eq (g2 := F0 m 758 ls [.int (xs 1), .ref mo, .int x3]) rfl ?_
    refine hw_cR (va_runV (As := [.int (xs 1)]) (rest := [.int x3]) ⟨hx, hb, hml, hown, hts⟩ (k_X12_cuts l D G1 mo (xs 1) _ rm 0 0 0 0 60 0 0 0 0 0 0 0 0 0 gm Rm ⟨by first | decide | omega, by first | decide | omega⟩ ⟨by first | decide | omega, by first | decide | omega⟩ ⟨by first | decide | omega, by first | decide | omega⟩ ⟨by first | decide | omega, by first | decide | omega⟩ ⟨by first | decide | omega, by first | decide | omega⟩ ⟨by first | decide | omega, by first | decide | omega⟩ ⟨by first | decide | omega, by first | decide | omega⟩ ⟨by first | decide | omega, by first | decide | omega⟩ ⟨by first | decide | omega, by first | decide | omega⟩ ⟨by first | decide | omega, by first | decide | omega⟩ ⟨by first | decide | omega, by first | decide | omega⟩ ⟨by first | decide | omega, by first | decide | omega⟩) (cwV 1 hts gL_law_X12_cuts rfl rfl rfl (by decide +kernel) ⟨Nat.le_of_ble_eq_true rfl, Nat.le_of_ble_eq_true rfl⟩) (hw_pV (hw_rc (q := (RX12, TX12, 45)) hK vm rfl) hH hK hST hS (by decide) (hw_hG hGe1) vm) rfl rfl hl.1 rfl (lv_room (Nat.le_of_ble_eq_true rfl)) dL_law_758 ⟨Nat.le_of_ble_eq_true rfl, Nat.le_of_ble_eq_true rfl⟩) (fun v hp => ?_)
    have l31 : (60 : Int32).toInt = 60 := rfl
    rcases hp with ⟨rfl, q32⟩ | ⟨x33, rfl, q34, q35, q36, q37⟩
    · refine lv_icmp_eq (tgt := 1188) hx hb dL_law_761 (by decide) (fun c38 => ?_) (fun c38 => ?_)
      · have b39 : x3.toInt = (-3) := hw_ieq c38
        refine lv_iinc (v := 6) (lv' := [(3, .int 6), (2, .ref mo), (1, .ref x), (0, .ref b)]) hx hb dL_law_1188 hl (k := 0) rfl (by rfl) (by decide) rfl (fun ls hl => ?_)
        refine lv_goto (tgt := 18) hx hb dL_law_1191 (by decide) ?_
        refine lv_iload_n hx hb dL_law_18 rfl (lv_at hl 0 rfl) ?_
        refine lv_aload_n hx hb dL_law_19 rfl (lv_at hl 3 rfl) ?_
        refine va_slen hx hb hX hbl hbA hS dL_law_20 ?_
        refine lv_bipush (v := 6) hx hb dL_law_21 (by decide) ?_
        refine lv_isub hx hb dL_law_23 ?_
        refine lv_topi (fun x40 e41 => ?_)
        have t42 : x40.toInt = (Int32.ofNat L).toInt - 6 := by rw [e41]; exact hw_sub rfl rfl (by omega) (by omega)
        refine lv_icmp_gt (tgt := 1194) hx hb dL_law_24 (by decide) (fun c43 => ?_) (fun c43 => ?_)
        · have b44 : x40.toInt < 6 := hw_ilt c43
          refine lv_iconst (v := 1) hx hb dL_law_1194 (by decide) ?_
          have hfg := hw_hfg hG0 (by decide) hS.2.2
          refine va_forget hfg ?_
          refine W.widen (k := 600000) (n := 7302250) (by decide) (by decide) ?_
          exact lw_ret hx hb hr hlocks dL_law_1195
        · have b45 : 6 ≤ x40.toInt := hw_inlt c43
          exfalso; omega
      · have b46 : x3.toInt ≠ (-3) := hw_ine c38
        exfalso
        first | omega | contradiction | (subst_vars; omega)
    · refine lv_icmp_eq (tgt := 1188) hx hb dL_law_761 (by decide) (fun c47 => ?_) (fun c47 => ?_)
      · have b48 : x3.toInt = x33.toInt := hw_ieq c47
        refine lv_iinc (v := 6) (lv' := [(3, .int 6), (2, .ref mo), (1, .ref x), (0, .ref b)]) hx hb dL_law_1188 hl (k := 0) rfl (by rfl) (by decide) rfl (fun ls hl => ?_)
        refine lv_goto (tgt := 18) hx hb dL_law_1191 (by decide) ?_
        refine lv_iload_n hx hb dL_law_18 rfl (lv_at hl 0 rfl) ?_
        refine lv_aload_n hx hb dL_law_19 rfl (lv_at hl 3 rfl) ?_
        refine va_slen hx hb hX hbl hbA hS dL_law_20 ?_
        refine lv_bipush (v := 6) hx hb dL_law_21 (by decide) ?_
        refine lv_isub hx hb dL_law_23 ?_
        refine lv_topi (fun x49 e50 => ?_)
        have t51 : x49.toInt = (Int32.ofNat L).toInt - 6 := by rw [e50]; exact hw_sub rfl rfl (by omega) (by omega)
        refine lv_icmp_gt (tgt := 1194) hx hb dL_law_24 (by decide) (fun c52 => ?_) (fun c52 => ?_)
        · have b53 : x49.toInt < 6 := hw_ilt c52
          refine lv_iconst (v := 1) hx hb dL_law_1194 (by decide) ?_
          have hfg := hw_hfg hG0 (by decide) hS.2.2
          refine va_forget hfg ?_
          refine W.widen (k := 600000) (n := 7302250) (by decide) (by decide) ?_
          exact lw_ret hx hb hr hlocks dL_law_1195
        · have b54 : 6 ≤ x49.toInt := hw_inlt c52
          exfalso; omega
      · have b55 : x3.toInt ≠ x33.toInt := hw_ine c47
        exfalso
        first | omega | contradiction | (subst_vars; omega)

