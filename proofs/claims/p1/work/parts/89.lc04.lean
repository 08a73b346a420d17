set_option maxHeartbeats 40000000 in
set_option maxRecDepth 100000 in
theorem hw_case1122 {p : Program} {e : Env} {s : State} {m : MethodId} {below : List Frame} {meth : Method} {c : Code} (l : Launch) {b L : Nat} {xs : Nat → Int32} {D : hw_D} {G : Nat → Nat} {H : Heap} {locs : List Loc} {x mo : Nat} {ls : Array Slot} (hL : L ≤ 6) (hL6 : 6 ≤ L) (hx : p.tables.exec = Jvm.exec) (hb : c.code = code) (hr : meth.sig.returnType = ret) (hml : c.maxLocals = 4) (hown : s.vm.findClass R_law = some m.cls) (hts0 : ∀ w ∈ lw_tbl, w.before #[Value.ref b] s = true) (hts : ∀ w ∈ wsL_law, w.before #[Value.ref b] s = true) (hX : va_X b L xs s s.heap) (hbl : b < s.heap.size) (hlocks : meth.locks = false) (hG0 : G = fun _ => 0) (hK : va_K D.1 vwCl (hw_ty D.2.1) s) (hST : hw_ST D.2.2 G s.heap.size s) (hF : hw_F0 D G s H x mo) (hS : va_S (hw_AW G [1, 2, 3, 4, 5, 6, 7, 8, 9, 10, 11, 12, 13, 14, 15, 16, 17, 18, 19, 20, 21, 22, 23, 24, 25, 26, 27, 28, 29, 30, 31, 32, 40, 42, 44, 45, 46, 48, 49, 50, 51, 53, 55, 58, 59, 67, 68, 69, 70, 71, 72, 73, 74, 75, 76, 77, 78, 79, 80, 81, 82, 83, 84, 101, 102, 103, 104, 105, 106, 107, 108, 109, 127, 128, 129, 132] s.heap.size) s.heap H locs) (hl : lv_has ls 4 [(3, .int 0), (2, .ref mo), (1, .ref x), (0, .ref b)]) : W p l e room_1 s m #[Value.ref b] below meth c H locs 200 8000 (lw_Z below #[Value.ref b] s) (F0 m 1122 ls []) := by
  have hH0 : hw_HT D G s.heap := fun a h => absurd (by rw [hG0]) h
  have hbA : ¬ (hw_AW G [1, 2, 3, 4, 5, 6, 7, 8, 9, 10, 11, 12, 13, 14, 15, 16, 17, 18, 19, 20, 21, 22, 23, 24, 25, 26, 27, 28, 29, 30, 31, 32, 40, 42, 44, 45, 46, 48, 49, 50, 51, 53, 55, 58, 59, 67, 68, 69, 70, 71, 72, 73, 74, 75, 76, 77, 78, 79, 80, 81, 82, 83, 84, 101, 102, 103, 104, 105, 106, 107, 108, 109, 127, 128, 129, 132] s.heap.size) b := hw_AWn (k := 0) (by rw [hG0]) (by decide) hbl
  have hLi : (Int32.ofNat L).toInt = (L : Int) := nI_toInt (by omega)
  obtain ⟨G1, rx, rc, rt, rn, fq, rm, fro, fik, fla, fsz, hH, hGe1, wx, wm, gx, gm, Rx, vx, Rc, vc, Rt, vt, Rn, vn, vq, hRK, Rm, vm, vro, hro, vik, hik, vla, vsz, hfs⟩ := hF
  have hHs := hH0
  obtain ⟨la, hla⟩ : ∃ z : Nat → Int32, z = fun _ => -1 := ⟨_, rfl⟩
  obtain ⟨sz9, hsz9⟩ : ∃ z : Nat → Int32, z = fun _ => 0 := ⟨_, rfl⟩
  rw [← hla, ← hsz9] at hRK
  have qq := hRK.q
  have qsz : ∀ j, j < 4 → -1 ≤ (fsz j).toInt ∧ (fsz j).toInt ≤ 24 := fun j hj => by rw [hfs j hj]; decide
  have hro0 : (fro 0).toInt = 0 := by rw [hro]; rfl
  have hro1 : (fro 1).toInt = 0 := by rw [hro]; rfl
  have hro2 : (fro 2).toInt = 0 := by rw [hro]; rfl
  have hla1 : (la (xs 1).toNatClampNeg).toInt = -1 := by rw [hla]; rfl
  have hfs1 : 0 ≤ (xs 1).toInt ∧ (xs 1).toInt ≤ 3 → (fsz (xs 1).toNatClampNeg).toInt = -1 := fun h9 => by rw [hfs _ (hw_i4 h9)]; rfl
  have hla2 : (la (xs 2).toNatClampNeg).toInt = -1 := by rw [hla]; rfl
  have hfs2 : 0 ≤ (xs 2).toInt ∧ (xs 2).toInt ≤ 3 → (fsz (xs 2).toNatClampNeg).toInt = -1 := fun h9 => by rw [hfs _ (hw_i4 h9)]; rfl
  have hla3 : (la (xs 3).toNatClampNeg).toInt = -1 := by rw [hla]; rfl
  have hfs3 : 0 ≤ (xs 3).toInt ∧ (xs 3).toInt ≤ 3 → (fsz (xs 3).toNatClampNeg).toInt = -1 := fun h9 => by rw [hfs _ (hw_i4 h9)]; rfl
  have hik1 : (fik (xs 1).toNatClampNeg).toInt = 0 := by rw [hik]; rfl
  refine lv_aload_n hx hb dL_law_1122 rfl (lv_at hl 2 rfl) ?_
  refine lv_aload_n hx hb dL_law_1123 rfl (lv_at hl 3 rfl) ?_
  refine lv_iload_n hx hb dL_law_1124 rfl (lv_at hl 0 rfl) ?_
  refine lv_iconst (v := 1) hx hb dL_law_1125 (by decide) ?_
  refine lv_iadd hx hb dL_law_1126 ?_
  refine W.eq (g2 := F0 m 1127 ls [.int 1, .ref b, .ref x]) rfl ?_
  refine va_sld hx hb hX hbl hbA hS (hw_in (x := 1) (by decide) (by have h9 : (1 : Int32).toInt = 1 := rfl; omega)) dL_law_1127 ?_
  refine W.eq (g2 := F0 m 1128 ls [.int (xs 1), .ref x]) rfl ?_
  refine lv_aload_n hx hb dL_law_1128 rfl (lv_at hl 3 rfl) ?_
  refine lv_iload_n hx hb dL_law_1129 rfl (lv_at hl 0 rfl) ?_
  refine lv_iconst (v := 2) hx hb dL_law_1130 (by decide) ?_
  refine lv_iadd hx hb dL_law_1131 ?_
  refine W.eq (g2 := F0 m 1132 ls [.int 2, .ref b, .int (xs 1), .ref x]) rfl ?_
  refine va_sld hx hb hX hbl hbA hS (hw_in (x := 2) (by decide) (by have h9 : (2 : Int32).toInt = 2 := rfl; omega)) dL_law_1132 ?_
  refine W.eq (g2 := F0 m 1133 ls [.int (xs 2), .int (xs 1), .ref x]) rfl ?_
  refine lv_aload_n hx hb dL_law_1133 rfl (lv_at hl 3 rfl) ?_
  refine lv_iload_n hx hb dL_law_1134 rfl (lv_at hl 0 rfl) ?_
  refine lv_iconst (v := 3) hx hb dL_law_1135 (by decide) ?_
  refine lv_iadd hx hb dL_law_1136 ?_
  refine W.eq (g2 := F0 m 1137 ls [.int 3, .ref b, .int (xs 2), .int (xs 1), .ref x]) rfl ?_
  refine va_sld hx hb hX hbl hbA hS (hw_in (x := 3) (by decide) (by have h9 : (3 : Int32).toInt = 3 := rfl; omega)) dL_law_1137 ?_
  refine W.eq (g2 := F0 m 1138 ls [.int (xs 3), .int (xs 2), .int (xs 1), .ref x]) rfl ?_
  refine hw_cM0 (va_runV (As := [.int (xs 1), .int (xs 2), .int (xs 3)]) (rest := []) ⟨hx, hb, hml, hown, hts⟩ (k_X11_film l D G1 x (xs 1) (xs 2) (xs 3) _ la sz9 rx 0 0 0 0 fq rc 0 0 0 60 gx Rx ⟨by first | decide | omega, by first | decide | omega⟩ qq Rc ⟨by first | decide | omega, by first | decide | omega⟩ ⟨by first | decide | omega, by first | decide | omega⟩ ⟨by first | decide | omega, by first | decide | omega⟩) (cwV 3 hts gL_law_X11_film rfl rfl rfl (by decide +kernel) ⟨Nat.le_of_ble_eq_true rfl, Nat.le_of_ble_eq_true rfl⟩) (hw_pV (hw_rc (q := (RX11, TX11, 14)) hK vx rfl) hH hK hST hS (by decide) (hw_hG hGe1) ⟨vx, vq, vc, hRK⟩) rfl rfl hl.1 rfl (lv_room (Nat.le_of_ble_eq_true rfl)) dL_law_1138 ⟨Nat.le_of_ble_eq_true rfl, Nat.le_of_ble_eq_true rfl⟩) hS (hw_AWsub (by decide) hGe1 hS.1) (fun v H locs hp hz hk hS => ?_)
  have l1 : (0 : Int32).toInt = 0 := rfl
  have l2 : (60 : Int32).toInt = 60 := rfl
  obtain ⟨x3, rfl, hH, hRK, v4, v5, v6, q7⟩ := hp
  have vt := va_at.kept vt (hk _ (hw_lt vt) (hw_AWn (hw_RX_1 Rx) (by decide) (hw_lt vt)))
  have vn := va_at.kept vn (hk _ (hw_lt vn) (hw_AWn (hw_RX_2 Rx) (by decide) (hw_lt vn)))
  have vm := va_at.kept vm (hk _ (hw_lt vm) (hw_AWn gm (by decide) (hw_lt vm)))
  have vro := va_at.kept vro (hk _ (hw_lt vro) (hw_AWn (hw_RM_0 Rm) (by decide) (hw_lt vro)))
  have vik := va_at.kept vik (hk _ (hw_lt vik) (hw_AWn (hw_RM_2 Rm) (by decide) (hw_lt vik)))
  have vla := va_at.kept vla (hk _ (hw_lt vla) (hw_AWn (hw_RM_41 Rm) (by decide) (hw_lt vla)))
  have vsz := va_at.kept vsz (hk _ (hw_lt vsz) (hw_AWn (hw_RM_42 Rm) (by decide) (hw_lt vsz)))
  refine lv_aload_n hx hb dL_law_1141 rfl (lv_at hl 1 rfl) ?_
  refine lv_aload_n hx hb dL_law_1142 rfl (lv_at hl 3 rfl) ?_
  refine lv_iload_n hx hb dL_law_1143 rfl (lv_at hl 0 rfl) ?_
  refine lv_iconst (v := 1) hx hb dL_law_1144 (by decide) ?_
  refine lv_iadd hx hb dL_law_1145 ?_
  refine W.eq (g2 := F0 m 1146 ls [.int 1, .ref b, .ref mo, .int x3]) rfl ?_
  refine va_sld hx hb hX hbl hbA hS (hw_in (x := 1) (by decide) (by have h9 : (1 : Int32).toInt = 1 := rfl; omega)) dL_law_1146 ?_
  refine W.eq (g2 := F0 m 1147 ls [.int (xs 1), .ref mo, .int x3]) rfl ?_
  refine lv_aload_n hx hb dL_law_1147 rfl (lv_at hl 3 rfl) ?_
  refine lv_iload_n hx hb dL_law_1148 rfl (lv_at hl 0 rfl) ?_
  refine lv_iconst (v := 2) hx hb dL_law_1149 (by decide) ?_
  refine lv_iadd hx hb dL_law_1150 ?_
  refine W.eq (g2 := F0 m 1151 ls [.int 2, .ref b, .int (xs 1), .ref mo, .int x3]) rfl ?_
  refine va_sld hx hb hX hbl hbA hS (hw_in (x := 2) (by decide) (by have h9 : (2 : Int32).toInt = 2 := rfl; omega)) dL_law_1151 ?_
  refine W.eq (g2 := F0 m 1152 ls [.int (xs 2), .int (xs 1), .ref mo, .int x3]) rfl ?_
  refine lv_aload_n hx hb dL_law_1152 rfl (lv_at hl 3 rfl) ?_
  refine lv_iload_n hx hb dL_law_1153 rfl (lv_at hl 0 rfl) ?_
  refine lv_iconst (v := 3) hx hb dL_law_1154 (by decide) ?_
  refine lv_iadd hx hb dL_law_1155 ?_
  refine W.eq (g2 := F0 m 1156 ls [.int 3, .ref b, .int (xs 2), .int (xs 1), .ref mo, .int x3]) rfl ?_
  refine va_sld hx hb hX hbl hbA hS (hw_in (x := 3) (by decide) (by have h9 : (3 : Int32).toInt = 3 := rfl; omega)) dL_law_1156 ?_
  refine W.eq (g2 := F0 m 1157 ls [.int (xs 3), .int (xs 2), .int (xs 1), .ref mo, .int x3]) rfl ?_
  refine hw_cM0 (va_runV (As := [.int (xs 1), .int (xs 2), .int (xs 3)]) (rest := [.int x3]) ⟨hx, hb, hml, hown, hts⟩ (k_X12_film l D G1 mo (xs 1) (xs 2) (xs 3) _ rm 0 0 0 0 60 0 0 0 0 0 0 0 0 0 fla fsz gm Rm ⟨by first | decide | omega, by first | decide | omega⟩ ⟨by first | decide | omega, by first | decide | omega⟩ ⟨by first | decide | omega, by first | decide | omega⟩ ⟨by first | decide | omega, by first | decide | omega⟩ ⟨by first | decide | omega, by first | decide | omega⟩ ⟨by first | decide | omega, by first | decide | omega⟩ ⟨by first | decide | omega, by first | decide | omega⟩ ⟨by first | decide | omega, by first | decide | omega⟩ ⟨by first | decide | omega, by first | decide | omega⟩ ⟨by first | decide | omega, by first | decide | omega⟩ ⟨by first | decide | omega, by first | decide | omega⟩ ⟨by first | decide | omega, by first | decide | omega⟩ qsz) (cwV 3 hts gL_law_X12_film rfl rfl rfl (by decide +kernel) ⟨Nat.le_of_ble_eq_true rfl, Nat.le_of_ble_eq_true rfl⟩) (hw_pV (hw_rc (q := (RX12, TX12, 45)) hK vm rfl) hH hK hST hS (by decide) (hw_hG hGe1) ⟨vm, vla, vsz⟩) rfl rfl hl.1 rfl (lv_room (Nat.le_of_ble_eq_true rfl)) dL_law_1157 ⟨Nat.le_of_ble_eq_true rfl, Nat.le_of_ble_eq_true rfl⟩) hS (hw_AWsub (by decide) hGe1 hS.1) (fun v H locs hp hz hk hS => ?_)
  obtain ⟨x8, rfl, hH, v9, v10, v11, q12⟩ := hp
  have hRK := hw_Racks.kept hRK (fun q9 h9 l9 => hk q9 l9 (hw_AWn h9 (by decide) l9))
  have v4 := va_at.kept v4 (hk _ (hw_lt v4) (hw_AWn gx (by decide) (hw_lt v4)))
  have v6 := va_at.kept v6 (hk _ (hw_lt v6) (hw_AWn (hw_RX_0 Rx) (by decide) (hw_lt v6)))
  have vt := va_at.kept vt (hk _ (hw_lt vt) (hw_AWn (hw_RX_1 Rx) (by decide) (hw_lt vt)))
  have vn := va_at.kept vn (hk _ (hw_lt vn) (hw_AWn (hw_RX_2 Rx) (by decide) (hw_lt vn)))
  have v5 := va_at.kept v5 (hk _ (hw_lt v5) (hw_AWn (hw_RX_13 Rx) (by decide) (hw_lt v5)))
  have vro := va_at.kept vro (hk _ (hw_lt vro) (hw_AWn (hw_RM_0 Rm) (by decide) (hw_lt vro)))
  have vik := va_at.kept vik (hk _ (hw_lt vik) (hw_AWn (hw_RM_2 Rm) (by decide) (hw_lt vik)))
  refine lv_icmp_eq (tgt := 1188) hx hb dL_law_1160 (by decide) (fun c13 => ?_) (fun c13 => ?_)
  · have b14 : x3.toInt = x8.toInt := hw_ieq c13
    refine lv_iinc (v := 6) (lv' := [(3, .int 6), (2, .ref mo), (1, .ref x), (0, .ref b)]) hx hb dL_law_1188 hl (k := 0) rfl (by rfl) (by decide) rfl (fun ls hl => ?_)
    refine lv_goto (tgt := 18) hx hb dL_law_1191 (by decide) ?_
    refine lv_iload_n hx hb dL_law_18 rfl (lv_at hl 0 rfl) ?_
    refine lv_aload_n hx hb dL_law_19 rfl (lv_at hl 3 rfl) ?_
    refine va_slen hx hb hX hbl hbA hS dL_law_20 ?_
    refine lv_bipush (v := 6) hx hb dL_law_21 (by decide) ?_
    refine lv_isub hx hb dL_law_23 ?_
    refine lv_topi (fun x15 e16 => ?_)
    have t17 : x15.toInt = (Int32.ofNat L).toInt - 6 := by rw [e16]; exact hw_sub rfl rfl (by omega) (by omega)
    refine lv_icmp_gt (tgt := 1194) hx hb dL_law_24 (by decide) (fun c18 => ?_) (fun c18 => ?_)
    · have b19 : x15.toInt < 6 := hw_ilt c18
      refine lv_iconst (v := 1) hx hb dL_law_1194 (by decide) ?_
      have hfg := hw_hfg hG0 (by decide) hS.2.2
      refine va_forget hfg ?_
      refine W.widen (k := 600000) (n := 7302250) (by decide) (by decide) ?_
      exact lw_ret hx hb hr hlocks dL_law_1195
    · have b20 : 6 ≤ x15.toInt := hw_inlt c18
      exfalso; omega
  · have b21 : x3.toInt ≠ x8.toInt := hw_ine c13
    exfalso
    first | omega | contradiction | (subst_vars; omega)

set_option maxHeartbeats 40000000 in
set_option maxRecDepth 100000 in
theorem hw_case1165 {p : Program} {e : Env} {s : State} {m : MethodId} {below : List Frame} {meth : Method} {c : Code} (l : Launch) {b L : Nat} {xs : Nat → Int32} {D : hw_D} {G : Nat → Nat} {H : Heap} {locs : List Loc} {x mo : Nat} {ls : Array Slot} (hL : L ≤ 6) (hL6 : 6 ≤ L) (hx : p.tables.exec = Jvm.exec) (hb : c.code = code) (hr : meth.sig.returnType = ret) (hml : c.maxLocals = 4) (hown : s.vm.findClass R_law = some m.cls) (hts0 : ∀ w ∈ lw_tbl, w.before #[Value.ref b] s = true) (hts : ∀ w ∈ wsL_law, w.before #[Value.ref b] s = true) (hX : va_X b L xs s s.heap) (hbl : b < s.heap.size) (hlocks : meth.locks = false) (hG0 : G = fun _ => 0) (hK : va_K D.1 vwCl (hw_ty D.2.1) s) (hST : hw_ST D.2.2 G s.heap.size s) (hF : hw_F0 D G s H x mo) (hS : va_S (hw_AW G [1, 2, 3, 4, 5, 6, 7, 8, 9, 10, 11, 12, 13, 14, 15, 16, 17, 18, 19, 20, 21, 22, 23, 24, 25, 26, 27, 28, 29, 30, 31, 32, 40, 42, 44, 45, 46, 48, 49, 50, 51, 53, 55, 58, 59, 67, 68, 69, 70, 71, 72, 73, 74, 75, 76, 77, 78, 79, 80, 81, 82, 83, 84, 101, 102, 103, 104, 105, 106, 107, 108, 109, 127, 128, 129, 132] s.heap.size) s.heap H locs) (hl : lv_has ls 4 [(3, .int 0), (2, .ref mo), (1, .ref x), (0, .ref b)]) : W p l e room_1 s m #[Value.ref b] below meth c H locs 200 8000 (lw_Z below #[Value.ref b] s) (F0 m 1165 ls []) := by
  have hH0 : hw_HT D G s.heap := fun a h => absurd (by rw [hG0]) h
  have hbA : ¬ (hw_AW G [1, 2, 3, 4, 5, 6, 7, 8, 9, 10, 11, 12, 13, 14, 15, 16, 17, 18, 19, 20, 21, 22, 23, 24, 25, 26, 27, 28, 29, 30, 31, 32, 40, 42, 44, 45, 46, 48, 49, 50, 51, 53, 55, 58, 59, 67, 68, 69, 70, 71, 72, 73, 74, 75, 76, 77, 78, 79, 80, 81, 82, 83, 84, 101, 102, 103, 104, 105, 106, 107, 108, 109, 127, 128, 129, 132] s.heap.size) b := hw_AWn (k := 0) (by rw [hG0]) (by decide) hbl
  have hLi : (Int32.ofNat L).toInt = (L : Int) := nI_toInt (by omega)
  obtain ⟨G1, rx, rc, rt, rn, fq, rm, fro, fik, fla, fsz, hH, hGe1, wx, wm, gx, gm, Rx, vx, Rc, vc, Rt, vt, Rn, vn, vq, hRK, Rm, vm, vro, hro, vik, hik, vla, vsz, hfs⟩ := hF
  have hHs := hH0
  obtain ⟨la, hla⟩ : ∃ z : Nat → Int32, z = fun _ => -1 := ⟨_, rfl⟩
  obtain ⟨sz9, hsz9⟩ : ∃ z : Nat → Int32, z = fun _ => 0 := ⟨_, rfl⟩
  rw [← hla, ← hsz9] at hRK
  have qq := hRK.q
  have qsz : ∀ j, j < 4 → -1 ≤ (fsz j).toInt ∧ (fsz j).toInt ≤ 24 := fun j hj => by rw [hfs j hj]; decide
  have hro0 : (fro 0).toInt = 0 := by rw [hro]; rfl
  have hro1 : (fro 1).toInt = 0 := by rw [hro]; rfl
  have hro2 : (fro 2).toInt = 0 := by rw [hro]; rfl
  have hla1 : (la (xs 1).toNatClampNeg).toInt = -1 := by rw [hla]; rfl
  have hfs1 : 0 ≤ (xs 1).toInt ∧ (xs 1).toInt ≤ 3 → (fsz (xs 1).toNatClampNeg).toInt = -1 := fun h9 => by rw [hfs _ (hw_i4 h9)]; rfl
  have hla2 : (la (xs 2).toNatClampNeg).toInt = -1 := by rw [hla]; rfl
  have hfs2 : 0 ≤ (xs 2).toInt ∧ (xs 2).toInt ≤ 3 → (fsz (xs 2).toNatClampNeg).toInt = -1 := fun h9 => by rw [hfs _ (hw_i4 h9)]; rfl
  have hla3 : (la (xs 3).toNatClampNeg).toInt = -1 := by rw [hla]; rfl
  have hfs3 : 0 ≤ (xs 3).toInt ∧ (xs 3).toInt ≤ 3 → (fsz (xs 3).toNatClampNeg).toInt = -1 := fun h9 => by rw [hfs _ (hw_i4 h9)]; rfl
  have hik1 : (fik (xs 1).toNatClampNeg).toInt = 0 := by rw [hik]; rfl
  refine lv_aload_n hx hb dL_law_1165 rfl (lv_at hl 2 rfl) ?_
  refine lv_aload_n hx hb dL_law_1166 rfl (lv_at hl 3 rfl) ?_
  refine lv_iload_n hx hb dL_law_1167 rfl (lv_at hl 0 rfl) ?_
  refine lv_iconst (v := 1) hx hb dL_law_1168 (by decide) ?_
  refine lv_iadd hx hb dL_law_1169 ?_
  refine W.eq (g2 := F0 m 1170 ls [.int 1, .ref b, .ref x]) rfl ?_
  refine va_sld hx hb hX hbl hbA hS (hw_in (x := 1) (by decide) (by have h9 : (1 : Int32).toInt = 1 := rfl; omega)) dL_law_1170 ?_
  refine W.eq (g2 := F0 m 1171 ls [.int (xs 1), .ref x]) rfl ?_
  refine hw_cR (va_runV (As := [.int (xs 1)]) (rest := []) ⟨hx, hb, hml, hown, hts⟩ (k_X11_count l D G1 x (xs 1) _ la sz9 rx 0 0 0 0 rc 0 0 0 60 rt 0 0 0 0 0 0 0 rn 0 0 0 fq gx Rx ⟨by first | decide | omega, by first | decide | omega⟩ Rc ⟨by first | decide | omega, by first | decide | omega⟩ ⟨by first | decide | omega, by first | decide | omega⟩ ⟨by first | decide | omega, by first | decide | omega⟩ Rt ⟨by first | decide | omega, by first | decide | omega⟩ ⟨by first | decide | omega, by first | decide | omega⟩ ⟨by first | decide | omega, by first | decide | omega⟩ ⟨by first | decide | omega, by first | decide | omega⟩ Rn qq) (cwV 1 hts gL_law_X11_count rfl rfl rfl (by decide +kernel) ⟨Nat.le_of_ble_eq_true rfl, Nat.le_of_ble_eq_true rfl⟩) (hw_pV (hw_rc (q := (RX11, TX11, 14)) hK vx rfl) hH hK hST hS (by decide) (hw_hG hGe1) ⟨vx, vc, vt, vn, vq, hRK⟩) rfl rfl hl.1 rfl (lv_room (Nat.le_of_ble_eq_true rfl)) dL_law_1171 ⟨Nat.le_of_ble_eq_true rfl, Nat.le_of_ble_eq_true rfl⟩) (fun v hp => ?_)
  have l1 : (0 : Int32).toInt = 0 := rfl
  have l2 : (60 : Int32).toInt = 60 := rfl
  obtain ⟨x3, rfl, q4, q5, q6, q7, q8, q9, q10, q11, q12, q13, q14, q15, q16, q17⟩ := hp
  have q15c := fun h9 => q15 h9 (fun j _ => by rw [hla])
  refine lv_aload_n hx hb dL_law_1174 rfl (lv_at hl 1 rfl) ?_
  refine lv_aload_n hx hb dL_law_1175 rfl (lv_at hl 3 rfl) ?_
  refine lv_iload_n hx hb dL_law_1176 rfl (lv_at hl 0 rfl) ?_
  refine lv_iconst (v := 1) hx hb dL_law_1177 (by decide) ?_
  refine lv_iadd hx hb dL_law_1178 ?_
  refine W.eq (g2 := F0 m 1179 ls [.int 1, .ref b, .ref mo, .int x3]) rfl ?_
  refine va_sld hx hb hX hbl hbA hS (hw_in (x := 1) (by decide) (by have h9 : (1 : Int32).toInt = 1 := rfl; omega)) dL_law_1179 ?_
  refine W.eq (g2 := F0 m 1180 ls [.int (xs 1), .ref mo, .int x3]) rfl ?_
  refine hw_cR (va_runV (As := [.int (xs 1)]) (rest := [.int x3]) ⟨hx, hb, hml, hown, hts⟩ (k_X12_count l D G1 mo (xs 1) _ rm 0 0 0 0 60 0 0 0 0 0 0 0 0 0 fsz fro gm Rm ⟨by first | decide | omega, by first | decide | omega⟩ ⟨by first | decide | omega, by first | decide | omega⟩ ⟨by first | decide | omega, by first | decide | omega⟩ ⟨by first | decide | omega, by first | decide | omega⟩ ⟨by first | decide | omega, by first | decide | omega⟩ ⟨by first | decide | omega, by first | decide | omega⟩ ⟨by first | decide | omega, by first | decide | omega⟩ ⟨by first | decide | omega, by first | decide | omega⟩ ⟨by first | decide | omega, by first | decide | omega⟩ ⟨by first | decide | omega, by first | decide | omega⟩ ⟨by first | decide | omega, by first | decide | omega⟩ ⟨by first | decide | omega, by first | decide | omega⟩ qsz) (cwV 1 hts gL_law_X12_count rfl rfl rfl (by decide +kernel) ⟨Nat.le_of_ble_eq_true rfl, Nat.le_of_ble_eq_true rfl⟩) (hw_pV (hw_rc (q := (RX12, TX12, 45)) hK vm rfl) hH hK hST hS (by decide) (hw_hG hGe1) ⟨vm, vsz, vro⟩) rfl rfl hl.1 rfl (lv_room (Nat.le_of_ble_eq_true rfl)) dL_law_1180 ⟨Nat.le_of_ble_eq_true rfl, Nat.le_of_ble_eq_true rfl⟩) (fun v hp => ?_)
  obtain ⟨x18, rfl, q19, q20, q21, q22, q23, q24, q25, q26, q27, q28, q29, q30, q31, q32⟩ := hp
  have q30c := fun h9 => q30 h9 hfs
  have l9 : (0 : Int32).toInt = 0 := rfl
  have l8 : (60 : Int32).toInt = 60 := rfl
  have heq : x3.toInt = x18.toInt := by
    rcases hw_split13 (xs 1).toInt with h9 | h9 | h9 | h9 | h9 | h9 | h9 | h9 | h9 | h9 | h9 | h9 | h9 | h9
    · have h1 := q4 h9
      have h2 := q19 h9
      clear q4 q5 q6 q7 q8 q9 q10 q11 q12 q13 q14 q15 q16 q17 q19 q20 q21 q22 q23 q24 q25 q26 q27 q28 q29 q30 q31 q32 q15c q30c
      omega
    · have h1 := q5 h9
      have h2 := q20 h9
      clear q4 q5 q6 q7 q8 q9 q10 q11 q12 q13 q14 q15 q16 q17 q19 q20 q21 q22 q23 q24 q25 q26 q27 q28 q29 q30 q31 q32 q15c q30c
      omega
    · have h1 := q6 h9
      have h2 := q21 h9
      clear q4 q5 q6 q7 q8 q9 q10 q11 q12 q13 q14 q15 q16 q17 q19 q20 q21 q22 q23 q24 q25 q26 q27 q28 q29 q30 q31 q32 q15c q30c
      omega
    · have h1 := q7 h9
      have h2 := q22 h9
      clear q4 q5 q6 q7 q8 q9 q10 q11 q12 q13 q14 q15 q16 q17 q19 q20 q21 q22 q23 q24 q25 q26 q27 q28 q29 q30 q31 q32 q15c q30c
      omega
    · have h1 := q8 h9
      have h2 := q23 h9
      clear q4 q5 q6 q7 q8 q9 q10 q11 q12 q13 q14 q15 q16 q17 q19 q20 q21 q22 q23 q24 q25 q26 q27 q28 q29 q30 q31 q32 q15c q30c
      omega
    · have h1 := q9 h9
      have h2 := q24 h9
      clear q4 q5 q6 q7 q8 q9 q10 q11 q12 q13 q14 q15 q16 q17 q19 q20 q21 q22 q23 q24 q25 q26 q27 q28 q29 q30 q31 q32 q15c q30c
      omega
    · have h1 := q10 h9
      have h2 := q25 h9
      clear q4 q5 q6 q7 q8 q9 q10 q11 q12 q13 q14 q15 q16 q17 q19 q20 q21 q22 q23 q24 q25 q26 q27 q28 q29 q30 q31 q32 q15c q30c
      omega
    · have h1 := q11 h9 l9
      have h2 := q26 h9 l9
      clear q4 q5 q6 q7 q8 q9 q10 q11 q12 q13 q14 q15 q16 q17 q19 q20 q21 q22 q23 q24 q25 q26 q27 q28 q29 q30 q31 q32 q15c q30c
      omega
    · have h1 := q12 h9
      have h2 := q27 h9
      clear q4 q5 q6 q7 q8 q9 q10 q11 q12 q13 q14 q15 q16 q17 q19 q20 q21 q22 q23 q24 q25 q26 q27 q28 q29 q30 q31 q32 q15c q30c
      omega
    · have h1 := q13 h9 l9
      have h2 := q28 h9 l9
      clear q4 q5 q6 q7 q8 q9 q10 q11 q12 q13 q14 q15 q16 q17 q19 q20 q21 q22 q23 q24 q25 q26 q27 q28 q29 q30 q31 q32 q15c q30c
      omega
    · have h1 := q14 h9
      have h2 := q29 h9
      clear q4 q5 q6 q7 q8 q9 q10 q11 q12 q13 q14 q15 q16 q17 q19 q20 q21 q22 q23 q24 q25 q26 q27 q28 q29 q30 q31 q32 q15c q30c
      omega
    · have h1 := q15c h9
      have h2 := q30c h9
      clear q4 q5 q6 q7 q8 q9 q10 q11 q12 q13 q14 q15 q16 q17 q19 q20 q21 q22 q23 q24 q25 q26 q27 q28 q29 q30 q31 q32 q15c q30c
      omega
    · have h1 := q16 h9
      have h2 := q31 h9
      clear q4 q5 q6 q7 q8 q9 q10 q11 q12 q13 q14 q15 q16 q17 q19 q20 q21 q22 q23 q24 q25 q26 q27 q28 q29 q30 q31 q32 q15c q30c
      omega
    · have h1 := q17 h9
      have h2 := q32 h9
      clear q4 q5 q6 q7 q8 q9 q10 q11 q12 q13 q14 q15 q16 q17 q19 q20 q21 q22 q23 q24 q25 q26 q27 q28 q29 q30 q31 q32 q15c q30c
      omega
  clear q4 q5 q6 q7 q8 q9 q10 q11 q12 q13 q14 q15 q16 q17 q19 q20 q21 q22 q23 q24 q25 q26 q27 q28 q29 q30 q31 q32 q15c q30c
  refine lv_icmp_eq (tgt := 1188) hx hb dL_law_1183 (by decide) (fun c33 => ?_) (fun c33 => ?_)
  · have b34 : x3.toInt = x18.toInt := hw_ieq c33
    refine lv_iinc (v := 6) (lv' := [(3, .int 6), (2, .ref mo), (1, .ref x), (0, .ref b)]) hx hb dL_law_1188 hl (k := 0) rfl (by rfl) (by decide) rfl (fun ls hl => ?_)
    refine lv_goto (tgt := 18) hx hb dL_law_1191 (by decide) ?_
    refine lv_iload_n hx hb dL_law_18 rfl (lv_at hl 0 rfl) ?_
    refine lv_aload_n hx hb dL_law_19 rfl (lv_at hl 3 rfl) ?_
    refine va_slen hx hb hX hbl hbA hS dL_law_20 ?_
    refine lv_bipush (v := 6) hx hb dL_law_21 (by decide) ?_
    refine lv_isub hx hb dL_law_23 ?_
    refine lv_topi (fun x35 e36 => ?_)
    have t37 : x35.toInt = (Int32.ofNat L).toInt - 6 := by rw [e36]; exact hw_sub rfl rfl (by omega) (by omega)
    refine lv_icmp_gt (tgt := 1194) hx hb dL_law_24 (by decide) (fun c38 => ?_) (fun c38 => ?_)
    · have b39 : x35.toInt < 6 := hw_ilt c38
      refine lv_iconst (v := 1) hx hb dL_law_1194 (by decide) ?_
      have hfg := hw_hfg hG0 (by decide) hS.2.2
      refine va_forget hfg ?_
      refine W.widen (k := 600000) (n := 7302250) (by decide) (by decide) ?_
      exact lw_ret hx hb hr hlocks dL_law_1195
    · have b40 : 6 ≤ x35.toInt := hw_inlt c38
      exfalso; omega
  · have b41 : x3.toInt ≠ x18.toInt := hw_ine c33
    exfalso
    first | omega | contradiction | (subst_vars; omega)

