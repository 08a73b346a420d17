set_option maxHeartbeats 40000000 in
set_option maxRecDepth 100000 in
theorem hw_case766 {p : Program} {e : Env} {s : State} {m : MethodId} {below : List Frame} {meth : Method} {c : Code} (l : Launch) {b L : Nat} {xs : Nat → Int32} {D : hw_D} {G : Nat → Nat} {H : Heap} {locs : List Loc} {x mo : Nat} {ls : Array Slot} (hL : L ≤ 6) (hL6 : 6 ≤ L) (hx : p.tables.exec = Jvm.exec) (hb : c.code = code) (hr : meth.sig.returnType = ret) (hml : c.maxLocals = 4) (hown : s.vm.findClass R_law = some m.cls) (hts0 : ∀ w ∈ lw_tbl, w.before #[Value.ref b] s = true) (hts : ∀ w ∈ wsL_law, w.before #[Value.ref b] s = true) (hX : va_X b L xs s s.heap) (hbl : b < s.heap.size) (hlocks : meth.locks = false) (hG0 : G = fun _ => 0) (hK : va_K D.1 vwCl (hw_ty D.2.1) s) (hST : hw_ST D.2.2 G s.heap.size s) (hF : hw_F0 D G s H x mo) (hS : va_S (hw_AW G [1, 2, 3, 4, 5, 6, 7, 8, 9, 10, 11, 12, 13, 14, 15, 16, 17, 18, 19, 20, 21, 22, 23, 24, 25, 26, 27, 28, 29, 30, 31, 32, 40, 42, 44, 45, 46, 48, 49, 50, 51, 53, 55, 58, 59, 67, 68, 69, 70, 71, 72, 73, 74, 75, 76, 77, 78, 79, 80, 81, 82, 83, 84, 101, 102, 103, 104, 105, 106, 107, 108, 109, 127, 128, 129, 132] s.heap.size) s.heap H locs) (hl : lv_has ls 4 [(3, .int 0), (2, .ref mo), (1, .ref x), (0, .ref b)]) : W p l e room_1 s m #[Value.ref b] below meth c H locs 200 8000 (lw_Z below #[Value.ref b] s) (F0 m 766 ls []) := by
  have hH0 : hw_HT D G s.heap := fun a h => absurd (by rw [hG0]) h
  have hbA : ¬ (hw_AW G [1, 2, 3, 4, 5, 6, 7, 8, 9, 10, 11, 12, 13, 14, 15, 16, 17, 18, 19, 20, 21, 22, 23, 24, 25, 26, 27, 28, 29, 30, 31, 32, 40, 42, 44, 45, 46, 48, 49, 50, 51, 53, 55, 58, 59, 67, 68, 69, 70, 71, 72, 73, 74, 75, 76, 77, 78, 79, 80, 81, 82, 83, 84, 101, 102, 103, 104, 105, 106, 107, 108, 109, 127, 128, 129, 132] s.heap.size) b := hw_AWn (k := 0) (by rw [hG0]) (by decide) hbl
  have hLi : (Int32.ofNat L).toInt = (L : Int) := nI_toInt (by omega)
  obtain ⟨G1, rx, rc, rt, rn, fq, rm, fro, fik, fla, fsz, hH, hGe1, wx, wm, gx, gm, Rx, vx, Rc, vc, Rt, vt, Rn, vn, vq, hRK, Rm, vm, vro, hro, vik, hik, vla, vsz, hfs⟩ := hF
  have hHs := hH0
  obtain ⟨la, hla⟩ : ∃ z : Nat → Int32, z = fun _ => -1 := ⟨_, rfl⟩
  obtain ⟨sz9, hsz9⟩ : ∃ z : Nat → Int32, z = fun _ => 0 := ⟨_, rfl⟩
  rw [← hla, ← hsz9] at hRK
  have qq := hRK.q
  have qsz : ∀ j, j < 4 → -1 ≤ (fsz j).toInt ∧ (fsz j).toInt ≤ 24 := fun j hj => by rw [hfs j hj]; decide
  have hro0 : (fro 0).toInt = 0 := by rw [hro]; rfl
  have hro1 : (fro 1).toInt = 0 := by rw [hro]; rfl
  have hro2 : (fro 2).toInt = 0 := by rw [hro]; rfl
  have hla1 : (la (xs 1).toNatClampNeg).toInt = -1 := by rw [hla]; rfl
  have hfs1 : 0 ≤ (xs 1).toInt ∧ (xs 1).toInt ≤ 3 → (fsz (xs 1).toNatClampNeg).toInt = -1 := fun h9 => by rw [hfs _ (hw_i4 h9)]; rfl
  have hla2 : (la (xs 2).toNatClampNeg).toInt = -1 := by rw [hla]; rfl
  have hfs2 : 0 ≤ (xs 2).toInt ∧ (xs 2).toInt ≤ 3 → (fsz (xs 2).toNatClampNeg).toInt = -1 := fun h9 => by rw [hfs _ (hw_i4 h9)]; rfl
  have hla3 : (la (xs 3).toNatClampNeg).toInt = -1 := by rw [hla]; rfl
  have hfs3 : 0 ≤ (xs 3).toInt ∧ (xs 3).toInt ≤ 3 → (fsz (xs 3).toNatClampNeg).toInt = -1 := fun h9 => by rw [hfs _ (hw_i4 h9)]; rfl
  have hik1 : (fik (xs 1).toNatClampNeg).toInt = 0 := by rw [hik]; rfl
  refine lv_aload_n hx hb dL_law_766 rfl (lv_at hl 2 rfl) ?_
  refine lv_aload_n hx hb dL_law_767 rfl (lv_at hl 3 rfl) ?_
  refine lv_iload_n hx hb dL_law_768 rfl (lv_at hl 0 rfl) ?_
  refine lv_iconst (v := 1) hx hb dL_law_769 (by decide) ?_
  refine lv_iadd hx hb dL_law_770 ?_
  refine W.eq (g2 := F0 m 771 ls [.int 1, .ref b, .ref x]) rfl ?_
  refine va_sld hx hb hX hbl hbA hS (hw_in (x := 1) (by decide) (by have h9 : (1 : Int32).toInt = 1 := rfl; omega)) dL_law_771 ?_
  refine W.eq (g2 := F0 m 772 ls [.int (xs 1), .ref x]) rfl ?_
  refine hw_cR (va_runV (As := [.int (xs 1)]) (rest := []) ⟨hx, hb, hml, hown, hts⟩ (k_X11_how l D G1 x (xs 1) _ rx 0 0 0 0 rc 0 0 0 60 gx Rx ⟨by first | decide | omega, by first | decide | omega⟩ Rc ⟨by first | decide | omega, by first | decide | omega⟩ ⟨by first | decide | omega, by first | decide | omega⟩ ⟨by first | decide | omega, by first | decide | omega⟩) (cwV 1 hts gL_law_X11_how rfl rfl rfl (by decide +kernel) ⟨Nat.le_of_ble_eq_true rfl, Nat.le_of_ble_eq_true rfl⟩) (hw_pV (hw_rc (q := (RX11, TX11, 14)) hK vx rfl) hH hK hST hS (by decide) (hw_hG hGe1) ⟨vx, vc⟩) rfl rfl hl.1 rfl (lv_room (Nat.le_of_ble_eq_true rfl)) dL_law_772 ⟨Nat.le_of_ble_eq_true rfl, Nat.le_of_ble_eq_true rfl⟩) (fun v hp => ?_)
  have l1 : (0 : Int32).toInt = 0 := rfl
  have l2 : (60 : Int32).toInt = 60 := rfl
  obtain ⟨x3, rfl, q4⟩ := hp
  refine lv_aload_n hx hb dL_law_775 rfl (lv_at hl 1 rfl) ?_
  refine lv_aload_n hx hb dL_law_776 rfl (lv_at hl 3 rfl) ?_
  refine lv_iload_n hx hb dL_law_777 rfl (lv_at hl 0 rfl) ?_
  refine lv_iconst (v := 1) hx hb dL_law_778 (by decide) ?_
  refine lv_iadd hx hb dL_law_779 ?_
  refine W.eq (g2 := F0 m 780 ls [.int 1, .ref b, .ref mo, .int x3]) rfl ?_
  refine va_sld hx hb hX hbl hbA hS (hw_in (x := 1) (by decide) (by have h9 : (1 : Int32).toInt = 1 := rfl; omega)) dL_law_780 ?_
  refine W.eq (g2 := F0 m 781 ls [.int (xs 1), .ref mo, .int x3]) rfl ?_
  refine hw_cR (va_runV (As := [.int (xs 1)]) (rest := [.int x3]) ⟨hx, hb, hml, hown, hts⟩ (k_X12_how l D G1 mo (xs 1) _ rm 0 0 0 0 60 0 0 0 0 0 0 0 0 0 gm Rm ⟨by first | decide | omega, by first | decide | omega⟩ ⟨by first | decide | omega, by first | decide | omega⟩ ⟨by first | decide | omega, by first | decide | omega⟩ ⟨by first | decide | omega, by first | decide | omega⟩ ⟨by first | decide | omega, by first | decide | omega⟩ ⟨by first | decide | omega, by first | decide | omega⟩ ⟨by first | decide | omega, by first | decide | omega⟩ ⟨by first | decide | omega, by first | decide | omega⟩ ⟨by first | decide | omega, by first | decide | omega⟩ ⟨by first | decide | omega, by first | decide | omega⟩ ⟨by first | decide | omega, by first | decide | omega⟩ ⟨by first | decide | omega, by first | decide | omega⟩) (cwV 1 hts gL_law_X12_how rfl rfl rfl (by decide +kernel) ⟨Nat.le_of_ble_eq_true rfl, Nat.le_of_ble_eq_true rfl⟩) (hw_pV (hw_rc (q := (RX12, TX12, 45)) hK vm rfl) hH hK hST hS (by decide) (hw_hG hGe1) vm) rfl rfl hl.1 rfl (lv_room (Nat.le_of_ble_eq_true rfl)) dL_law_781 ⟨Nat.le_of_ble_eq_true rfl, Nat.le_of_ble_eq_true rfl⟩) (fun v hp => ?_)
  obtain ⟨x5, rfl, q6⟩ := hp
  refine lv_icmp_eq (tgt := 1188) hx hb dL_law_784 (by decide) (fun c7 => ?_) (fun c7 => ?_)
  · have b8 : x3.toInt = x5.toInt := hw_ieq c7
    refine lv_iinc (v := 6) (lv' := [(3, .int 6), (2, .ref mo), (1, .ref x), (0, .ref b)]) hx hb dL_law_1188 hl (k := 0) rfl (by rfl) (by decide) rfl (fun ls hl => ?_)
    refine lv_goto (tgt := 18) hx hb dL_law_1191 (by decide) ?_
    refine lv_iload_n hx hb dL_law_18 rfl (lv_at hl 0 rfl) ?_
    refine lv_aload_n hx hb dL_law_19 rfl (lv_at hl 3 rfl) ?_
    refine va_slen hx hb hX hbl hbA hS dL_law_20 ?_
    refine lv_bipush (v := 6) hx hb dL_law_21 (by decide) ?_
    refine lv_isub hx hb dL_law_23 ?_
    refine lv_topi (fun x9 e10 => ?_)
    have t11 : x9.toInt = (Int32.ofNat L).toInt - 6 := by rw [e10]; exact hw_sub rfl rfl (by omega) (by omega)
    refine lv_icmp_gt (tgt := 1194) hx hb dL_law_24 (by decide) (fun c12 => ?_) (fun c12 => ?_)
    · have b13 : x9.toInt < 6 := hw_ilt c12
      refine lv_iconst (v := 1) hx hb dL_law_1194 (by decide) ?_
      have hfg := hw_hfg hG0 (by decide) hS.2.2
      refine va_forget hfg ?_
      refine W.widen (k := 600000) (n := 7302250) (by decide) (by decide) ?_
      exact lw_ret hx hb hr hlocks dL_law_1195
    · have b14 : 6 ≤ x9.toInt := hw_inlt c12
      exfalso; omega
  · have b15 : x3.toInt ≠ x5.toInt := hw_ine c7
    exfalso
    first | omega | contradiction | (subst_vars; omega)

set_option maxHeartbeats 40000000 in
set_option maxRecDepth 100000 in
theorem hw_case789 {p : Program} {e : Env} {s : State} {m : MethodId} {below : List Frame} {meth : Method} {c : Code} (l : Launch) {b L : Nat} {xs : Nat → Int32} {D : hw_D} {G : Nat → Nat} {H : Heap} {locs : List Loc} {x mo : Nat} {ls : Array Slot} (hL : L ≤ 6) (hL6 : 6 ≤ L) (hx : p.tables.exec = Jvm.exec) (hb : c.code = code) (hr : meth.sig.returnType = ret) (hml : c.maxLocals = 4) (hown : s.vm.findClass R_law = some m.cls) (hts0 : ∀ w ∈ lw_tbl, w.before #[Value.ref b] s = true) (hts : ∀ w ∈ wsL_law, w.before #[Value.ref b] s = true) (hX : va_X b L xs s s.heap) (hbl : b < s.heap.size) (hlocks : meth.locks = false) (hG0 : G = fun _ => 0) (hK : va_K D.1 vwCl (hw_ty D.2.1) s) (hST : hw_ST D.2.2 G s.heap.size s) (hF : hw_F0 D G s H x mo) (hS : va_S (hw_AW G [1, 2, 3, 4, 5, 6, 7, 8, 9, 10, 11, 12, 13, 14, 15, 16, 17, 18, 19, 20, 21, 22, 23, 24, 25, 26, 27, 28, 29, 30, 31, 32, 40, 42, 44, 45, 46, 48, 49, 50, 51, 53, 55, 58, 59, 67, 68, 69, 70, 71, 72, 73, 74, 75, 76, 77, 78, 79, 80, 81, 82, 83, 84, 101, 102, 103, 104, 105, 106, 107, 108, 109, 127, 128, 129, 132] s.heap.size) s.heap H locs) (hl : lv_has ls 4 [(3, .int 0), (2, .ref mo), (1, .ref x), (0, .ref b)]) : W p l e room_1 s m #[Value.ref b] below meth c H locs 200 8000 (lw_Z below #[Value.ref b] s) (F0 m 789 ls []) := by
  have hH0 : hw_HT D G s.heap := fun a h => absurd (by rw [hG0]) h
  have hbA : ¬ (hw_AW G [1, 2, 3, 4, 5, 6, 7, 8, 9, 10, 11, 12, 13, 14, 15, 16, 17, 18, 19, 20, 21, 22, 23, 24, 25, 26, 27, 28, 29, 30, 31, 32, 40, 42, 44, 45, 46, 48, 49, 50, 51, 53, 55, 58, 59, 67, 68, 69, 70, 71, 72, 73, 74, 75, 76, 77, 78, 79, 80, 81, 82, 83, 84, 101, 102, 103, 104, 105, 106, 107, 108, 109, 127, 128, 129, 132] s.heap.size) b := hw_AWn (k := 0) (by rw [hG0]) (by decide) hbl
  have hLi : (Int32.ofNat L).toInt = (L : Int) := nI_toInt (by omega)
  obtain ⟨G1, rx, rc, rt, rn, fq, rm, fro, fik, fla, fsz, hH, hGe1, wx, wm, gx, gm, Rx, vx, Rc, vc, Rt, vt, Rn, vn, vq, hRK, Rm, vm, vro, hro, vik, hik, vla, vsz, hfs⟩ := hF
  have hHs := hH0
  obtain ⟨la, hla⟩ : ∃ z : Nat → Int32, z = fun _ => -1 := ⟨_, rfl⟩
  obtain ⟨sz9, hsz9⟩ : ∃ z : Nat → Int32, z = fun _ => 0 := ⟨_, rfl⟩
  rw [← hla, ← hsz9] at hRK
  have qq := hRK.q
  have qsz : ∀ j, j < 4 → -1 ≤ (fsz j).toInt ∧ (fsz j).toInt ≤ 24 := fun j hj => by rw [hfs j hj]; decide
  have hro0 : (fro 0).toInt = 0 := by rw [hro]; rfl
  have hro1 : (fro 1).toInt = 0 := by rw [hro]; rfl
  have hro2 : (fro 2).toInt = 0 := by rw [hro]; rfl
  have hla1 : (la (xs 1).toNatClampNeg).toInt = -1 := by rw [hla]; rfl
  have hfs1 : 0 ≤ (xs 1).toInt ∧ (xs 1).toInt ≤ 3 → (fsz (xs 1).toNatClampNeg).toInt = -1 := fun h9 => by rw [hfs _ (hw_i4 h9)]; rfl
  have hla2 : (la (xs 2).toNatClampNeg).toInt = -1 := by rw [hla]; rfl
  have hfs2 : 0 ≤ (xs 2).toInt ∧ (xs 2).toInt ≤ 3 → (fsz (xs 2).toNatClampNeg).toInt = -1 := fun h9 => by rw [hfs _ (hw_i4 h9)]; rfl
  have hla3 : (la (xs 3).toNatClampNeg).toInt = -1 := by rw [hla]; rfl
  have hfs3 : 0 ≤ (xs 3).toInt ∧ (xs 3).toInt ≤ 3 → (fsz (xs 3).toNatClampNeg).toInt = -1 := fun h9 => by rw [hfs _ (hw_i4 h9)]; rfl
  have hik1 : (fik (xs 1).toNatClampNeg).toInt = 0 := by rw [hik]; rfl
  refine lv_aload_n hx hb dL_law_789 rfl (lv_at hl 2 rfl) ?_
  refine lv_aload_n hx hb dL_law_790 rfl (lv_at hl 3 rfl) ?_
  refine lv_iload_n hx hb dL_law_791 rfl (lv_at hl 0 rfl) ?_
  refine lv_iconst (v := 1) hx hb dL_law_792 (by decide) ?_
  refine lv_iadd hx hb dL_law_793 ?_
  refine W.eq (g2 := F0 m 794 ls [.int 1, .ref b, .ref x]) rfl ?_
  refine va_sld hx hb hX hbl hbA hS (hw_in (x := 1) (by decide) (by have h9 : (1 : Int32).toInt = 1 := rfl; omega)) dL_law_794 ?_
  refine W.eq (g2 := F0 m 795 ls [.int (xs 1), .ref x]) rfl ?_
  refine lv_aload_n hx hb dL_law_795 rfl (lv_at hl 3 rfl) ?_
  refine lv_iload_n hx hb dL_law_796 rfl (lv_at hl 0 rfl) ?_
  refine lv_iconst (v := 2) hx hb dL_law_797 (by decide) ?_
  refine lv_iadd hx hb dL_law_798 ?_
  refine W.eq (g2 := F0 m 799 ls [.int 2, .ref b, .int (xs 1), .ref x]) rfl ?_
  refine va_sld hx hb hX hbl hbA hS (hw_in (x := 2) (by decide) (by have h9 : (2 : Int32).toInt = 2 := rfl; omega)) dL_law_799 ?_
  refine W.eq (g2 := F0 m 800 ls [.int (xs 2), .int (xs 1), .ref x]) rfl ?_
  refine lv_aload_n hx hb dL_law_800 rfl (lv_at hl 3 rfl) ?_
  refine lv_iload_n hx hb dL_law_801 rfl (lv_at hl 0 rfl) ?_
  refine lv_iconst (v := 3) hx hb dL_law_802 (by decide) ?_
  refine lv_iadd hx hb dL_law_803 ?_
  refine W.eq (g2 := F0 m 804 ls [.int 3, .ref b, .int (xs 2), .int (xs 1), .ref x]) rfl ?_
  refine va_sld hx hb hX hbl hbA hS (hw_in (x := 3) (by decide) (by have h9 : (3 : Int32).toInt = 3 := rfl; omega)) dL_law_804 ?_
  refine W.eq (g2 := F0 m 805 ls [.int (xs 3), .int (xs 2), .int (xs 1), .ref x]) rfl ?_
  refine lv_aload_n hx hb dL_law_805 rfl (lv_at hl 3 rfl) ?_
  refine lv_iload_n hx hb dL_law_806 rfl (lv_at hl 0 rfl) ?_
  refine lv_iconst (v := 4) hx hb dL_law_807 (by decide) ?_
  refine lv_iadd hx hb dL_law_808 ?_
  refine W.eq (g2 := F0 m 809 ls [.int 4, .ref b, .int (xs 3), .int (xs 2), .int (xs 1), .ref x]) rfl ?_
  refine va_sld hx hb hX hbl hbA hS (hw_in (x := 4) (by decide) (by have h9 : (4 : Int32).toInt = 4 := rfl; omega)) dL_law_809 ?_
  refine W.eq (g2 := F0 m 810 ls [.int (xs 4), .int (xs 3), .int (xs 2), .int (xs 1), .ref x]) rfl ?_
  refine hw_cR (va_runV (As := [.int (xs 1), .int (xs 2), .int (xs 3), .int (xs 4)]) (rest := []) ⟨hx, hb, hml, hown, hts⟩ (k_X11_odds l D G1 x (xs 1) (xs 2) (xs 3) (xs 4) _ rx 0 0 0 0 rc 0 0 0 60 gx Rx ⟨by first | decide | omega, by first | decide | omega⟩ Rc ⟨by first | decide | omega, by first | decide | omega⟩ ⟨by first | decide | omega, by first | decide | omega⟩ ⟨by first | decide | omega, by first | decide | omega⟩) (cwV 4 hts gL_law_X11_odds rfl rfl rfl (by decide +kernel) ⟨Nat.le_of_ble_eq_true rfl, Nat.le_of_ble_eq_true rfl⟩) (hw_pV (hw_rc (q := (RX11, TX11, 14)) hK vx rfl) hH hK hST hS (by decide) (hw_hG hGe1) ⟨vx, vc⟩) rfl rfl hl.1 rfl (lv_room (Nat.le_of_ble_eq_true rfl)) dL_law_810 ⟨Nat.le_of_ble_eq_true rfl, Nat.le_of_ble_eq_true rfl⟩) (fun v hp => ?_)
  have l1 : (0 : Int32).toInt = 0 := rfl
  have l2 : (60 : Int32).toInt = 60 := rfl
  obtain ⟨x3, rfl, q4⟩ := hp
  refine lv_aload_n hx hb dL_law_813 rfl (lv_at hl 1 rfl) ?_
  refine lv_aload_n hx hb dL_law_814 rfl (lv_at hl 3 rfl) ?_
  refine lv_iload_n hx hb dL_law_815 rfl (lv_at hl 0 rfl) ?_
  refine lv_iconst (v := 1) hx hb dL_law_816 (by decide) ?_
  refine lv_iadd hx hb dL_law_817 ?_
  refine W.eq (g2 := F0 m 818 ls [.int 1, .ref b, .ref mo, .int x3]) rfl ?_
  refine va_sld hx hb hX hbl hbA hS (hw_in (x := 1) (by decide) (by have h9 : (1 : Int32).toInt = 1 := rfl; omega)) dL_law_818 ?_
  refine W.eq (g2 := F0 m 819 ls [.int (xs 1), .ref mo, .int x3]) rfl ?_
  refine lv_aload_n hx hb dL_law_819 rfl (lv_at hl 3 rfl) ?_
  refine lv_iload_n hx hb dL_law_820 rfl (lv_at hl 0 rfl) ?_
  refine lv_iconst (v := 2) hx hb dL_law_821 (by decide) ?_
  refine lv_iadd hx hb dL_law_822 ?_
  refine W.eq (g2 := F0 m 823 ls [.int 2, .ref b, .int (xs 1), .ref mo, .int x3]) rfl ?_
  refine va_sld hx hb hX hbl hbA hS (hw_in (x := 2) (by decide) (by have h9 : (2 : Int32).toInt = 2 := rfl; omega)) dL_law_823 ?_
  refine W.eq (g2 := F0 m 824 ls [.int (xs 2), .int (xs 1), .ref mo, .int x3]) rfl ?_
  refine lv_aload_n hx hb dL_law_824 rfl (lv_at hl 3 rfl) ?_
  refine lv_iload_n hx hb dL_law_825 rfl (lv_at hl 0 rfl) ?_
  refine lv_iconst (v := 3) hx hb dL_law_826 (by decide) ?_
  refine lv_iadd hx hb dL_law_827 ?_
  refine W.eq (g2 := F0 m 828 ls [.int 3, .ref b, .int (xs 2), .int (xs 1), .ref mo, .int x3]) rfl ?_
  refine va_sld hx hb hX hbl hbA hS (hw_in (x := 3) (by decide) (by have h9 : (3 : Int32).toInt = 3 := rfl; omega)) dL_law_828 ?_
  refine W.eq (g2 := F0 m 829 ls [.int (xs 3), .int (xs 2), .int (xs 1), .ref mo, .int x3]) rfl ?_
  refine lv_aload_n hx hb dL_law_829 rfl (lv_at hl 3 rfl) ?_
  refine lv_iload_n hx hb dL_law_830 rfl (lv_at hl 0 rfl) ?_
  refine lv_iconst (v := 4) hx hb dL_law_831 (by decide) ?_
  refine lv_iadd hx hb dL_law_832 ?_
  refine W.eq (g2 := F0 m 833 ls [.int 4, .ref b, .int (xs 3), .int (xs 2), .int (xs 1), .ref mo, .int x3]) rfl ?_
  refine va_sld hx hb hX hbl hbA hS (hw_in (x := 4) (by decide) (by have h9 : (4 : Int32).toInt = 4 := rfl; omega)) dL_law_833 ?_
  refine W.eq (g2 := F0 m 834 ls [.int (xs 4), .int (xs 3), .int (xs 2), .int (xs 1), .ref mo, .int x3]) rfl ?_
  refine hw_cR (va_runV (As := [.int (xs 1), .int (xs 2), .int (xs 3), .int (xs 4)]) (rest := [.int x3]) ⟨hx, hb, hml, hown, hts⟩ (k_X12_odds l D G1 mo (xs 1) (xs 2) (xs 3) (xs 4) _ rm 0 0 0 0 60 0 0 0 0 0 0 0 0 0 gm Rm ⟨by first | decide | omega, by first | decide | omega⟩ ⟨by first | decide | omega, by first | decide | omega⟩ ⟨by first | decide | omega, by first | decide | omega⟩ ⟨by first | decide | omega, by first | decide | omega⟩ ⟨by first | decide | omega, by first | decide | omega⟩ ⟨by first | decide | omega, by first | decide | omega⟩ ⟨by first | decide | omega, by first | decide | omega⟩ ⟨by first | decide | omega, by first | decide | omega⟩ ⟨by first | decide | omega, by first | decide | omega⟩ ⟨by first | decide | omega, by first | decide | omega⟩ ⟨by first | decide | omega, by first | decide | omega⟩ ⟨by first | decide | omega, by first | decide | omega⟩) (cwV 4 hts gL_law_X12_odds rfl rfl rfl (by decide +kernel) ⟨Nat.le_of_ble_eq_true rfl, Nat.le_of_ble_eq_true rfl⟩) (hw_pV (hw_rc (q := (RX12, TX12, 45)) hK vm rfl) hH hK hST hS (by decide) (hw_hG hGe1) vm) rfl rfl hl.1 rfl (lv_room (Nat.le_of_ble_eq_true rfl)) dL_law_834 ⟨Nat.le_of_ble_eq_true rfl, Nat.le_of_ble_eq_true rfl⟩) (fun v hp => ?_)
  obtain ⟨x5, rfl, q6⟩ := hp
  refine lv_icmp_eq (tgt := 1188) hx hb dL_law_837 (by decide) (fun c7 => ?_) (fun c7 => ?_)
  · have b8 : x3.toInt = x5.toInt := hw_ieq c7
    refine lv_iinc (v := 6) (lv' := [(3, .int 6), (2, .ref mo), (1, .ref x), (0, .ref b)]) hx hb dL_law_1188 hl (k := 0) rfl (by rfl) (by decide) rfl (fun ls hl => ?_)
    refine lv_goto (tgt := 18) hx hb dL_law_1191 (by decide) ?_
    refine lv_iload_n hx hb dL_law_18 rfl (lv_at hl 0 rfl) ?_
    refine lv_aload_n hx hb dL_law_19 rfl (lv_at hl 3 rfl) ?_
    refine va_slen hx hb hX hbl hbA hS dL_law_20 ?_
    refine lv_bipush (v := 6) hx hb dL_law_21 (by decide) ?_
    refine lv_isub hx hb dL_law_23 ?_
    refine lv_topi (fun x9 e10 => ?_)
    have t11 : x9.toInt = (Int32.ofNat L).toInt - 6 := by rw [e10]; exact hw_sub rfl rfl (by omega) (by omega)
    refine lv_icmp_gt (tgt := 1194) hx hb dL_law_24 (by decide) (fun c12 => ?_) (fun c12 => ?_)
    · have b13 : x9.toInt < 6 := hw_ilt c12
      refine lv_iconst (v := 1) hx hb dL_law_1194 (by decide) ?_
      have hfg := hw_hfg hG0 (by decide) hS.2.2
      refine va_forget hfg ?_
      refine W.widen (k := 600000) (n := 7302250) (by decide) (by decide) ?_
      exact lw_ret hx hb hr hlocks dL_law_1195
    · have b14 : 6 ≤ x9.toInt := hw_inlt c12
      exfalso; omega
  · have b15 : x3.toInt ≠ x5.toInt := hw_ine c7
    exfalso
    first | omega | contradiction | (subst_vars; omega)

set_option maxHeartbeats 40000000 in
set_option maxRecDepth 100000 in
theorem hw_case842 {p : Program} {e : Env} {s : State} {m : MethodId} {below : List Frame} {meth : Method} {c : Code} (l : Launch) {b L : Nat} {xs : Nat → Int32} {D : hw_D} {G : Nat → Nat} {H : Heap} {locs : List Loc} {x mo : Nat} {ls : Array Slot} (hL : L ≤ 6) (hL6 : 6 ≤ L) (hx : p.tables.exec = Jvm.exec) (hb : c.code = code) (hr : meth.sig.returnType = ret) (hml : c.maxLocals = 4) (hown : s.vm.findClass R_law = some m.cls) (hts0 : ∀ w ∈ lw_tbl, w.before #[Value.ref b] s = true) (hts : ∀ w ∈ wsL_law, w.before #[Value.ref b] s = true) (hX : va_X b L xs s s.heap) (hbl : b < s.heap.size) (hlocks : meth.locks = false) (hG0 : G = fun _ => 0) (hK : va_K D.1 vwCl (hw_ty D.2.1) s) (hST : hw_ST D.2.2 G s.heap.size s) (hF : hw_F0 D G s H x mo) (hS : va_S (hw_AW G [1, 2, 3, 4, 5, 6, 7, 8, 9, 10, 11, 12, 13, 14, 15, 16, 17, 18, 19, 20, 21, 22, 23, 24, 25, 26, 27, 28, 29, 30, 31, 32, 40, 42, 44, 45, 46, 48, 49, 50, 51, 53, 55, 58, 59, 67, 68, 69, 70, 71, 72, 73, 74, 75, 76, 77, 78, 79, 80, 81, 82, 83, 84, 101, 102, 103, 104, 105, 106, 107, 108, 109, 127, 128, 129, 132] s.heap.size) s.heap H locs) (hl : lv_has ls 4 [(3, .int 0), (2, .ref mo), (1, .ref x), (0, .ref b)]) : W p l e room_1 s m #[Value.ref b] below meth c H locs 200 8000 (lw_Z below #[Value.ref b] s) (F0 m 842 ls []) := by
  have hH0 : hw_HT D G s.heap := fun a h => absurd (by rw [hG0]) h
  have hbA : ¬ (hw_AW G [1, 2, 3, 4, 5, 6, 7, 8, 9, 10, 11, 12, 13, 14, 15, 16, 17, 18, 19, 20, 21, 22, 23, 24, 25, 26, 27, 28, 29, 30, 31, 32, 40, 42, 44, 45, 46, 48, 49, 50, 51, 53, 55, 58, 59, 67, 68, 69, 70, 71, 72, 73, 74, 75, 76, 77, 78, 79, 80, 81, 82, 83, 84, 101, 102, 103, 104, 105, 106, 107, 108, 109, 127, 128, 129, 132] s.heap.size) b := hw_AWn (k := 0) (by rw [hG0]) (by decide) hbl
  have hLi : (Int32.ofNat L).toInt = (L : Int) := nI_toInt (by omega)
  obtain ⟨G1, rx, rc, rt, rn, fq, rm, fro, fik, fla, fsz, hH, hGe1, wx, wm, gx, gm, Rx, vx, Rc, vc, Rt, vt, Rn, vn, vq, hRK, Rm, vm, vro, hro, vik, hik, vla, vsz, hfs⟩ := hF
  have hHs := hH0
  obtain ⟨la, hla⟩ : ∃ z : Nat → Int32, z = fun _ => -1 := ⟨_, rfl⟩
  obtain ⟨sz9, hsz9⟩ : ∃ z : Nat → Int32, z = fun _ => 0 := ⟨_, rfl⟩
  rw [← hla, ← hsz9] at hRK
  have qq := hRK.q
  have qsz : ∀ j, j < 4 → -1 ≤ (fsz j).toInt ∧ (fsz j).toInt ≤ 24 := fun j hj => by rw [hfs j hj]; decide
  have hro0 : (fro 0).toInt = 0 := by rw [hro]; rfl
  have hro1 : (fro 1).toInt = 0 := by rw [hro]; rfl
  have hro2 : (fro 2).toInt = 0 := by rw [hro]; rfl
  have hla1 : (la (xs 1).toNatClampNeg).toInt = -1 := by rw [hla]; rfl
  have hfs1 : 0 ≤ (xs 1).toInt ∧ (xs 1).toInt ≤ 3 → (fsz (xs 1).toNatClampNeg).toInt = -1 := fun h9 => by rw [hfs _ (hw_i4 h9)]; rfl
  have hla2 : (la (xs 2).toNatClampNeg).toInt = -1 := by rw [hla]; rfl
  have hfs2 : 0 ≤ (xs 2).toInt ∧ (xs 2).toInt ≤ 3 → (fsz (xs 2).toNatClampNeg).toInt = -1 := fun h9 => by rw [hfs _ (hw_i4 h9)]; rfl
  have hla3 : (la (xs 3).toNatClampNeg).toInt = -1 := by rw [hla]; rfl
  have hfs3 : 0 ≤ (xs 3).toInt ∧ (xs 3).toInt ≤ 3 → (fsz (xs 3).toNatClampNeg).toInt = -1 := fun h9 => by rw [hfs _ (hw_i4 h9)]; rfl
  have hik1 : (fik (xs 1).toNatClampNeg).toInt = 0 := by rw [hik]; rfl
  refine lv_aload_n hx hb dL_law_842 rfl (lv_at hl 2 rfl) ?_
  refine lv_aload_n hx hb dL_law_843 rfl (lv_at hl 3 rfl) ?_
  refine lv_iload_n hx hb dL_law_844 rfl (lv_at hl 0 rfl) ?_
  refine lv_iconst (v := 1) hx hb dL_law_845 (by decide) ?_
  refine lv_iadd hx hb dL_law_846 ?_
  refine W.eq (g2 := F0 m 847 ls [.int 1, .ref b, .ref x]) rfl ?_
  refine va_sld hx hb hX hbl hbA hS (hw_in (x := 1) (by decide) (by have h9 : (1 : Int32).toInt = 1 := rfl; omega)) dL_law_847 ?_
  refine W.eq (g2 := F0 m 848 ls [.int (xs 1), .ref x]) rfl ?_
  refine lv_aload_n hx hb dL_law_848 rfl (lv_at hl 3 rfl) ?_
  refine lv_iload_n hx hb dL_law_849 rfl (lv_at hl 0 rfl) ?_
  refine lv_iconst (v := 2) hx hb dL_law_850 (by decide) ?_
  refine lv_iadd hx hb dL_law_851 ?_
  refine W.eq (g2 := F0 m 852 ls [.int 2, .ref b, .int (xs 1), .ref x]) rfl ?_
  refine va_sld hx hb hX hbl hbA hS (hw_in (x := 2) (by decide) (by have h9 : (2 : Int32).toInt = 2 := rfl; omega)) dL_law_852 ?_
  refine W.eq (g2 := F0 m 853 ls [.int (xs 2), .int (xs 1), .ref x]) rfl ?_
  refine lv_aload_n hx hb dL_law_853 rfl (lv_at hl 3 rfl) ?_
  refine lv_iload_n hx hb dL_law_854 rfl (lv_at hl 0 rfl) ?_
  refine lv_iconst (v := 3) hx hb dL_law_855 (by decide) ?_
  refine lv_iadd hx hb dL_law_856 ?_
  refine W.eq (g2 := F0 m 857 ls [.int 3, .ref b, .int (xs 2), .int (xs 1), .ref x]) rfl ?_
  refine va_sld hx hb hX hbl hbA hS (hw_in (x := 3) (by decide) (by have h9 : (3 : Int32).toInt = 3 := rfl; omega)) dL_law_857 ?_
  refine W.eq (g2 := F0 m 858 ls [.int (xs 3), .int (xs 2), .int (xs 1), .ref x]) rfl ?_
  refine hw_cM0 (va_runV (As := [.int (xs 1), .int (xs 2), .int (xs 3)]) (rest := []) ⟨hx, hb, hml, hown, hts⟩ (k_X11_rack l D G1 x (xs 1) (xs 2) (xs 3) _ la sz9 rx 0 0 0 0 fq gx Rx ⟨by first | decide | omega, by first | decide | omega⟩ qq) (cwV 3 hts gL_law_X11_rack rfl rfl rfl (by decide +kernel) ⟨Nat.le_of_ble_eq_true rfl, Nat.le_of_ble_eq_true rfl⟩) (hw_pV (hw_rc (q := (RX11, TX11, 14)) hK vx rfl) hH hK hST hS (by decide) (hw_hG hGe1) ⟨vx, vq, hRK⟩) rfl rfl hl.1 rfl (lv_room (Nat.le_of_ble_eq_true rfl)) dL_law_858 ⟨Nat.le_of_ble_eq_true rfl, Nat.le_of_ble_eq_true rfl⟩) hS (hw_AWsub (by decide) hGe1 hS.1) (fun v H locs hp hz hk hS => ?_)
  have l1 : (0 : Int32).toInt = 0 := rfl
  rcases hp with ⟨rfl, hH, hRK, v2, v3, q4⟩ | ⟨rfl, hH, hRK, v5, v6, q7, q8⟩ | ⟨rfl, hH, hRK, v9, v10, q11, q12⟩ | ⟨x13, rfl, hH, hRK, v14, v15, q16, q17, q18⟩
  · have vc := va_at.kept vc (hk _ (hw_lt vc) (hw_AWn (hw_RX_0 Rx) (by decide) (hw_lt vc)))
    have vt := va_at.kept vt (hk _ (hw_lt vt) (hw_AWn (hw_RX_1 Rx) (by decide) (hw_lt vt)))
    have vn := va_at.kept vn (hk _ (hw_lt vn) (hw_AWn (hw_RX_2 Rx) (by decide) (hw_lt vn)))
    have vm := va_at.kept vm (hk _ (hw_lt vm) (hw_AWn gm (by decide) (hw_lt vm)))
    have vro := va_at.kept vro (hk _ (hw_lt vro) (hw_AWn (hw_RM_0 Rm) (by decide) (hw_lt vro)))
    have vik := va_at.kept vik (hk _ (hw_lt vik) (hw_AWn (hw_RM_2 Rm) (by decide) (hw_lt vik)))
    have vla := va_at.kept vla (hk _ (hw_lt vla) (hw_AWn (hw_RM_41 Rm) (by decide) (hw_lt vla)))
    have vsz := va_at.kept vsz (hk _ (hw_lt vsz) (hw_AWn (hw_RM_42 Rm) (by decide) (hw_lt vsz)))
    refine lv_aload_n hx hb dL_law_861 rfl (lv_at hl 1 rfl) ?_
    refine lv_aload_n hx hb dL_law_862 rfl (lv_at hl 3 rfl) ?_
    refine lv_iload_n hx hb dL_law_863 rfl (lv_at hl 0 rfl) ?_
    refine lv_iconst (v := 1) hx hb dL_law_864 (by decide) ?_
    refine lv_iadd hx hb dL_law_865 ?_
    refine W.eq (g2 := F0 m 866 ls [.int 1, .ref b, .ref mo, .int (-2)]) rfl ?_
    refine va_sld hx hb hX hbl hbA hS (hw_in (x := 1) (by decide) (by have h9 : (1 : Int32).toInt = 1 := rfl; omega)) dL_law_866 ?_
    refine W.eq (g2 := F0 m 867 ls [.int (xs 1), .ref mo, .int (-2)]) rfl ?_
    refine lv_aload_n hx hb dL_law_867 rfl (lv_at hl 3 rfl) ?_
    refine lv_iload_n hx hb dL_law_868 rfl (lv_at hl 0 rfl) ?_
    refine lv_iconst (v := 2) hx hb dL_law_869 (by decide) ?_
    refine lv_iadd hx hb dL_law_870 ?_
    refine W.eq (g2 := F0 m 871 ls [.int 2, .ref b, .int (xs 1), .ref mo, .int (-2)]) rfl ?_
    refine va_sld hx hb hX hbl hbA hS (hw_in (x := 2) (by decide) (by have h9 : (2 : Int32).toInt = 2 := rfl; omega)) dL_law_871 ?_
    refine W.eq (g2 := F0 m 872 ls [.int (xs 2), .int (xs 1), .ref mo, .int (-2)]) rfl ?_
    refine lv_aload_n hx hb dL_law_872 rfl (lv_at hl 3 rfl) ?_
    refine lv_iload_n hx hb dL_law_873 rfl (lv_at hl 0 rfl) ?_
    refine lv_iconst (v := 3) hx hb dL_law_874 (by decide) ?_
    refine lv_iadd hx hb dL_law_875 ?_
    refine W.eq (g2 := F0 m 876 ls [.int 3, .ref b, .int (xs 2), .int (xs 1), .ref mo, .int (-2)]) rfl ?_
    refine va_sld hx hb hX hbl hbA hS (hw_in (x := 3) (by decide) (by have h9 : (3 : Int32).toInt = 3 := rfl; omega)) dL_law_876 ?_
    refine W.eq (g2 := F0 m 877 ls [.int (xs 3), .int (xs 2), .int (xs 1), .ref mo, .int (-2)]) rfl ?_
    refine hw_cM0 (va_runV (As := [.int (xs 1), .int (xs 2), .int (xs 3)]) (rest := [.int (-2)]) ⟨hx, hb, hml, hown, hts⟩ (k_X12_rack l D G1 mo (xs 1) (xs 2) (xs 3) _ rm 0 0 0 0 60 0 0 0 0 0 0 0 0 0 fla fsz gm Rm ⟨by first | decide | omega, by first | decide | omega⟩ ⟨by first | decide | omega, by first | decide | omega⟩ ⟨by first | decide | omega, by first | decide | omega⟩ ⟨by first | decide | omega, by first | decide | omega⟩ ⟨by first | decide | omega, by first | decide | omega⟩ ⟨by first | decide | omega, by first | decide | omega⟩ ⟨by first | decide | omega, by first | decide | omega⟩ ⟨by first | decide | omega, by first | decide | omega⟩ ⟨by first | decide | omega, by first | decide | omega⟩ ⟨by first | decide | omega, by first | decide | omega⟩ ⟨by first | decide | omega, by first | decide | omega⟩ ⟨by first | decide | omega, by first | decide | omega⟩ qsz) (cwV 3 hts gL_law_X12_rack rfl rfl rfl (by decide +kernel) ⟨Nat.le_of_ble_eq_true rfl, Nat.le_of_ble_eq_true rfl⟩) (hw_pV (hw_rc (q := (RX12, TX12, 45)) hK vm rfl) hH hK hST hS (by decide) (hw_hG hGe1) ⟨vm, vla, vsz⟩) rfl rfl hl.1 rfl (lv_room (Nat.le_of_ble_eq_true rfl)) dL_law_877 ⟨Nat.le_of_ble_eq_true rfl, Nat.le_of_ble_eq_true rfl⟩) hS (hw_AWsub (by decide) hGe1 hS.1) (fun v H locs hp hz hk hS => ?_)
    have l19 : (60 : Int32).toInt = 60 := rfl
    rcases hp with ⟨f20, f21, rfl, hH, v22, v23, v24, q25, q26, q27⟩ | ⟨f28, f29, rfl, hH, v30, v31, v32, q33, q34, q35, q36⟩ | ⟨f37, f38, rfl, hH, v39, v40, v41, q42, q43, q44, q45⟩ | ⟨x46, f47, f48, rfl, hH, v49, v50, v51, q52, q53, q54, q55, q56⟩
    · have hRK := hw_Racks.kept hRK (fun q9 h9 l9 => hk q9 l9 (hw_AWn h9 (by decide) l9))
      have v2 := va_at.kept v2 (hk _ (hw_lt v2) (hw_AWn gx (by decide) (hw_lt v2)))
      have vc := va_at.kept vc (hk _ (hw_lt vc) (hw_AWn (hw_RX_0 Rx) (by decide) (hw_lt vc)))
      have vt := va_at.kept vt (hk _ (hw_lt vt) (hw_AWn (hw_RX_1 Rx) (by decide) (hw_lt vt)))
      have vn := va_at.kept vn (hk _ (hw_lt vn) (hw_AWn (hw_RX_2 Rx) (by decide) (hw_lt vn)))
      have v3 := va_at.kept v3 (hk _ (hw_lt v3) (hw_AWn (hw_RX_13 Rx) (by decide) (hw_lt v3)))
      have vro := va_at.kept vro (hk _ (hw_lt vro) (hw_AWn (hw_RM_0 Rm) (by decide) (hw_lt vro)))
      have vik := va_at.kept vik (hk _ (hw_lt vik) (hw_AWn (hw_RM_2 Rm) (by decide) (hw_lt vik)))
      refine lv_icmp_eq (tgt := 1188) hx hb dL_law_880 (by decide) (fun c57 => ?_) (fun c57 => ?_)
      · refine lv_iinc (v := 6) (lv' := [(3, .int 6), (2, .ref mo), (1, .ref x), (0, .ref b)]) hx hb dL_law_1188 hl (k := 0) rfl (by rfl) (by decide) rfl (fun ls hl => ?_)
        refine lv_goto (tgt := 18) hx hb dL_law_1191 (by decide) ?_
        refine lv_iload_n hx hb dL_law_18 rfl (lv_at hl 0 rfl) ?_
        refine lv_aload_n hx hb dL_law_19 rfl (lv_at hl 3 rfl) ?_
        refine va_slen hx hb hX hbl hbA hS dL_law_20 ?_
        refine lv_bipush (v := 6) hx hb dL_law_21 (by decide) ?_
        refine lv_isub hx hb dL_law_23 ?_
        refine lv_topi (fun x58 e59 => ?_)
        have t60 : x58.toInt = (Int32.ofNat L).toInt - 6 := by rw [e59]; exact hw_sub rfl rfl (by omega) (by omega)
        refine lv_icmp_gt (tgt := 1194) hx hb dL_law_24 (by decide) (fun c61 => ?_) (fun c61 => ?_)
        · have b62 : x58.toInt < 6 := hw_ilt c61
          refine lv_iconst (v := 1) hx hb dL_law_1194 (by decide) ?_
          have hfg := hw_hfg hG0 (by decide) hS.2.2
          refine va_forget hfg ?_
          refine W.widen (k := 600000) (n := 7302250) (by decide) (by decide) ?_
          exact lw_ret hx hb hr hlocks dL_law_1195
        · have b63 : 6 ≤ x58.toInt := hw_inlt c61
          exfalso; omega
      · exact absurd c57 (by decide)
    · have hRK := hw_Racks.kept hRK (fun q9 h9 l9 => hk q9 l9 (hw_AWn h9 (by decide) l9))
      have v2 := va_at.kept v2 (hk _ (hw_lt v2) (hw_AWn gx (by decide) (hw_lt v2)))
      have vc := va_at.kept vc (hk _ (hw_lt vc) (hw_AWn (hw_RX_0 Rx) (by decide) (hw_lt vc)))
      have vt := va_at.kept vt (hk _ (hw_lt vt) (hw_AWn (hw_RX_1 Rx) (by decide) (hw_lt vt)))
      have vn := va_at.kept vn (hk _ (hw_lt vn) (hw_AWn (hw_RX_2 Rx) (by decide) (hw_lt vn)))
      have v3 := va_at.kept v3 (hk _ (hw_lt v3) (hw_AWn (hw_RX_13 Rx) (by decide) (hw_lt v3)))
      have vro := va_at.kept vro (hk _ (hw_lt vro) (hw_AWn (hw_RM_0 Rm) (by decide) (hw_lt vro)))
      have vik := va_at.kept vik (hk _ (hw_lt vik) (hw_AWn (hw_RM_2 Rm) (by decide) (hw_lt vik)))
      refine lv_icmp_eq (tgt := 1188) hx hb dL_law_880 (by decide) (fun c64 => ?_) (fun c64 => ?_)
      · exact absurd c64 (by decide)
      · exfalso
        first | omega | contradiction | (subst_vars; omega)
    · have hRK := hw_Racks.kept hRK (fun q9 h9 l9 => hk q9 l9 (hw_AWn h9 (by decide) l9))
      have v2 := va_at.kept v2 (hk _ (hw_lt v2) (hw_AWn gx (by decide) (hw_lt v2)))
      have vc := va_at.kept vc (hk _ (hw_lt vc) (hw_AWn (hw_RX_0 Rx) (by decide) (hw_lt vc)))
      have vt := va_at.kept vt (hk _ (hw_lt vt) (hw_AWn (hw_RX_1 Rx) (by decide) (hw_lt vt)))
      have vn := va_at.kept vn (hk _ (hw_lt vn) (hw_AWn (hw_RX_2 Rx) (by decide) (hw_lt vn)))
      have v3 := va_at.kept v3 (hk _ (hw_lt v3) (hw_AWn (hw_RX_13 Rx) (by decide) (hw_lt v3)))
      have vro := va_at.kept vro (hk _ (hw_lt vro) (hw_AWn (hw_RM_0 Rm) (by decide) (hw_lt vro)))
      have vik := va_at.kept vik (hk _ (hw_lt vik) (hw_AWn (hw_RM_2 Rm) (by decide) (hw_lt vik)))
      refine lv_icmp_eq (tgt := 1188) hx hb dL_law_880 (by decide) (fun c65 => ?_) (fun c65 => ?_)
      · exact absurd c65 (by decide)
      · exfalso
        first | omega | contradiction | (subst_vars; omega)
    · have q54i := hw_ieq q54
      have hRK := hw_Racks.kept hRK (fun q9 h9 l9 => hk q9 l9 (hw_AWn h9 (by decide) l9))
      have v2 := va_at.kept v2 (hk _ (hw_lt v2) (hw_AWn gx (by decide) (hw_lt v2)))
      have vc := va_at.kept vc (hk _ (hw_lt vc) (hw_AWn (hw_RX_0 Rx) (by decide) (hw_lt vc)))
      have vt := va_at.kept vt (hk _ (hw_lt vt) (hw_AWn (hw_RX_1 Rx) (by decide) (hw_lt vt)))
      have vn := va_at.kept vn (hk _ (hw_lt vn) (hw_AWn (hw_RX_2 Rx) (by decide) (hw_lt vn)))
      have v3 := va_at.kept v3 (hk _ (hw_lt v3) (hw_AWn (hw_RX_13 Rx) (by decide) (hw_lt v3)))
      have vro := va_at.kept vro (hk _ (hw_lt vro) (hw_AWn (hw_RM_0 Rm) (by decide) (hw_lt vro)))
      have vik := va_at.kept vik (hk _ (hw_lt vik) (hw_AWn (hw_RM_2 Rm) (by decide) (hw_lt vik)))
      refine lv_icmp_eq (tgt := 1188) hx hb dL_law_880 (by decide) (fun c66 => ?_) (fun c66 => ?_)
      · have b67 : (-2) = x46.toInt := hw_ieq c66
        refine lv_iinc (v := 6) (lv' := [(3, .int 6), (2, .ref mo), (1, .ref x), (0, .ref b)]) hx hb dL_law_1188 hl (k := 0) rfl (by rfl) (by decide) rfl (fun ls hl => ?_)
        refine lv_goto (tgt := 18) hx hb dL_law_1191 (by decide) ?_
        refine lv_iload_n hx hb dL_law_18 rfl (lv_at hl 0 rfl) ?_
        refine lv_aload_n hx hb dL_law_19 rfl (lv_at hl 3 rfl) ?_
        refine va_slen hx hb hX hbl hbA hS dL_law_20 ?_
        refine lv_bipush (v := 6) hx hb dL_law_21 (by decide) ?_
        refine lv_isub hx hb dL_law_23 ?_
        refine lv_topi (fun x68 e69 => ?_)
        have t70 : x68.toInt = (Int32.ofNat L).toInt - 6 := by rw [e69]; exact hw_sub rfl rfl (by omega) (by omega)
        refine lv_icmp_gt (tgt := 1194) hx hb dL_law_24 (by decide) (fun c71 => ?_) (fun c71 => ?_)
        · have b72 : x68.toInt < 6 := hw_ilt c71
          refine lv_iconst (v := 1) hx hb dL_law_1194 (by decide) ?_
          have hfg := hw_hfg hG0 (by decide) hS.2.2
          refine va_forget hfg ?_
          refine W.widen (k := 600000) (n := 7302250) (by decide) (by decide) ?_
          exact lw_ret hx hb hr hlocks dL_law_1195
        · have b73 : 6 ≤ x68.toInt := hw_inlt c71
          exfalso; omega
      · have b74 : (-2) ≠ x46.toInt := hw_ine c66
        exfalso
        first | omega | contradiction | (subst_vars; omega)
  · have vc := va_at.kept vc (hk _ (hw_lt vc) (hw_AWn (hw_RX_0 Rx) (by decide) (hw_lt vc)))
    have vt := va_at.kept vt (hk _ (hw_lt vt) (hw_AWn (hw_RX_1 Rx) (by decide) (hw_lt vt)))
    have vn := va_at.kept vn (hk _ (hw_lt vn) (hw_AWn (hw_RX_2 Rx) (by decide) (hw_lt vn)))
    have vm := va_at.kept vm (hk _ (hw_lt vm) (hw_AWn gm (by decide) (hw_lt vm)))
    have vro := va_at.kept vro (hk _ (hw_lt vro) (hw_AWn (hw_RM_0 Rm) (by decide) (hw_lt vro)))
    have vik := va_at.kept vik (hk _ (hw_lt vik) (hw_AWn (hw_RM_2 Rm) (by decide) (hw_lt vik)))
    have vla := va_at.kept vla (hk _ (hw_lt vla) (hw_AWn (hw_RM_41 Rm) (by decide) (hw_lt vla)))
    have vsz := va_at.kept vsz (hk _ (hw_lt vsz) (hw_AWn (hw_RM_42 Rm) (by decide) (hw_lt vsz)))
    refine lv_aload_n hx hb dL_law_861 rfl (lv_at hl 1 rfl) ?_
    refine lv_aload_n hx hb dL_law_862 rfl (lv_at hl 3 rfl) ?_
    refine lv_iload_n hx hb dL_law_863 rfl (lv_at hl 0 rfl) ?_
    refine lv_iconst (v := 1) hx hb dL_law_864 (by decide) ?_
    refine lv_iadd hx hb dL_law_865 ?_
    refine W.eq (g2 := F0 m 866 ls [.int 1, .ref b, .ref mo, .int (-3)]) rfl ?_
    refine va_sld hx hb hX hbl hbA hS (hw_in (x := 1) (by decide) (by have h9 : (1 : Int32).toInt = 1 := rfl; omega)) dL_law_866 ?_
    refine W.eq (g2 := F0 m 867 ls [.int (xs 1), .ref mo, .int (-3)]) rfl ?_
    refine lv_aload_n hx hb dL_law_867 rfl (lv_at hl 3 rfl) ?_
    refine lv_iload_n hx hb dL_law_868 rfl (lv_at hl 0 rfl) ?_
    refine lv_iconst (v := 2) hx hb dL_law_869 (by decide) ?_
    refine lv_iadd hx hb dL_law_870 ?_
    refine W.eq (g2 := F0 m 871 ls [.int 2, .ref b, .int (xs 1), .ref mo, .int (-3)]) rfl ?_
    refine va_sld hx hb hX hbl hbA hS (hw_in (x := 2) (by decide) (by have h9 : (2 : Int32).toInt = 2 := rfl; omega)) dL_law_871 ?_
    refine W.eq (g2 := F0 m 872 ls [.int (xs 2), .int (xs 1), .ref mo, .int (-3)]) rfl ?_
    refine lv_aload_n hx hb dL_law_872 rfl (lv_at hl 3 rfl) ?_
    refine lv_iload_n hx hb dL_law_873 rfl (lv_at hl 0 rfl) ?_
    refine lv_iconst (v := 3) hx hb dL_law_874 (by decide) ?_
    refine lv_iadd hx hb dL_law_875 ?_
    refine W.eq (g2 := F0 m 876 ls [.int 3, .ref b, .int (xs 2), .int (xs 1), .ref mo, .int (-3)]) rfl ?_
    refine va_sld hx hb hX hbl hbA hS (hw_in (x := 3) (by decide) (by have h9 : (3 : Int32).toInt = 3 := rfl; omega)) dL_law_876 ?_
    refine W.eq (g2 := F0 m 877 ls [.int (xs 3), .int (xs 2), .int (xs 1), .ref mo, .int (-3)]) rfl ?_
    refine hw_cM0 (va_runV (As := [.int (xs 1), .int (xs 2), .int (xs 3)]) (rest := [.int (-3)]) ⟨hx, hb, hml, hown, hts⟩ (k_X12_rack l D G1 mo (xs 1) (xs 2) (xs 3) _ rm 0 0 0 0 60 0 0 0 0 0 0 0 0 0 fla fsz gm Rm ⟨by first | decide | omega, by first | decide | omega⟩ ⟨by first | decide | omega, by first | decide | omega⟩ ⟨by first | decide | omega, by first | decide | omega⟩ ⟨by first | decide | omega, by first | decide | omega⟩ ⟨by first | decide | omega, by first | decide | omega⟩ ⟨by first | decide | omega, by first | decide | omega⟩ ⟨by first | decide | omega, by first | decide | omega⟩ ⟨by first | decide | omega, by first | decide | omega⟩ ⟨by first | decide | omega, by first | decide | omega⟩ ⟨by first | decide | omega, by first | decide | omega⟩ ⟨by first | decide | omega, by first | decide | omega⟩ ⟨by first | decide | omega, by first | decide | omega⟩ qsz) (cwV 3 hts gL_law_X12_rack rfl rfl rfl (by decide +kernel) ⟨Nat.le_of_ble_eq_true rfl, Nat.le_of_ble_eq_true rfl⟩) (hw_pV (hw_rc (q := (RX12, TX12, 45)) hK vm rfl) hH hK hST hS (by decide) (hw_hG hGe1) ⟨vm, vla, vsz⟩) rfl rfl hl.1 rfl (lv_room (Nat.le_of_ble_eq_true rfl)) dL_law_877 ⟨Nat.le_of_ble_eq_true rfl, Nat.le_of_ble_eq_true rfl⟩) hS (hw_AWsub (by decide) hGe1 hS.1) (fun v H locs hp hz hk hS => ?_)
    have l75 : (60 : Int32).toInt = 60 := rfl
    rcases hp with ⟨f76, f77, rfl, hH, v78, v79, v80, q81, q82, q83⟩ | ⟨f84, f85, rfl, hH, v86, v87, v88, q89, q90, q91, q92⟩ | ⟨f93, f94, rfl, hH, v95, v96, v97, q98, q99, q100, q101⟩ | ⟨x102, f103, f104, rfl, hH, v105, v106, v107, q108, q109, q110, q111, q112⟩
    · have hRK := hw_Racks.kept hRK (fun q9 h9 l9 => hk q9 l9 (hw_AWn h9 (by decide) l9))
      have v5 := va_at.kept v5 (hk _ (hw_lt v5) (hw_AWn gx (by decide) (hw_lt v5)))
      have vc := va_at.kept vc (hk _ (hw_lt vc) (hw_AWn (hw_RX_0 Rx) (by decide) (hw_lt vc)))
      have vt := va_at.kept vt (hk _ (hw_lt vt) (hw_AWn (hw_RX_1 Rx) (by decide) (hw_lt vt)))
      have vn := va_at.kept vn (hk _ (hw_lt vn) (hw_AWn (hw_RX_2 Rx) (by decide) (hw_lt vn)))
      have v6 := va_at.kept v6 (hk _ (hw_lt v6) (hw_AWn (hw_RX_13 Rx) (by decide) (hw_lt v6)))
      have vro := va_at.kept vro (hk _ (hw_lt vro) (hw_AWn (hw_RM_0 Rm) (by decide) (hw_lt vro)))
      have vik := va_at.kept vik (hk _ (hw_lt vik) (hw_AWn (hw_RM_2 Rm) (by decide) (hw_lt vik)))
      refine lv_icmp_eq (tgt := 1188) hx hb dL_law_880 (by decide) (fun c113 => ?_) (fun c113 => ?_)
      · exact absurd c113 (by decide)
      · exfalso
        first | omega | contradiction | (subst_vars; omega)
    · have hRK := hw_Racks.kept hRK (fun q9 h9 l9 => hk q9 l9 (hw_AWn h9 (by decide) l9))
      have v5 := va_at.kept v5 (hk _ (hw_lt v5) (hw_AWn gx (by decide) (hw_lt v5)))
      have vc := va_at.kept vc (hk _ (hw_lt vc) (hw_AWn (hw_RX_0 Rx) (by decide) (hw_lt vc)))
      have vt := va_at.kept vt (hk _ (hw_lt vt) (hw_AWn (hw_RX_1 Rx) (by decide) (hw_lt vt)))
      have vn := va_at.kept vn (hk _ (hw_lt vn) (hw_AWn (hw_RX_2 Rx) (by decide) (hw_lt vn)))
      have v6 := va_at.kept v6 (hk _ (hw_lt v6) (hw_AWn (hw_RX_13 Rx) (by decide) (hw_lt v6)))
      have vro := va_at.kept vro (hk _ (hw_lt vro) (hw_AWn (hw_RM_0 Rm) (by decide) (hw_lt vro)))
      have vik := va_at.kept vik (hk _ (hw_lt vik) (hw_AWn (hw_RM_2 Rm) (by decide) (hw_lt vik)))
      refine lv_icmp_eq (tgt := 1188) hx hb dL_law_880 (by decide) (fun c114 => ?_) (fun c114 => ?_)
      · refine lv_iinc (v := 6) (lv' := [(3, .int 6), (2, .ref mo), (1, .ref x), (0, .ref b)]) hx hb dL_law_1188 hl (k := 0) rfl (by rfl) (by decide) rfl (fun ls hl => ?_)
        refine lv_goto (tgt := 18) hx hb dL_law_1191 (by decide) ?_
        refine lv_iload_n hx hb dL_law_18 rfl (lv_at hl 0 rfl) ?_
        refine lv_aload_n hx hb dL_law_19 rfl (lv_at hl 3 rfl) ?_
        refine va_slen hx hb hX hbl hbA hS dL_law_20 ?_
        refine lv_bipush (v := 6) hx hb dL_law_21 (by decide) ?_
        refine lv_isub hx hb dL_law_23 ?_
        refine lv_topi (fun x115 e116 => ?_)
        have t117 : x115.toInt = (Int32.ofNat L).toInt - 6 := by rw [e116]; exact hw_sub rfl rfl (by omega) (by omega)
        refine lv_icmp_gt (tgt := 1194) hx hb dL_law_24 (by decide) (fun c118 => ?_) (fun c118 => ?_)
        · have b119 : x115.toInt < 6 := hw_ilt c118
          refine lv_iconst (v := 1) hx hb dL_law_1194 (by decide) ?_
          have hfg := hw_hfg hG0 (by decide) hS.2.2
          refine va_forget hfg ?_
          refine W.widen (k := 600000) (n := 7302250) (by decide) (by decide) ?_
          exact lw_ret hx hb hr hlocks dL_law_1195
        · have b120 : 6 ≤ x115.toInt := hw_inlt c118
          exfalso; omega
      · exact absurd c114 (by decide)
    · have hRK := hw_Racks.kept hRK (fun q9 h9 l9 => hk q9 l9 (hw_AWn h9 (by decide) l9))
      have v5 := va_at.kept v5 (hk _ (hw_lt v5) (hw_AWn gx (by decide) (hw_lt v5)))
      have vc := va_at.kept vc (hk _ (hw_lt vc) (hw_AWn (hw_RX_0 Rx) (by decide) (hw_lt vc)))
      have vt := va_at.kept vt (hk _ (hw_lt vt) (hw_AWn (hw_RX_1 Rx) (by decide) (hw_lt vt)))
      have vn := va_at.kept vn (hk _ (hw_lt vn) (hw_AWn (hw_RX_2 Rx) (by decide) (hw_lt vn)))
      have v6 := va_at.kept v6 (hk _ (hw_lt v6) (hw_AWn (hw_RX_13 Rx) (by decide) (hw_lt v6)))
      have vro := va_at.kept vro (hk _ (hw_lt vro) (hw_AWn (hw_RM_0 Rm) (by decide) (hw_lt vro)))
      have vik := va_at.kept vik (hk _ (hw_lt vik) (hw_AWn (hw_RM_2 Rm) (by decide) (hw_lt vik)))
      refine lv_icmp_eq (tgt := 1188) hx hb dL_law_880 (by decide) (fun c121 => ?_) (fun c121 => ?_)
      · exact absurd c121 (by decide)
      · exfalso
        first | omega | contradiction | (subst_vars; omega)
    · have q110i := hw_ieq q110
      have hRK := hw_Racks.kept hRK (fun q9 h9 l9 => hk q9 l9 (hw_AWn h9 (by decide) l9))
      have v5 := va_at.kept v5 (hk _ (hw_lt v5) (hw_AWn gx (by decide) (hw_lt v5)))
      have vc := va_at.kept vc (hk _ (hw_lt vc) (hw_AWn (hw_RX_0 Rx) (by decide) (hw_lt vc)))
      have vt := va_at.kept vt (hk _ (hw_lt vt) (hw_AWn (hw_RX_1 Rx) (by decide) (hw_lt vt)))
      have vn := va_at.kept vn (hk _ (hw_lt vn) (hw_AWn (hw_RX_2 Rx) (by decide) (hw_lt vn)))
      have v6 := va_at.kept v6 (hk _ (hw_lt v6) (hw_AWn (hw_RX_13 Rx) (by decide) (hw_lt v6)))
      have vro := va_at.kept vro (hk _ (hw_lt vro) (hw_AWn (hw_RM_0 Rm) (by decide) (hw_lt vro)))
      have vik := va_at.kept vik (hk _ (hw_lt vik) (hw_AWn (hw_RM_2 Rm) (by decide) (hw_lt vik)))
      refine lv_icmp_eq (tgt := 1188) hx hb dL_law_880 (by decide) (fun c122 => ?_) (fun c122 => ?_)
      · have b123 : (-3) = x102.toInt := hw_ieq c122
        refine lv_iinc (v := 6) (lv' := [(3, .int 6), (2, .ref mo), (1, .ref x), (0, .ref b)]) hx hb dL_law_1188 hl (k := 0) rfl (by rfl) (by decide) rfl (fun ls hl => ?_)
        refine lv_goto (tgt := 18) hx hb dL_law_1191 (by decide) ?_
        refine lv_iload_n hx hb dL_law_18 rfl (lv_at hl 0 rfl) ?_
        refine lv_aload_n hx hb dL_law_19 rfl (lv_at hl 3 rfl) ?_
        refine va_slen hx hb hX hbl hbA hS dL_law_20 ?_
        refine lv_bipush (v := 6) hx hb dL_law_21 (by decide) ?_
        refine lv_isub hx hb dL_law_23 ?_
        refine lv_topi (fun x124 e125 => ?_)
        have t126 : x124.toInt = (Int32.ofNat L).toInt - 6 := by rw [e125]; exact hw_sub rfl rfl (by omega) (by omega)
        refine lv_icmp_gt (tgt := 1194) hx hb dL_law_24 (by decide) (fun c127 => ?_) (fun c127 => ?_)
        · have b128 : x124.toInt < 6 := hw_ilt c127
          refine lv_iconst (v := 1) hx hb dL_law_1194 (by decide) ?_
          have hfg := hw_hfg hG0 (by decide) hS.2.2
          refine va_forget hfg ?_
          refine W.widen (k := 600000) (n := 7302250) (by decide) (by decide) ?_
          exact lw_ret hx hb hr hlocks dL_law_1195
        · have b129 : 6 ≤ x124.toInt := hw_inlt c127
          exfalso; omega
      · have b130 : (-3) ≠ x102.toInt := hw_ine c122
        exfalso
        first | omega | contradiction | (subst_vars; omega)
  · have vc := va_at.kept vc (hk _ (hw_lt vc) (hw_AWn (hw_RX_0 Rx) (by decide) (hw_lt vc)))
    have vt := va_at.kept vt (hk _ (hw_lt vt) (hw_AWn (hw_RX_1 Rx) (by decide) (hw_lt vt)))
    have vn := va_at.kept vn (hk _ (hw_lt vn) (hw_AWn (hw_RX_2 Rx) (by decide) (hw_lt vn)))
    have vm := va_at.kept vm (hk _ (hw_lt vm) (hw_AWn gm (by decide) (hw_lt vm)))
    have vro := va_at.kept vro (hk _ (hw_lt vro) (hw_AWn (hw_RM_0 Rm) (by decide) (hw_lt vro)))
    have vik := va_at.kept vik (hk _ (hw_lt vik) (hw_AWn (hw_RM_2 Rm) (by decide) (hw_lt vik)))
    have vla := va_at.kept vla (hk _ (hw_lt vla) (hw_AWn (hw_RM_41 Rm) (by decide) (hw_lt vla)))
    have vsz := va_at.kept vsz (hk _ (hw_lt vsz) (hw_AWn (hw_RM_42 Rm) (by decide) (hw_lt vsz)))
    refine lv_aload_n hx hb dL_law_861 rfl (lv_at hl 1 rfl) ?_
    refine lv_aload_n hx hb dL_law_862 rfl (lv_at hl 3 rfl) ?_
    refine lv_iload_n hx hb dL_law_863 rfl (lv_at hl 0 rfl) ?_
    refine lv_iconst (v := 1) hx hb dL_law_864 (by decide) ?_
    refine lv_iadd hx hb dL_law_865 ?_
    refine W.eq (g2 := F0 m 866 ls [.int 1, .ref b, .ref mo, .int (-14)]) rfl ?_
    refine va_sld hx hb hX hbl hbA hS (hw_in (x := 1) (by decide) (by have h9 : (1 : Int32).toInt = 1 := rfl; omega)) dL_law_866 ?_
    refine W.eq (g2 := F0 m 867 ls [.int (xs 1), .ref mo, .int (-14)]) rfl ?_
    refine lv_aload_n hx hb dL_law_867 rfl (lv_at hl 3 rfl) ?_
    refine lv_iload_n hx hb dL_law_868 rfl (lv_at hl 0 rfl) ?_
    refine lv_iconst (v := 2) hx hb dL_law_869 (by decide) ?_
    refine lv_iadd hx hb dL_law_870 ?_
    refine W.eq (g2 := F0 m 871 ls [.int 2, .ref b, .int (xs 1), .ref mo, .int (-14)]) rfl ?_
    refine va_sld hx hb hX hbl hbA hS (hw_in (x := 2) (by decide) (by have h9 : (2 : Int32).toInt = 2 := rfl; omega)) dL_law_871 ?_
    refine W.eq (g2 := F0 m 872 ls [.int (xs 2), .int (xs 1), .ref mo, .int (-14)]) rfl ?_
    refine lv_aload_n hx hb dL_law_872 rfl (lv_at hl 3 rfl) ?_
    refine lv_iload_n hx hb dL_law_873 rfl (lv_at hl 0 rfl) ?_
    refine lv_iconst (v := 3) hx hb dL_law_874 (by decide) ?_
    refine lv_iadd hx hb dL_law_875 ?_
    refine W.eq (g2 := F0 m 876 ls [.int 3, .ref b, .int (xs 2), .int (xs 1), .ref mo, .int (-14)]) rfl ?_
    refine va_sld hx hb hX hbl hbA hS (hw_in (x := 3) (by decide) (by have h9 : (3 : Int32).toInt = 3 := rfl; omega)) dL_law_876 ?_
    refine W.eq (g2 := F0 m 877 ls [.int (xs 3), .int (xs 2), .int (xs 1), .ref mo, .int (-14)]) rfl ?_
    refine hw_cM0 (va_runV (As := [.int (xs 1), .int (xs 2), .int (xs 3)]) (rest := [.int (-14)]) ⟨hx, hb, hml, hown, hts⟩ (k_X12_rack l D G1 mo (xs 1) (xs 2) (xs 3) _ rm 0 0 0 0 60 0 0 0 0 0 0 0 0 0 fla fsz gm Rm ⟨by first | decide | omega, by first | decide | omega⟩ ⟨by first | decide | omega, by first | decide | omega⟩ ⟨by first | decide | omega, by first | decide | omega⟩ ⟨by first | decide | omega, by first | decide | omega⟩ ⟨by first | decide | omega, by first | decide | omega⟩ ⟨by first | decide | omega, by first | decide | omega⟩ ⟨by first | decide | omega, by first | decide | omega⟩ ⟨by first | decide | omega, by first | decide | omega⟩ ⟨by first | decide | omega, by first | decide | omega⟩ ⟨by first | decide | omega, by first | decide | omega⟩ ⟨by first | decide | omega, by first | decide | omega⟩ ⟨by first | decide | omega, by first | decide | omega⟩ qsz) (cwV 3 hts gL_law_X12_rack rfl rfl rfl (by decide +kernel) ⟨Nat.le_of_ble_eq_true rfl, Nat.le_of_ble_eq_true rfl⟩) (hw_pV (hw_rc (q := (RX12, TX12, 45)) hK vm rfl) hH hK hST hS (by decide) (hw_hG hGe1) ⟨vm, vla, vsz⟩) rfl rfl hl.1 rfl (lv_room (Nat.le_of_ble_eq_true rfl)) dL_law_877 ⟨Nat.le_of_ble_eq_true rfl, Nat.le_of_ble_eq_true rfl⟩) hS (hw_AWsub (by decide) hGe1 hS.1) (fun v H locs hp hz hk hS => ?_)
    have l131 : (60 : Int32).toInt = 60 := rfl
    rcases hp with ⟨f132, f133, rfl, hH, v134, v135, v136, q137, q138, q139⟩ | ⟨f140, f141, rfl, hH, v142, v143, v144, q145, q146, q147, q148⟩ | ⟨f149, f150, rfl, hH, v151, v152, v153, q154, q155, q156, q157⟩ | ⟨x158, f159, f160, rfl, hH, v161, v162, v163, q164, q165, q166, q167, q168⟩
    · have hRK := hw_Racks.kept hRK (fun q9 h9 l9 => hk q9 l9 (hw_AWn h9 (by decide) l9))
      have v9 := va_at.kept v9 (hk _ (hw_lt v9) (hw_AWn gx (by decide) (hw_lt v9)))
      have vc := va_at.kept vc (hk _ (hw_lt vc) (hw_AWn (hw_RX_0 Rx) (by decide) (hw_lt vc)))
      have vt := va_at.kept vt (hk _ (hw_lt vt) (hw_AWn (hw_RX_1 Rx) (by decide) (hw_lt vt)))
      have vn := va_at.kept vn (hk _ (hw_lt vn) (hw_AWn (hw_RX_2 Rx) (by decide) (hw_lt vn)))
      have v10 := va_at.kept v10 (hk _ (hw_lt v10) (hw_AWn (hw_RX_13 Rx) (by decide) (hw_lt v10)))
      have vro := va_at.kept vro (hk _ (hw_lt vro) (hw_AWn (hw_RM_0 Rm) (by decide) (hw_lt vro)))
      have vik := va_at.kept vik (hk _ (hw_lt vik) (hw_AWn (hw_RM_2 Rm) (by decide) (hw_lt vik)))
      refine lv_icmp_eq (tgt := 1188) hx hb dL_law_880 (by decide) (fun c169 => ?_) (fun c169 => ?_)
      · exact absurd c169 (by decide)
      · exfalso
        first | omega | contradiction | (subst_vars; omega)
    · have hRK := hw_Racks.kept hRK (fun q9 h9 l9 => hk q9 l9 (hw_AWn h9 (by decide) l9))
      have v9 := va_at.kept v9 (hk _ (hw_lt v9) (hw_AWn gx (by decide) (hw_lt v9)))
      have vc := va_at.kept vc (hk _ (hw_lt vc) (hw_AWn (hw_RX_0 Rx) (by decide) (hw_lt vc)))
      have vt := va_at.kept vt (hk _ (hw_lt vt) (hw_AWn (hw_RX_1 Rx) (by decide) (hw_lt vt)))
      have vn := va_at.kept vn (hk _ (hw_lt vn) (hw_AWn (hw_RX_2 Rx) (by decide) (hw_lt vn)))
      have v10 := va_at.kept v10 (hk _ (hw_lt v10) (hw_AWn (hw_RX_13 Rx) (by decide) (hw_lt v10)))
      have vro := va_at.kept vro (hk _ (hw_lt vro) (hw_AWn (hw_RM_0 Rm) (by decide) (hw_lt vro)))
      have vik := va_at.kept vik (hk _ (hw_lt vik) (hw_AWn (hw_RM_2 Rm) (by decide) (hw_lt vik)))
      refine lv_icmp_eq (tgt := 1188) hx hb dL_law_880 (by decide) (fun c170 => ?_) (fun c170 => ?_)
      · exact absurd c170 (by decide)
      · exfalso
        first | omega | contradiction | (subst_vars; omega)
    · have hRK := hw_Racks.kept hRK (fun q9 h9 l9 => hk q9 l9 (hw_AWn h9 (by decide) l9))
      have v9 := va_at.kept v9 (hk _ (hw_lt v9) (hw_AWn gx (by decide) (hw_lt v9)))
      have vc := va_at.kept vc (hk _ (hw_lt vc) (hw_AWn (hw_RX_0 Rx) (by decide) (hw_lt vc)))
      have vt := va_at.kept vt (hk _ (hw_lt vt) (hw_AWn (hw_RX_1 Rx) (by decide) (hw_lt vt)))
      have vn := va_at.kept vn (hk _ (hw_lt vn) (hw_AWn (hw_RX_2 Rx) (by decide) (hw_lt vn)))
      have v10 := va_at.kept v10 (hk _ (hw_lt v10) (hw_AWn (hw_RX_13 Rx) (by decide) (hw_lt v10)))
      have vro := va_at.kept vro (hk _ (hw_lt vro) (hw_AWn (hw_RM_0 Rm) (by decide) (hw_lt vro)))
      have vik := va_at.kept vik (hk _ (hw_lt vik) (hw_AWn (hw_RM_2 Rm) (by decide) (hw_lt vik)))
      refine lv_icmp_eq (tgt := 1188) hx hb dL_law_880 (by decide) (fun c171 => ?_) (fun c171 => ?_)
      · refine lv_iinc (v := 6) (lv' := [(3, .int 6), (2, .ref mo), (1, .ref x), (0, .ref b)]) hx hb dL_law_1188 hl (k := 0) rfl (by rfl) (by decide) rfl (fun ls hl => ?_)
        refine lv_goto (tgt := 18) hx hb dL_law_1191 (by decide) ?_
        refine lv_iload_n hx hb dL_law_18 rfl (lv_at hl 0 rfl) ?_
        refine lv_aload_n hx hb dL_law_19 rfl (lv_at hl 3 rfl) ?_
        refine va_slen hx hb hX hbl hbA hS dL_law_20 ?_
        refine lv_bipush (v := 6) hx hb dL_law_21 (by decide) ?_
        refine lv_isub hx hb dL_law_23 ?_
        refine lv_topi (fun x172 e173 => ?_)
        have t174 : x172.toInt = (Int32.ofNat L).toInt - 6 := by rw [e173]; exact hw_sub rfl rfl (by omega) (by omega)
        refine lv_icmp_gt (tgt := 1194) hx hb dL_law_24 (by decide) (fun c175 => ?_) (fun c175 => ?_)
        · have b176 : x172.toInt < 6 := hw_ilt c175
          refine lv_iconst (v := 1) hx hb dL_law_1194 (by decide) ?_
          have hfg := hw_hfg hG0 (by decide) hS.2.2
          refine va_forget hfg ?_
          refine W.widen (k := 600000) (n := 7302250) (by decide) (by decide) ?_
          exact lw_ret hx hb hr hlocks dL_law_1195
        · have b177 : 6 ≤ x172.toInt := hw_inlt c175
          exfalso; omega
      · exact absurd c171 (by decide)
    · have q166i := hw_ieq q166
      have hRK := hw_Racks.kept hRK (fun q9 h9 l9 => hk q9 l9 (hw_AWn h9 (by decide) l9))
      have v9 := va_at.kept v9 (hk _ (hw_lt v9) (hw_AWn gx (by decide) (hw_lt v9)))
      have vc := va_at.kept vc (hk _ (hw_lt vc) (hw_AWn (hw_RX_0 Rx) (by decide) (hw_lt vc)))
      have vt := va_at.kept vt (hk _ (hw_lt vt) (hw_AWn (hw_RX_1 Rx) (by decide) (hw_lt vt)))
      have vn := va_at.kept vn (hk _ (hw_lt vn) (hw_AWn (hw_RX_2 Rx) (by decide) (hw_lt vn)))
      have v10 := va_at.kept v10 (hk _ (hw_lt v10) (hw_AWn (hw_RX_13 Rx) (by decide) (hw_lt v10)))
      have vro := va_at.kept vro (hk _ (hw_lt vro) (hw_AWn (hw_RM_0 Rm) (by decide) (hw_lt vro)))
      have vik := va_at.kept vik (hk _ (hw_lt vik) (hw_AWn (hw_RM_2 Rm) (by decide) (hw_lt vik)))
      refine lv_icmp_eq (tgt := 1188) hx hb dL_law_880 (by decide) (fun c178 => ?_) (fun c178 => ?_)
      · have b179 : (-14) = x158.toInt := hw_ieq c178
        refine lv_iinc (v := 6) (lv' := [(3, .int 6), (2, .ref mo), (1, .ref x), (0, .ref b)]) hx hb dL_law_1188 hl (k := 0) rfl (by rfl) (by decide) rfl (fun ls hl => ?_)
        refine lv_goto (tgt := 18) hx hb dL_law_1191 (by decide) ?_
        refine lv_iload_n hx hb dL_law_18 rfl (lv_at hl 0 rfl) ?_
        refine lv_aload_n hx hb dL_law_19 rfl (lv_at hl 3 rfl) ?_
        refine va_slen hx hb hX hbl hbA hS dL_law_20 ?_
        refine lv_bipush (v := 6) hx hb dL_law_21 (by decide) ?_
        refine lv_isub hx hb dL_law_23 ?_
        refine lv_topi (fun x180 e181 => ?_)
        have t182 : x180.toInt = (Int32.ofNat L).toInt - 6 := by rw [e181]; exact hw_sub rfl rfl (by omega) (by omega)
        refine lv_icmp_gt (tgt := 1194) hx hb dL_law_24 (by decide) (fun c183 => ?_) (fun c183 => ?_)
        · have b184 : x180.toInt < 6 := hw_ilt c183
          refine lv_iconst (v := 1) hx hb dL_law_1194 (by decide) ?_
          have hfg := hw_hfg hG0 (by decide) hS.2.2
          refine va_forget hfg ?_
          refine W.widen (k := 600000) (n := 7302250) (by decide) (by decide) ?_
          exact lw_ret hx hb hr hlocks dL_law_1195
        · have b185 : 6 ≤ x180.toInt := hw_inlt c183
          exfalso; omega
      · have b186 : (-14) ≠ x158.toInt := hw_ine c178
        exfalso
        first | omega | contradiction | (subst_vars; omega)
  · have q18i := hw_ieq q18
    have vc := va_at.kept vc (hk _ (hw_lt vc) (hw_AWn (hw_RX_0 Rx) (by decide) (hw_lt vc)))
    have vt := va_at.kept vt (hk _ (hw_lt vt) (hw_AWn (hw_RX_1 Rx) (by decide) (hw_lt vt)))
    have vn := va_at.kept vn (hk _ (hw_lt vn) (hw_AWn (hw_RX_2 Rx) (by decide) (hw_lt vn)))
    have vm := va_at.kept vm (hk _ (hw_lt vm) (hw_AWn gm (by decide) (hw_lt vm)))
    have vro := va_at.kept vro (hk _ (hw_lt vro) (hw_AWn (hw_RM_0 Rm) (by decide) (hw_lt vro)))
    have vik := va_at.kept vik (hk _ (hw_lt vik) (hw_AWn (hw_RM_2 Rm) (by decide) (hw_lt vik)))
    have vla := va_at.kept vla (hk _ (hw_lt vla) (hw_AWn (hw_RM_41 Rm) (by decide) (hw_lt vla)))
    have vsz := va_at.kept vsz (hk _ (hw_lt vsz) (hw_AWn (hw_RM_42 Rm) (by decide) (hw_lt vsz)))
    refine lv_aload_n hx hb dL_law_861 rfl (lv_at hl 1 rfl) ?_
    refine lv_aload_n hx hb dL_law_862 rfl (lv_at hl 3 rfl) ?_
    refine lv_iload_n hx hb dL_law_863 rfl (lv_at hl 0 rfl) ?_
    refine lv_iconst (v := 1) hx hb dL_law_864 (by decide) ?_
    refine lv_iadd hx hb dL_law_865 ?_
    refine W.eq (g2 := F0 m 866 ls [.int 1, .ref b, .ref mo, .int x13]) rfl ?_
    refine va_sld hx hb hX hbl hbA hS (hw_in (x := 1) (by decide) (by have h9 : (1 : Int32).toInt = 1 := rfl; omega)) dL_law_866 ?_
    refine W.eq (g2 := F0 m 867 ls [.int (xs 1), .ref mo, .int x13]) rfl ?_
    refine lv_aload_n hx hb dL_law_867 rfl (lv_at hl 3 rfl) ?_
    refine lv_iload_n hx hb dL_law_868 rfl (lv_at hl 0 rfl) ?_
    refine lv_iconst (v := 2) hx hb dL_law_869 (by decide) ?_
    refine lv_iadd hx hb dL_law_870 ?_
    refine W.eq (g2 := F0 m 871 ls [.int 2, .ref b, .int (xs 1), .ref mo, .int x13]) rfl ?_
    refine va_sld hx hb hX hbl hbA hS (hw_in (x := 2) (by decide) (by have h9 : (2 : Int32).toInt = 2 := rfl; omega)) dL_law_871 ?_
    refine W.eq (g2 := F0 m 872 ls [.int (xs 2), .int (xs 1), .ref mo, .int x13]) rfl ?_
    refine lv_aload_n hx hb dL_law_872 rfl (lv_at hl 3 rfl) ?_
    refine lv_iload_n hx hb dL_law_873 rfl (lv_at hl 0 rfl) ?_
    refine lv_iconst (v := 3) hx hb dL_law_874 (by decide) ?_
    refine lv_iadd hx hb dL_law_875 ?_
    refine W.eq (g2 := F0 m 876 ls [.int 3, .ref b, .int (xs 2), .int (xs 1), .ref mo, .int x13]) rfl ?_
    refine va_sld hx hb hX hbl hbA hS (hw_in (x := 3) (by decide) (by have h9 : (3 : Int32).toInt = 3 := rfl; omega)) dL_law_876 ?_
    refine W.eq (g2 := F0 m 877 ls [.int (xs 3), .int (xs 2), .int (xs 1), .ref mo, .int x13]) rfl ?_
    refine hw_cM0 (va_runV (As := [.int (xs 1), .int (xs 2), .int (xs 3)]) (rest := [.int x13]) ⟨hx, hb, hml, hown, hts⟩ (k_X12_rack l D G1 mo (xs 1) (xs 2) (xs 3) _ rm 0 0 0 0 60 0 0 0 0 0 0 0 0 0 fla fsz gm Rm ⟨by first | decide | omega, by first | decide | omega⟩ ⟨by first | decide | omega, by first | decide | omega⟩ ⟨by first | decide | omega, by first | decide | omega⟩ ⟨by first | decide | omega, by first | decide | omega⟩ ⟨by first | decide | omega, by first | decide | omega⟩ ⟨by first | decide | omega, by first | decide | omega⟩ ⟨by first | decide | omega, by first | decide | omega⟩ ⟨by first | decide | omega, by first | decide | omega⟩ ⟨by first | decide | omega, by first | decide | omega⟩ ⟨by first | decide | omega, by first | decide | omega⟩ ⟨by first | decide | omega, by first | decide | omega⟩ ⟨by first | decide | omega, by first | decide | omega⟩ qsz) (cwV 3 hts gL_law_X12_rack rfl rfl rfl (by decide +kernel) ⟨Nat.le_of_ble_eq_true rfl, Nat.le_of_ble_eq_true rfl⟩) (hw_pV (hw_rc (q := (RX12, TX12, 45)) hK vm rfl) hH hK hST hS (by decide) (hw_hG hGe1) ⟨vm, vla, vsz⟩) rfl rfl hl.1 rfl (lv_room (Nat.le_of_ble_eq_true rfl)) dL_law_877 ⟨Nat.le_of_ble_eq_true rfl, Nat.le_of_ble_eq_true rfl⟩) hS (hw_AWsub (by decide) hGe1 hS.1) (fun v H locs hp hz hk hS => ?_)
    have l187 : (60 : Int32).toInt = 60 := rfl
    rcases hp with ⟨f188, f189, rfl, hH, v190, v191, v192, q193, q194, q195⟩ | ⟨f196, f197, rfl, hH, v198, v199, v200, q201, q202, q203, q204⟩ | ⟨f205, f206, rfl, hH, v207, v208, v209, q210, q211, q212, q213⟩ | ⟨x214, f215, f216, rfl, hH, v217, v218, v219, q220, q221, q222, q223, q224⟩
    · have hRK := hw_Racks.kept hRK (fun q9 h9 l9 => hk q9 l9 (hw_AWn h9 (by decide) l9))
      have v14 := va_at.kept v14 (hk _ (hw_lt v14) (hw_AWn gx (by decide) (hw_lt v14)))
      have vc := va_at.kept vc (hk _ (hw_lt vc) (hw_AWn (hw_RX_0 Rx) (by decide) (hw_lt vc)))
      have vt := va_at.kept vt (hk _ (hw_lt vt) (hw_AWn (hw_RX_1 Rx) (by decide) (hw_lt vt)))
      have vn := va_at.kept vn (hk _ (hw_lt vn) (hw_AWn (hw_RX_2 Rx) (by decide) (hw_lt vn)))
      have v15 := va_at.kept v15 (hk _ (hw_lt v15) (hw_AWn (hw_RX_13 Rx) (by decide) (hw_lt v15)))
      have vro := va_at.kept vro (hk _ (hw_lt vro) (hw_AWn (hw_RM_0 Rm) (by decide) (hw_lt vro)))
      have vik := va_at.kept vik (hk _ (hw_lt vik) (hw_AWn (hw_RM_2 Rm) (by decide) (hw_lt vik)))
      refine lv_icmp_eq (tgt := 1188) hx hb dL_law_880 (by decide) (fun c225 => ?_) (fun c225 => ?_)
      · have b226 : x13.toInt = (-2) := hw_ieq c225
        refine lv_iinc (v := 6) (lv' := [(3, .int 6), (2, .ref mo), (1, .ref x), (0, .ref b)]) hx hb dL_law_1188 hl (k := 0) rfl (by rfl) (by decide) rfl (fun ls hl => ?_)
        refine lv_goto (tgt := 18) hx hb dL_law_1191 (by decide) ?_
        refine lv_iload_n hx hb dL_law_18 rfl (lv_at hl 0 rfl) ?_
        refine lv_aload_n hx hb dL_law_19 rfl (lv_at hl 3 rfl) ?_
        refine va_slen hx hb hX hbl hbA hS dL_law_20 ?_
        refine lv_bipush (v := 6) hx hb dL_law_21 (by decide) ?_
        refine lv_isub hx hb dL_law_23 ?_
        refine lv_topi (fun x227 e228 => ?_)
        have t229 : x227.toInt = (Int32.ofNat L).toInt - 6 := by rw [e228]; exact hw_sub rfl rfl (by omega) (by omega)
        refine lv_icmp_gt (tgt := 1194) hx hb dL_law_24 (by decide) (fun c230 => ?_) (fun c230 => ?_)
        · have b231 : x227.toInt < 6 := hw_ilt c230
          refine lv_iconst (v := 1) hx hb dL_law_1194 (by decide) ?_
          have hfg := hw_hfg hG0 (by decide) hS.2.2
          refine va_forget hfg ?_
          refine W.widen (k := 600000) (n := 7302250) (by decide) (by decide) ?_
          exact lw_ret hx hb hr hlocks dL_law_1195
        · have b232 : 6 ≤ x227.toInt := hw_inlt c230
          exfalso; omega
      · have b233 : x13.toInt ≠ (-2) := hw_ine c225
        exfalso
        first | omega | contradiction | (subst_vars; omega)
    · have hRK := hw_Racks.kept hRK (fun q9 h9 l9 => hk q9 l9 (hw_AWn h9 (by decide) l9))
      have v14 := va_at.kept v14 (hk _ (hw_lt v14) (hw_AWn gx (by decide) (hw_lt v14)))
      have vc := va_at.kept vc (hk _ (hw_lt vc) (hw_AWn (hw_RX_0 Rx) (by decide) (hw_lt vc)))
      have vt := va_at.kept vt (hk _ (hw_lt vt) (hw_AWn (hw_RX_1 Rx) (by decide) (hw_lt vt)))
      have vn := va_at.kept vn (hk _ (hw_lt vn) (hw_AWn (hw_RX_2 Rx) (by decide) (hw_lt vn)))
      have v15 := va_at.kept v15 (hk _ (hw_lt v15) (hw_AWn (hw_RX_13 Rx) (by decide) (hw_lt v15)))
      have vro := va_at.kept vro (hk _ (hw_lt vro) (hw_AWn (hw_RM_0 Rm) (by decide) (hw_lt vro)))
      have vik := va_at.kept vik (hk _ (hw_lt vik) (hw_AWn (hw_RM_2 Rm) (by decide) (hw_lt vik)))
      refine lv_icmp_eq (tgt := 1188) hx hb dL_law_880 (by decide) (fun c234 => ?_) (fun c234 => ?_)
      · have b235 : x13.toInt = (-3) := hw_ieq c234
        refine lv_iinc (v := 6) (lv' := [(3, .int 6), (2, .ref mo), (1, .ref x), (0, .ref b)]) hx hb dL_law_1188 hl (k := 0) rfl (by rfl) (by decide) rfl (fun ls hl => ?_)
        refine lv_goto (tgt := 18) hx hb dL_law_1191 (by decide) ?_
        refine lv_iload_n hx hb dL_law_18 rfl (lv_at hl 0 rfl) ?_
        refine lv_aload_n hx hb dL_law_19 rfl (lv_at hl 3 rfl) ?_
        refine va_slen hx hb hX hbl hbA hS dL_law_20 ?_
        refine lv_bipush (v := 6) hx hb dL_law_21 (by decide) ?_
        refine lv_isub hx hb dL_law_23 ?_
        refine lv_topi (fun x236 e237 => ?_)
        have t238 : x236.toInt = (Int32.ofNat L).toInt - 6 := by rw [e237]; exact hw_sub rfl rfl (by omega) (by omega)
        refine lv_icmp_gt (tgt := 1194) hx hb dL_law_24 (by decide) (fun c239 => ?_) (fun c239 => ?_)
        · have b240 : x236.toInt < 6 := hw_ilt c239
          refine lv_iconst (v := 1) hx hb dL_law_1194 (by decide) ?_
          have hfg := hw_hfg hG0 (by decide) hS.2.2
          refine va_forget hfg ?_
          refine W.widen (k := 600000) (n := 7302250) (by decide) (by decide) ?_
          exact lw_ret hx hb hr hlocks dL_law_1195
        · have b241 : 6 ≤ x236.toInt := hw_inlt c239
          exfalso; omega
      · have b242 : x13.toInt ≠ (-3) := hw_ine c234
        exfalso
        first | omega | contradiction | (subst_vars; omega)
    · have hRK := hw_Racks.kept hRK (fun q9 h9 l9 => hk q9 l9 (hw_AWn h9 (by decide) l9))
      have v14 := va_at.kept v14 (hk _ (hw_lt v14) (hw_AWn gx (by decide) (hw_lt v14)))
      have vc := va_at.kept vc (hk _ (hw_lt vc) (hw_AWn (hw_RX_0 Rx) (by decide) (hw_lt vc)))
      have vt := va_at.kept vt (hk _ (hw_lt vt) (hw_AWn (hw_RX_1 Rx) (by decide) (hw_lt vt)))
      have vn := va_at.kept vn (hk _ (hw_lt vn) (hw_AWn (hw_RX_2 Rx) (by decide) (hw_lt vn)))
      have v15 := va_at.kept v15 (hk _ (hw_lt v15) (hw_AWn (hw_RX_13 Rx) (by decide) (hw_lt v15)))
      have vro := va_at.kept vro (hk _ (hw_lt vro) (hw_AWn (hw_RM_0 Rm) (by decide) (hw_lt vro)))
      have vik := va_at.kept vik (hk _ (hw_lt vik) (hw_AWn (hw_RM_2 Rm) (by decide) (hw_lt vik)))
      refine lv_icmp_eq (tgt := 1188) hx hb dL_law_880 (by decide) (fun c243 => ?_) (fun c243 => ?_)
      · have b244 : x13.toInt = (-14) := hw_ieq c243
        refine lv_iinc (v := 6) (lv' := [(3, .int 6), (2, .ref mo), (1, .ref x), (0, .ref b)]) hx hb dL_law_1188 hl (k := 0) rfl (by rfl) (by decide) rfl (fun ls hl => ?_)
        refine lv_goto (tgt := 18) hx hb dL_law_1191 (by decide) ?_
        refine lv_iload_n hx hb dL_law_18 rfl (lv_at hl 0 rfl) ?_
        refine lv_aload_n hx hb dL_law_19 rfl (lv_at hl 3 rfl) ?_
        refine va_slen hx hb hX hbl hbA hS dL_law_20 ?_
        refine lv_bipush (v := 6) hx hb dL_law_21 (by decide) ?_
        refine lv_isub hx hb dL_law_23 ?_
        refine lv_topi (fun x245 e246 => ?_)
        have t247 : x245.toInt = (Int32.ofNat L).toInt - 6 := by rw [e246]; exact hw_sub rfl rfl (by omega) (by omega)
        refine lv_icmp_gt (tgt := 1194) hx hb dL_law_24 (by decide) (fun c248 => ?_) (fun c248 => ?_)
        · have b249 : x245.toInt < 6 := hw_ilt c248
          refine lv_iconst (v := 1) hx hb dL_law_1194 (by decide) ?_
          have hfg := hw_hfg hG0 (by decide) hS.2.2
          refine va_forget hfg ?_
          refine W.widen (k := 600000) (n := 7302250) (by decide) (by decide) ?_
          exact lw_ret hx hb hr hlocks dL_law_1195
        · have b250 : 6 ≤ x245.toInt := hw_inlt c248
          exfalso; omega
      · have b251 : x13.toInt ≠ (-14) := hw_ine c243
        exfalso
        first | omega | contradiction | (subst_vars; omega)
    · have q222i := hw_ieq q222
      have hRK := hw_Racks.kept hRK (fun q9 h9 l9 => hk q9 l9 (hw_AWn h9 (by decide) l9))
      have v14 := va_at.kept v14 (hk _ (hw_lt v14) (hw_AWn gx (by decide) (hw_lt v14)))
      have vc := va_at.kept vc (hk _ (hw_lt vc) (hw_AWn (hw_RX_0 Rx) (by decide) (hw_lt vc)))
      have vt := va_at.kept vt (hk _ (hw_lt vt) (hw_AWn (hw_RX_1 Rx) (by decide) (hw_lt vt)))
      have vn := va_at.kept vn (hk _ (hw_lt vn) (hw_AWn (hw_RX_2 Rx) (by decide) (hw_lt vn)))
      have v15 := va_at.kept v15 (hk _ (hw_lt v15) (hw_AWn (hw_RX_13 Rx) (by decide) (hw_lt v15)))
      have vro := va_at.kept vro (hk _ (hw_lt vro) (hw_AWn (hw_RM_0 Rm) (by decide) (hw_lt vro)))
      have vik := va_at.kept vik (hk _ (hw_lt vik) (hw_AWn (hw_RM_2 Rm) (by decide) (hw_lt vik)))
      refine lv_icmp_eq (tgt := 1188) hx hb dL_law_880 (by decide) (fun c252 => ?_) (fun c252 => ?_)
      · have b253 : x13.toInt = x214.toInt := hw_ieq c252
        refine lv_iinc (v := 6) (lv' := [(3, .int 6), (2, .ref mo), (1, .ref x), (0, .ref b)]) hx hb dL_law_1188 hl (k := 0) rfl (by rfl) (by decide) rfl (fun ls hl => ?_)
        refine lv_goto (tgt := 18) hx hb dL_law_1191 (by decide) ?_
        refine lv_iload_n hx hb dL_law_18 rfl (lv_at hl 0 rfl) ?_
        refine lv_aload_n hx hb dL_law_19 rfl (lv_at hl 3 rfl) ?_
        refine va_slen hx hb hX hbl hbA hS dL_law_20 ?_
        refine lv_bipush (v := 6) hx hb dL_law_21 (by decide) ?_
        refine lv_isub hx hb dL_law_23 ?_
        refine lv_topi (fun x254 e255 => ?_)
        have t256 : x254.toInt = (Int32.ofNat L).toInt - 6 := by rw [e255]; exact hw_sub rfl rfl (by omega) (by omega)
        refine lv_icmp_gt (tgt := 1194) hx hb dL_law_24 (by decide) (fun c257 => ?_) (fun c257 => ?_)
        · have b258 : x254.toInt < 6 := hw_ilt c257
          refine lv_iconst (v := 1) hx hb dL_law_1194 (by decide) ?_
          have hfg := hw_hfg hG0 (by decide) hS.2.2
          refine va_forget hfg ?_
          refine W.widen (k := 600000) (n := 7302250) (by decide) (by decide) ?_
          exact lw_ret hx hb hr hlocks dL_law_1195
        · have b259 : 6 ≤ x254.toInt := hw_inlt c257
          exfalso; omega
      · have b260 : x13.toInt ≠ x214.toInt := hw_ine c252
        exfalso
        first | omega | contradiction | (subst_vars; omega)

set_option maxHeartbeats 40000000 in
set_option maxRecDepth 100000 in
theorem hw_case885 {p : Program} {e : Env} {s : State} {m : MethodId} {below : List Frame} {meth : Method} {c : Code} (l : Launch) {b L : Nat} {xs : Nat → Int32} {D : hw_D} {G : Nat → Nat} {H : Heap} {locs : List Loc} {x mo : Nat} {ls : Array Slot} (hL : L ≤ 6) (hL6 : 6 ≤ L) (hx : p.tables.exec = Jvm.exec) (hb : c.code = code) (hr : meth.sig.returnType = ret) (hml : c.maxLocals = 4) (hown : s.vm.findClass R_law = some m.cls) (hts0 : ∀ w ∈ lw_tbl, w.before #[Value.ref b] s = true) (hts : ∀ w ∈ wsL_law, w.before #[Value.ref b] s = true) (hX : va_X b L xs s s.heap) (hbl : b < s.heap.size) (hlocks : meth.locks = false) (hG0 : G = fun _ => 0) (hK : va_K D.1 vwCl (hw_ty D.2.1) s) (hST : hw_ST D.2.2 G s.heap.size s) (hF : hw_F0 D G s H x mo) (hS : va_S (hw_AW G [1, 2, 3, 4, 5, 6, 7, 8, 9, 10, 11, 12, 13, 14, 15, 16, 17, 18, 19, 20, 21, 22, 23, 24, 25, 26, 27, 28, 29, 30, 31, 32, 40, 42, 44, 45, 46, 48, 49, 50, 51, 53, 55, 58, 59, 67, 68, 69, 70, 71, 72, 73, 74, 75, 76, 77, 78, 79, 80, 81, 82, 83, 84, 101, 102, 103, 104, 105, 106, 107, 108, 109, 127, 128, 129, 132] s.heap.size) s.heap H locs) (hl : lv_has ls 4 [(3, .int 0), (2, .ref mo), (1, .ref x), (0, .ref b)]) : W p l e room_1 s m #[Value.ref b] below meth c H locs 200 8000 (lw_Z below #[Value.ref b] s) (F0 m 885 ls []) := by
  have hH0 : hw_HT D G s.heap := fun a h => absurd (by rw [hG0]) h
  have hbA : ¬ (hw_AW G [1, 2, 3, 4, 5, 6, 7, 8, 9, 10, 11, 12, 13, 14, 15, 16, 17, 18, 19, 20, 21, 22, 23, 24, 25, 26, 27, 28, 29, 30, 31, 32, 40, 42, 44, 45, 46, 48, 49, 50, 51, 53, 55, 58, 59, 67, 68, 69, 70, 71, 72, 73, 74, 75, 76, 77, 78, 79, 80, 81, 82, 83, 84, 101, 102, 103, 104, 105, 106, 107, 108, 109, 127, 128, 129, 132] s.heap.size) b := hw_AWn (k := 0) (by rw [hG0]) (by decide) hbl
  have hLi : (Int32.ofNat L).toInt = (L : Int) := nI_toInt (by omega)
  obtain ⟨G1, rx, rc, rt, rn, fq, rm, fro, fik, fla, fsz, hH, hGe1, wx, wm, gx, gm, Rx, vx, Rc, vc, Rt, vt, Rn, vn, vq, hRK, Rm, vm, vro, hro, vik, hik, vla, vsz, hfs⟩ := hF
  have hHs := hH0
  obtain ⟨la, hla⟩ : ∃ z : Nat → Int32, z = fun _ => -1 := ⟨_, rfl⟩
  obtain ⟨sz9, hsz9⟩ : ∃ z : Nat → Int32, z = fun _ => 0 := ⟨_, rfl⟩
  rw [← hla, ← hsz9] at hRK
  have qq := hRK.q
  have qsz : ∀ j, j < 4 → -1 ≤ (fsz j).toInt ∧ (fsz j).toInt ≤ 24 := fun j hj => by rw [hfs j hj]; decide
  have hro0 : (fro 0).toInt = 0 := by rw [hro]; rfl
  have hro1 : (fro 1).toInt = 0 := by rw [hro]; rfl
  have hro2 : (fro 2).toInt = 0 := by rw [hro]; rfl
  have hla1 : (la (xs 1).toNatClampNeg).toInt = -1 := by rw [hla]; rfl
  have hfs1 : 0 ≤ (xs 1).toInt ∧ (xs 1).toInt ≤ 3 → (fsz (xs 1).toNatClampNeg).toInt = -1 := fun h9 => by rw [hfs _ (hw_i4 h9)]; rfl
  have hla2 : (la (xs 2).toNatClampNeg).toInt = -1 := by rw [hla]; rfl
  have hfs2 : 0 ≤ (xs 2).toInt ∧ (xs 2).toInt ≤ 3 → (fsz (xs 2).toNatClampNeg).toInt = -1 := fun h9 => by rw [hfs _ (hw_i4 h9)]; rfl
  have hla3 : (la (xs 3).toNatClampNeg).toInt = -1 := by rw [hla]; rfl
  have hfs3 : 0 ≤ (xs 3).toInt ∧ (xs 3).toInt ≤ 3 → (fsz (xs 3).toNatClampNeg).toInt = -1 := fun h9 => by rw [hfs _ (hw_i4 h9)]; rfl
  have hik1 : (fik (xs 1).toNatClampNeg).toInt = 0 := by rw [hik]; rfl
  refine lv_aload_n hx hb dL_law_885 rfl (lv_at hl 2 rfl) ?_
  refine lv_aload_n hx hb dL_law_886 rfl (lv_at hl 3 rfl) ?_
  refine lv_iload_n hx hb dL_law_887 rfl (lv_at hl 0 rfl) ?_
  refine lv_iconst (v := 1) hx hb dL_law_888 (by decide) ?_
  refine lv_iadd hx hb dL_law_889 ?_
  refine W.eq (g2 := F0 m 890 ls [.int 1, .ref b, .ref x]) rfl ?_
  refine va_sld hx hb hX hbl hbA hS (hw_in (x := 1) (by decide) (by have h9 : (1 : Int32).toInt = 1 := rfl; omega)) dL_law_890 ?_
  refine W.eq (g2 := F0 m 891 ls [.int (xs 1), .ref x]) rfl ?_
  refine lv_aload_n hx hb dL_law_891 rfl (lv_at hl 3 rfl) ?_
  refine lv_iload_n hx hb dL_law_892 rfl (lv_at hl 0 rfl) ?_
  refine lv_iconst (v := 2) hx hb dL_law_893 (by decide) ?_
  refine lv_iadd hx hb dL_law_894 ?_
  refine W.eq (g2 := F0 m 895 ls [.int 2, .ref b, .int (xs 1), .ref x]) rfl ?_
  refine va_sld hx hb hX hbl hbA hS (hw_in (x := 2) (by decide) (by have h9 : (2 : Int32).toInt = 2 := rfl; omega)) dL_law_895 ?_
  refine W.eq (g2 := F0 m 896 ls [.int (xs 2), .int (xs 1), .ref x]) rfl ?_
  refine lv_aload_n hx hb dL_law_896 rfl (lv_at hl 3 rfl) ?_
  refine lv_iload_n hx hb dL_law_897 rfl (lv_at hl 0 rfl) ?_
  refine lv_iconst (v := 3) hx hb dL_law_898 (by decide) ?_
  refine lv_iadd hx hb dL_law_899 ?_
  refine W.eq (g2 := F0 m 900 ls [.int 3, .ref b, .int (xs 2), .int (xs 1), .ref x]) rfl ?_
  refine va_sld hx hb hX hbl hbA hS (hw_in (x := 3) (by decide) (by have h9 : (3 : Int32).toInt = 3 := rfl; omega)) dL_law_900 ?_
  refine W.eq (g2 := F0 m 901 ls [.int (xs 3), .int (xs 2), .int (xs 1), .ref x]) rfl ?_
  refine lv_aload_n hx hb dL_law_901 rfl (lv_at hl 3 rfl) ?_
  refine lv_iload_n hx hb dL_law_902 rfl (lv_at hl 0 rfl) ?_
  refine lv_iconst (v := 4) hx hb dL_law_903 (by decide) ?_
  refine lv_iadd hx hb dL_law_904 ?_
  refine W.eq (g2 := F0 m 905 ls [.int 4, .ref b, .int (xs 3), .int (xs 2), .int (xs 1), .ref x]) rfl ?_
  refine va_sld hx hb hX hbl hbA hS (hw_in (x := 4) (by decide) (by have h9 : (4 : Int32).toInt = 4 := rfl; omega)) dL_law_905 ?_
  refine W.eq (g2 := F0 m 906 ls [.int (xs 4), .int (xs 3), .int (xs 2), .int (xs 1), .ref x]) rfl ?_
  refine lv_i2l hx hb dL_law_906 rfl ?_
  refine lv_topl (fun x1 e2 => ?_)
  have t3 : x1.toInt = (xs 4).toInt := by rw [e2]; exact hw_i2l _
  have rg4 := hw_rng (xs 4)
  refine lv_bipush (v := 32) hx hb dL_law_907 (by decide) ?_
  refine lv_lshl hx hb dL_law_909 rfl ?_
  refine lv_topl (fun x5 e6 => ?_)
  refine lv_aload_n hx hb dL_law_910 rfl (lv_at hl 3 rfl) ?_
  refine lv_iload_n hx hb dL_law_911 rfl (lv_at hl 0 rfl) ?_
  refine lv_iconst (v := 5) hx hb dL_law_912 (by decide) ?_
  refine lv_iadd hx hb dL_law_913 ?_
  refine W.eq (g2 := F0 m 914 ls [.int 5, .ref b, .long x5, .int (xs 3), .int (xs 2), .int (xs 1), .ref x]) rfl ?_
  refine va_sld hx hb hX hbl hbA hS (hw_in (x := 5) (by decide) (by have h9 : (5 : Int32).toInt = 5 := rfl; omega)) dL_law_914 ?_
  refine W.eq (g2 := F0 m 915 ls [.int (xs 5), .long x5, .int (xs 3), .int (xs 2), .int (xs 1), .ref x]) rfl ?_
  refine lv_i2l hx hb dL_law_915 rfl ?_
  refine lv_topl (fun x7 e8 => ?_)
  have t9 : x7.toInt = (xs 5).toInt := by rw [e8]; exact hw_i2l _
  have rg10 := hw_rng (xs 5)
  refine lv_ldc2 (v := 4294967295) hx hb hown (hts (.constantLong RL 126 (4294967295)) (by decide +kernel)) dL_law_916 ?_
  refine lv_land hx hb dL_law_919  ?_
  refine lv_topl (fun x11 e12 => ?_)
  refine lv_lor hx hb dL_law_920 ?_
  refine lv_topl (fun x13 e14 => ?_)
  refine hw_cM0 (va_runV (As := [.int (xs 1), .int (xs 2), .int (xs 3), .long x13]) (rest := []) ⟨hx, hb, hml, hown, hts⟩ (k_X11_hang l D G1 x (xs 1) (xs 2) (xs 3) x13 _ la sz9 rx 0 0 0 0 fq gx Rx ⟨by first | decide | omega, by first | decide | omega⟩ qq) (cwV 4 hts gL_law_X11_hang rfl rfl rfl (by decide +kernel) ⟨Nat.le_of_ble_eq_true rfl, Nat.le_of_ble_eq_true rfl⟩) (hw_pV (hw_rc (q := (RX11, TX11, 14)) hK vx rfl) hH hK hST hS (by decide) (hw_hG hGe1) ⟨vx, vq, hRK⟩) rfl rfl hl.1 rfl (lv_room (Nat.le_of_ble_eq_true rfl)) dL_law_921 ⟨Nat.le_of_ble_eq_true rfl, Nat.le_of_ble_eq_true rfl⟩) hS (hw_AWsub (by decide) hGe1 hS.1) (fun v H locs hp hz hk hS => ?_)
  have l15 : (0 : Int32).toInt = 0 := rfl
  rcases hp with ⟨rfl, hH, hRK, v16, v17, q18⟩ | ⟨rfl, hH, hRK, v19, v20, q21, q22⟩ | ⟨rfl, hH, hRK, v23, v24, q25, q26, q27⟩ | ⟨rfl, hH, hRK, v28, v29, q30, q31, q32, q33⟩ | ⟨rfl, hH, hRK, v34, v35, q36, q37, q38, q39, q40⟩ | ⟨rfl, hH, hRK, v41, v42, q43, q44, q45, q46, q47⟩
  · have vc := va_at.kept vc (hk _ (hw_lt vc) (hw_AWn (hw_RX_0 Rx) (by decide) (hw_lt vc)))
    have vt := va_at.kept vt (hk _ (hw_lt vt) (hw_AWn (hw_RX_1 Rx) (by decide) (hw_lt vt)))
    have vn := va_at.kept vn (hk _ (hw_lt vn) (hw_AWn (hw_RX_2 Rx) (by decide) (hw_lt vn)))
    have vm := va_at.kept vm (hk _ (hw_lt vm) (hw_AWn gm (by decide) (hw_lt vm)))
    have vro := va_at.kept vro (hk _ (hw_lt vro) (hw_AWn (hw_RM_0 Rm) (by decide) (hw_lt vro)))
    have vik := va_at.kept vik (hk _ (hw_lt vik) (hw_AWn (hw_RM_2 Rm) (by decide) (hw_lt vik)))
    have vla := va_at.kept vla (hk _ (hw_lt vla) (hw_AWn (hw_RM_41 Rm) (by decide) (hw_lt vla)))
    have vsz := va_at.kept vsz (hk _ (hw_lt vsz) (hw_AWn (hw_RM_42 Rm) (by decide) (hw_lt vsz)))
    refine lv_aload_n hx hb dL_law_924 rfl (lv_at hl 1 rfl) ?_
    refine lv_aload_n hx hb dL_law_925 rfl (lv_at hl 3 rfl) ?_
    refine lv_iload_n hx hb dL_law_926 rfl (lv_at hl 0 rfl) ?_
    refine lv_iconst (v := 1) hx hb dL_law_927 (by decide) ?_
    refine lv_iadd hx hb dL_law_928 ?_
    refine W.eq (g2 := F0 m 929 ls [.int 1, .ref b, .ref mo, .int (-2)]) rfl ?_
    refine va_sld hx hb hX hbl hbA hS (hw_in (x := 1) (by decide) (by have h9 : (1 : Int32).toInt = 1 := rfl; omega)) dL_law_929 ?_
    refine W.eq (g2 := F0 m 930 ls [.int (xs 1), .ref mo, .int (-2)]) rfl ?_
    refine lv_aload_n hx hb dL_law_930 rfl (lv_at hl 3 rfl) ?_
    refine lv_iload_n hx hb dL_law_931 rfl (lv_at hl 0 rfl) ?_
    refine lv_iconst (v := 2) hx hb dL_law_932 (by decide) ?_
    refine lv_iadd hx hb dL_law_933 ?_
    refine W.eq (g2 := F0 m 934 ls [.int 2, .ref b, .int (xs 1), .ref mo, .int (-2)]) rfl ?_
    refine va_sld hx hb hX hbl hbA hS (hw_in (x := 2) (by decide) (by have h9 : (2 : Int32).toInt = 2 := rfl; omega)) dL_law_934 ?_
    refine W.eq (g2 := F0 m 935 ls [.int (xs 2), .int (xs 1), .ref mo, .int (-2)]) rfl ?_
    refine lv_aload_n hx hb dL_law_935 rfl (lv_at hl 3 rfl) ?_
    refine lv_iload_n hx hb dL_law_936 rfl (lv_at hl 0 rfl) ?_
    refine lv_iconst (v := 3) hx hb dL_law_937 (by decide) ?_
    refine lv_iadd hx hb dL_law_938 ?_
    refine W.eq (g2 := F0 m 939 ls [.int 3, .ref b, .int (xs 2), .int (xs 1), .ref mo, .int (-2)]) rfl ?_
    refine va_sld hx hb hX hbl hbA hS (hw_in (x := 3) (by decide) (by have h9 : (3 : Int32).toInt = 3 := rfl; omega)) dL_law_939 ?_
    refine W.eq (g2 := F0 m 940 ls [.int (xs 3), .int (xs 2), .int (xs 1), .ref mo, .int (-2)]) rfl ?_
    refine lv_aload_n hx hb dL_law_940 rfl (lv_at hl 3 rfl) ?_
    refine lv_iload_n hx hb dL_law_941 rfl (lv_at hl 0 rfl) ?_
    refine lv_iconst (v := 4) hx hb dL_law_942 (by decide) ?_
    refine lv_iadd hx hb dL_law_943 ?_
    refine W.eq (g2 := F0 m 944 ls [.int 4, .ref b, .int (xs 3), .int (xs 2), .int (xs 1), .ref mo, .int (-2)]) rfl ?_
    refine va_sld hx hb hX hbl hbA hS (hw_in (x := 4) (by decide) (by have h9 : (4 : Int32).toInt = 4 := rfl; omega)) dL_law_944 ?_
    refine W.eq (g2 := F0 m 945 ls [.int (xs 4), .int (xs 3), .int (xs 2), .int (xs 1), .ref mo, .int (-2)]) rfl ?_
    refine lv_i2l hx hb dL_law_945 rfl ?_
    refine lv_topl (fun x48 e49 => ?_)
    have t50 : x48.toInt = (xs 4).toInt := by rw [e49]; exact hw_i2l _
    have rg51 := hw_rng (xs 4)
    refine lv_bipush (v := 32) hx hb dL_law_946 (by decide) ?_
    refine lv_lshl hx hb dL_law_948 rfl ?_
    refine lv_topl (fun x52 e53 => ?_)
    refine lv_aload_n hx hb dL_law_949 rfl (lv_at hl 3 rfl) ?_
    refine lv_iload_n hx hb dL_law_950 rfl (lv_at hl 0 rfl) ?_
    refine lv_iconst (v := 5) hx hb dL_law_951 (by decide) ?_
    refine lv_iadd hx hb dL_law_952 ?_
    refine W.eq (g2 := F0 m 953 ls [.int 5, .ref b, .long x52, .int (xs 3), .int (xs 2), .int (xs 1), .ref mo, .int (-2)]) rfl ?_
    refine va_sld hx hb hX hbl hbA hS (hw_in (x := 5) (by decide) (by have h9 : (5 : Int32).toInt = 5 := rfl; omega)) dL_law_953 ?_
    refine W.eq (g2 := F0 m 954 ls [.int (xs 5), .long x52, .int (xs 3), .int (xs 2), .int (xs 1), .ref mo, .int (-2)]) rfl ?_
    refine lv_i2l hx hb dL_law_954 rfl ?_
    refine lv_topl (fun x54 e55 => ?_)
    have t56 : x54.toInt = (xs 5).toInt := by rw [e55]; exact hw_i2l _
    have rg57 := hw_rng (xs 5)
    refine lv_ldc2 (v := 4294967295) hx hb hown (hts (.constantLong RL 126 (4294967295)) (by decide +kernel)) dL_law_955 ?_
    refine lv_land hx hb dL_law_958  ?_
    refine lv_topl (fun x58 e59 => ?_)
    refine lv_lor hx hb dL_law_959 ?_
    refine lv_topl (fun x60 e61 => ?_)
    refine hw_cM0 (va_runV (As := [.int (xs 1), .int (xs 2), .int (xs 3), .long x60]) (rest := [.int (-2)]) ⟨hx, hb, hml, hown, hts⟩ (k_X12_hang l D G1 mo (xs 1) (xs 2) (xs 3) x60 _ rm 0 0 0 0 60 0 0 0 0 0 0 0 0 0 fla fsz gm Rm ⟨by first | decide | omega, by first | decide | omega⟩ ⟨by first | decide | omega, by first | decide | omega⟩ ⟨by first | decide | omega, by first | decide | omega⟩ ⟨by first | decide | omega, by first | decide | omega⟩ ⟨by first | decide | omega, by first | decide | omega⟩ ⟨by first | decide | omega, by first | decide | omega⟩ ⟨by first | decide | omega, by first | decide | omega⟩ ⟨by first | decide | omega, by first | decide | omega⟩ ⟨by first | decide | omega, by first | decide | omega⟩ ⟨by first | decide | omega, by first | decide | omega⟩ ⟨by first | decide | omega, by first | decide | omega⟩ ⟨by first | decide | omega, by first | decide | omega⟩ qsz) (cwV 4 hts gL_law_X12_hang rfl rfl rfl (by decide +kernel) ⟨Nat.le_of_ble_eq_true rfl, Nat.le_of_ble_eq_true rfl⟩) (hw_pV (hw_rc (q := (RX12, TX12, 45)) hK vm rfl) hH hK hST hS (by decide) (hw_hG hGe1) ⟨vm, vla, vsz⟩) rfl rfl hl.1 rfl (lv_room (Nat.le_of_ble_eq_true rfl)) dL_law_960 ⟨Nat.le_of_ble_eq_true rfl, Nat.le_of_ble_eq_true rfl⟩) hS (hw_AWsub (by decide) hGe1 hS.1) (fun v H locs hp hz hk hS => ?_)
    have l62 : (60 : Int32).toInt = 60 := rfl
    rcases hp with ⟨rfl, hH, v63, v64, v65, q66⟩ | ⟨rfl, hH, v67, v68, v69, q70, q71⟩ | ⟨rfl, hH, v72, v73, v74, q75, q76, q77⟩ | ⟨rfl, hH, v78, v79, v80, q81, q82, q83, q84⟩ | ⟨rfl, hH, v85, v86, v87, q88, q89, q90, q91, q92⟩ | ⟨rfl, hH, v93, v94, v95, q96, q97, q98, q99, q100⟩
    · have hRK := hw_Racks.kept hRK (fun q9 h9 l9 => hk q9 l9 (hw_AWn h9 (by decide) l9))
      have v16 := va_at.kept v16 (hk _ (hw_lt v16) (hw_AWn gx (by decide) (hw_lt v16)))
      have vc := va_at.kept vc (hk _ (hw_lt vc) (hw_AWn (hw_RX_0 Rx) (by decide) (hw_lt vc)))
      have vt := va_at.kept vt (hk _ (hw_lt vt) (hw_AWn (hw_RX_1 Rx) (by decide) (hw_lt vt)))
      have vn := va_at.kept vn (hk _ (hw_lt vn) (hw_AWn (hw_RX_2 Rx) (by decide) (hw_lt vn)))
      have v17 := va_at.kept v17 (hk _ (hw_lt v17) (hw_AWn (hw_RX_13 Rx) (by decide) (hw_lt v17)))
      have vro := va_at.kept vro (hk _ (hw_lt vro) (hw_AWn (hw_RM_0 Rm) (by decide) (hw_lt vro)))
      have vik := va_at.kept vik (hk _ (hw_lt vik) (hw_AWn (hw_RM_2 Rm) (by decide) (hw_lt vik)))
      refine lv_icmp_eq (tgt := 1188) hx hb dL_law_963 (by decide) (fun c101 => ?_) (fun c101 => ?_)
      · refine lv_iinc (v := 6) (lv' := [(3, .int 6), (2, .ref mo), (1, .ref x), (0, .ref b)]) hx hb dL_law_1188 hl (k := 0) rfl (by rfl) (by decide) rfl (fun ls hl => ?_)
        refine lv_goto (tgt := 18) hx hb dL_law_1191 (by decide) ?_
        refine lv_iload_n hx hb dL_law_18 rfl (lv_at hl 0 rfl) ?_
        refine lv_aload_n hx hb dL_law_19 rfl (lv_at hl 3 rfl) ?_
        refine va_slen hx hb hX hbl hbA hS dL_law_20 ?_
        refine lv_bipush (v := 6) hx hb dL_law_21 (by decide) ?_
        refine lv_isub hx hb dL_law_23 ?_
        refine lv_topi (fun x102 e103 => ?_)
        have t104 : x102.toInt = (Int32.ofNat L).toInt - 6 := by rw [e103]; exact hw_sub rfl rfl (by omega) (by omega)
        refine lv_icmp_gt (tgt := 1194) hx hb dL_law_24 (by decide) (fun c105 => ?_) (fun c105 => ?_)
        · have b106 : x102.toInt < 6 := hw_ilt c105
          refine lv_iconst (v := 1) hx hb dL_law_1194 (by decide) ?_
          have hfg := hw_hfg hG0 (by decide) hS.2.2
          refine va_forget hfg ?_
          refine W.widen (k := 600000) (n := 7302250) (by decide) (by decide) ?_
          exact lw_ret hx hb hr hlocks dL_law_1195
        · have b107 : 6 ≤ x102.toInt := hw_inlt c105
          exfalso; omega
      · exact absurd c101 (by decide)
    · have hRK := hw_Racks.kept hRK (fun q9 h9 l9 => hk q9 l9 (hw_AWn h9 (by decide) l9))
      have v16 := va_at.kept v16 (hk _ (hw_lt v16) (hw_AWn gx (by decide) (hw_lt v16)))
      have vc := va_at.kept vc (hk _ (hw_lt vc) (hw_AWn (hw_RX_0 Rx) (by decide) (hw_lt vc)))
      have vt := va_at.kept vt (hk _ (hw_lt vt) (hw_AWn (hw_RX_1 Rx) (by decide) (hw_lt vt)))
      have vn := va_at.kept vn (hk _ (hw_lt vn) (hw_AWn (hw_RX_2 Rx) (by decide) (hw_lt vn)))
      have v17 := va_at.kept v17 (hk _ (hw_lt v17) (hw_AWn (hw_RX_13 Rx) (by decide) (hw_lt v17)))
      have vro := va_at.kept vro (hk _ (hw_lt vro) (hw_AWn (hw_RM_0 Rm) (by decide) (hw_lt vro)))
      have vik := va_at.kept vik (hk _ (hw_lt vik) (hw_AWn (hw_RM_2 Rm) (by decide) (hw_lt vik)))
      refine lv_icmp_eq (tgt := 1188) hx hb dL_law_963 (by decide) (fun c108 => ?_) (fun c108 => ?_)
      · exact absurd c108 (by decide)
      · exfalso
        first | omega | contradiction | (subst_vars; omega)
    · have hRK := hw_Racks.kept hRK (fun q9 h9 l9 => hk q9 l9 (hw_AWn h9 (by decide) l9))
      have v16 := va_at.kept v16 (hk _ (hw_lt v16) (hw_AWn gx (by decide) (hw_lt v16)))
      have vc := va_at.kept vc (hk _ (hw_lt vc) (hw_AWn (hw_RX_0 Rx) (by decide) (hw_lt vc)))
      have vt := va_at.kept vt (hk _ (hw_lt vt) (hw_AWn (hw_RX_1 Rx) (by decide) (hw_lt vt)))
      have vn := va_at.kept vn (hk _ (hw_lt vn) (hw_AWn (hw_RX_2 Rx) (by decide) (hw_lt vn)))
      have v17 := va_at.kept v17 (hk _ (hw_lt v17) (hw_AWn (hw_RX_13 Rx) (by decide) (hw_lt v17)))
      have vro := va_at.kept vro (hk _ (hw_lt vro) (hw_AWn (hw_RM_0 Rm) (by decide) (hw_lt vro)))
      have vik := va_at.kept vik (hk _ (hw_lt vik) (hw_AWn (hw_RM_2 Rm) (by decide) (hw_lt vik)))
      refine lv_icmp_eq (tgt := 1188) hx hb dL_law_963 (by decide) (fun c109 => ?_) (fun c109 => ?_)
      · exact absurd c109 (by decide)
      · exfalso
        first | omega | contradiction | (subst_vars; omega)
    · have hRK := hw_Racks.kept hRK (fun q9 h9 l9 => hk q9 l9 (hw_AWn h9 (by decide) l9))
      have v16 := va_at.kept v16 (hk _ (hw_lt v16) (hw_AWn gx (by decide) (hw_lt v16)))
      have vc := va_at.kept vc (hk _ (hw_lt vc) (hw_AWn (hw_RX_0 Rx) (by decide) (hw_lt vc)))
      have vt := va_at.kept vt (hk _ (hw_lt vt) (hw_AWn (hw_RX_1 Rx) (by decide) (hw_lt vt)))
      have vn := va_at.kept vn (hk _ (hw_lt vn) (hw_AWn (hw_RX_2 Rx) (by decide) (hw_lt vn)))
      have v17 := va_at.kept v17 (hk _ (hw_lt v17) (hw_AWn (hw_RX_13 Rx) (by decide) (hw_lt v17)))
      have vro := va_at.kept vro (hk _ (hw_lt vro) (hw_AWn (hw_RM_0 Rm) (by decide) (hw_lt vro)))
      have vik := va_at.kept vik (hk _ (hw_lt vik) (hw_AWn (hw_RM_2 Rm) (by decide) (hw_lt vik)))
      refine lv_icmp_eq (tgt := 1188) hx hb dL_law_963 (by decide) (fun c110 => ?_) (fun c110 => ?_)
      · exact absurd c110 (by decide)
      · exfalso
        first | omega | contradiction | (subst_vars; omega)
    · have hRK := hw_Racks.kept hRK (fun q9 h9 l9 => hk q9 l9 (hw_AWn h9 (by decide) l9))
      have v16 := va_at.kept v16 (hk _ (hw_lt v16) (hw_AWn gx (by decide) (hw_lt v16)))
      have vc := va_at.kept vc (hk _ (hw_lt vc) (hw_AWn (hw_RX_0 Rx) (by decide) (hw_lt vc)))
      have vt := va_at.kept vt (hk _ (hw_lt vt) (hw_AWn (hw_RX_1 Rx) (by decide) (hw_lt vt)))
      have vn := va_at.kept vn (hk _ (hw_lt vn) (hw_AWn (hw_RX_2 Rx) (by decide) (hw_lt vn)))
      have v17 := va_at.kept v17 (hk _ (hw_lt v17) (hw_AWn (hw_RX_13 Rx) (by decide) (hw_lt v17)))
      have vro := va_at.kept vro (hk _ (hw_lt vro) (hw_AWn (hw_RM_0 Rm) (by decide) (hw_lt vro)))
      have vik := va_at.kept vik (hk _ (hw_lt vik) (hw_AWn (hw_RM_2 Rm) (by decide) (hw_lt vik)))
      refine lv_icmp_eq (tgt := 1188) hx hb dL_law_963 (by decide) (fun c111 => ?_) (fun c111 => ?_)
      · exact absurd c111 (by decide)
      · exfalso
        first | omega | contradiction | (subst_vars; omega)
    · have hRK := hw_Racks.kept hRK (fun q9 h9 l9 => hk q9 l9 (hw_AWn h9 (by decide) l9))
      have v16 := va_at.kept v16 (hk _ (hw_lt v16) (hw_AWn gx (by decide) (hw_lt v16)))
      have vc := va_at.kept vc (hk _ (hw_lt vc) (hw_AWn (hw_RX_0 Rx) (by decide) (hw_lt vc)))
      have vt := va_at.kept vt (hk _ (hw_lt vt) (hw_AWn (hw_RX_1 Rx) (by decide) (hw_lt vt)))
      have vn := va_at.kept vn (hk _ (hw_lt vn) (hw_AWn (hw_RX_2 Rx) (by decide) (hw_lt vn)))
      have v17 := va_at.kept v17 (hk _ (hw_lt v17) (hw_AWn (hw_RX_13 Rx) (by decide) (hw_lt v17)))
      have vro := va_at.kept vro (hk _ (hw_lt vro) (hw_AWn (hw_RM_0 Rm) (by decide) (hw_lt vro)))
      have vik := va_at.kept vik (hk _ (hw_lt vik) (hw_AWn (hw_RM_2 Rm) (by decide) (hw_lt vik)))
      refine lv_icmp_eq (tgt := 1188) hx hb dL_law_963 (by decide) (fun c112 => ?_) (fun c112 => ?_)
      · exact absurd c112 (by decide)
      · exfalso
        first | omega | contradiction | (subst_vars; omega)
  · have vc := va_at.kept vc (hk _ (hw_lt vc) (hw_AWn (hw_RX_0 Rx) (by decide) (hw_lt vc)))
    have vt := va_at.kept vt (hk _ (hw_lt vt) (hw_AWn (hw_RX_1 Rx) (by decide) (hw_lt vt)))
    have vn := va_at.kept vn (hk _ (hw_lt vn) (hw_AWn (hw_RX_2 Rx) (by decide) (hw_lt vn)))
    have vm := va_at.kept vm (hk _ (hw_lt vm) (hw_AWn gm (by decide) (hw_lt vm)))
    have vro := va_at.kept vro (hk _ (hw_lt vro) (hw_AWn (hw_RM_0 Rm) (by decide) (hw_lt vro)))
    have vik := va_at.kept vik (hk _ (hw_lt vik) (hw_AWn (hw_RM_2 Rm) (by decide) (hw_lt vik)))
    have vla := va_at.kept vla (hk _ (hw_lt vla) (hw_AWn (hw_RM_41 Rm) (by decide) (hw_lt vla)))
    have vsz := va_at.kept vsz (hk _ (hw_lt vsz) (hw_AWn (hw_RM_42 Rm) (by decide) (hw_lt vsz)))
    refine lv_aload_n hx hb dL_law_924 rfl (lv_at hl 1 rfl) ?_
    refine lv_aload_n hx hb dL_law_925 rfl (lv_at hl 3 rfl) ?_
    refine lv_iload_n hx hb dL_law_926 rfl (lv_at hl 0 rfl) ?_
    refine lv_iconst (v := 1) hx hb dL_law_927 (by decide) ?_
    refine lv_iadd hx hb dL_law_928 ?_
    refine W.eq (g2 := F0 m 929 ls [.int 1, .ref b, .ref mo, .int (-3)]) rfl ?_
    refine va_sld hx hb hX hbl hbA hS (hw_in (x := 1) (by decide) (by have h9 : (1 : Int32).toInt = 1 := rfl; omega)) dL_law_929 ?_
    refine W.eq (g2 := F0 m 930 ls [.int (xs 1), .ref mo, .int (-3)]) rfl ?_
    refine lv_aload_n hx hb dL_law_930 rfl (lv_at hl 3 rfl) ?_
    refine lv_iload_n hx hb dL_law_931 rfl (lv_at hl 0 rfl) ?_
    refine lv_iconst (v := 2) hx hb dL_law_932 (by decide) ?_
    refine lv_iadd hx hb dL_law_933 ?_
    refine W.eq (g2 := F0 m 934 ls [.int 2, .ref b, .int (xs 1), .ref mo, .int (-3)]) rfl ?_
    refine va_sld hx hb hX hbl hbA hS (hw_in (x := 2) (by decide) (by have h9 : (2 : Int32).toInt = 2 := rfl; omega)) dL_law_934 ?_
    refine W.eq (g2 := F0 m 935 ls [.int (xs 2), .int (xs 1), .ref mo, .int (-3)]) rfl ?_
    refine lv_aload_n hx hb dL_law_935 rfl (lv_at hl 3 rfl) ?_
    refine lv_iload_n hx hb dL_law_936 rfl (lv_at hl 0 rfl) ?_
    refine lv_iconst (v := 3) hx hb dL_law_937 (by decide) ?_
    refine lv_iadd hx hb dL_law_938 ?_
    refine W.eq (g2 := F0 m 939 ls [.int 3, .ref b, .int (xs 2), .int (xs 1), .ref mo, .int (-3)]) rfl ?_
    refine va_sld hx hb hX hbl hbA hS (hw_in (x := 3) (by decide) (by have h9 : (3 : Int32).toInt = 3 := rfl; omega)) dL_law_939 ?_
    refine W.eq (g2 := F0 m 940 ls [.int (xs 3), .int (xs 2), .int (xs 1), .ref mo, .int (-3)]) rfl ?_
    refine lv_aload_n hx hb dL_law_940 rfl (lv_at hl 3 rfl) ?_
    refine lv_iload_n hx hb dL_law_941 rfl (lv_at hl 0 rfl) ?_
    refine lv_iconst (v := 4) hx hb dL_law_942 (by decide) ?_
    refine lv_iadd hx hb dL_law_943 ?_
    refine W.eq (g2 := F0 m 944 ls [.int 4, .ref b, .int (xs 3), .int (xs 2), .int (xs 1), .ref mo, .int (-3)]) rfl ?_
    refine va_sld hx hb hX hbl hbA hS (hw_in (x := 4) (by decide) (by have h9 : (4 : Int32).toInt = 4 := rfl; omega)) dL_law_944 ?_
    refine W.eq (g2 := F0 m 945 ls [.int (xs 4), .int (xs 3), .int (xs 2), .int (xs 1), .ref mo, .int (-3)]) rfl ?_
    refine lv_i2l hx hb dL_law_945 rfl ?_
    refine lv_topl (fun x113 e114 => ?_)
    have t115 : x113.toInt = (xs 4).toInt := by rw [e114]; exact hw_i2l _
    have rg116 := hw_rng (xs 4)
    refine lv_bipush (v := 32) hx hb dL_law_946 (by decide) ?_
    refine lv_lshl hx hb dL_law_948 rfl ?_
    refine lv_topl (fun x117 e118 => ?_)
    refine lv_aload_n hx hb dL_law_949 rfl (lv_at hl 3 rfl) ?_
    refine lv_iload_n hx hb dL_law_950 rfl (lv_at hl 0 rfl) ?_
    refine lv_iconst (v := 5) hx hb dL_law_951 (by decide) ?_
    refine lv_iadd hx hb dL_law_952 ?_
    refine W.eq (g2 := F0 m 953 ls [.int 5, .ref b, .long x117, .int (xs 3), .int (xs 2), .int (xs 1), .ref mo, .int (-3)]) rfl ?_
    refine va_sld hx hb hX hbl hbA hS (hw_in (x := 5) (by decide) (by have h9 : (5 : Int32).toInt = 5 := rfl; omega)) dL_law_953 ?_
    refine W.eq (g2 := F0 m 954 ls [.int (xs 5), .long x117, .int (xs 3), .int (xs 2), .int (xs 1), .ref mo, .int (-3)]) rfl ?_
    refine lv_i2l hx hb dL_law_954 rfl ?_
    refine lv_topl (fun x119 e120 => ?_)
    have t121 : x119.toInt = (xs 5).toInt := by rw [e120]; exact hw_i2l _
    have rg122 := hw_rng (xs 5)
    refine lv_ldc2 (v := 4294967295) hx hb hown (hts (.constantLong RL 126 (4294967295)) (by decide +kernel)) dL_law_955 ?_
    refine lv_land hx hb dL_law_958  ?_
    refine lv_topl (fun x123 e124 => ?_)
    refine lv_lor hx hb dL_law_959 ?_
    refine lv_topl (fun x125 e126 => ?_)
    refine hw_cM0 (va_runV (As := [.int (xs 1), .int (xs 2), .int (xs 3), .long x125]) (rest := [.int (-3)]) ⟨hx, hb, hml, hown, hts⟩ (k_X12_hang l D G1 mo (xs 1) (xs 2) (xs 3) x125 _ rm 0 0 0 0 60 0 0 0 0 0 0 0 0 0 fla fsz gm Rm ⟨by first | decide | omega, by first | decide | omega⟩ ⟨by first | decide | omega, by first | decide | omega⟩ ⟨by first | decide | omega, by first | decide | omega⟩ ⟨by first | decide | omega, by first | decide | omega⟩ ⟨by first | decide | omega, by first | decide | omega⟩ ⟨by first | decide | omega, by first | decide | omega⟩ ⟨by first | decide | omega, by first | decide | omega⟩ ⟨by first | decide | omega, by first | decide | omega⟩ ⟨by first | decide | omega, by first | decide | omega⟩ ⟨by first | decide | omega, by first | decide | omega⟩ ⟨by first | decide | omega, by first | decide | omega⟩ ⟨by first | decide | omega, by first | decide | omega⟩ qsz) (cwV 4 hts gL_law_X12_hang rfl rfl rfl (by decide +kernel) ⟨Nat.le_of_ble_eq_true rfl, Nat.le_of_ble_eq_true rfl⟩) (hw_pV (hw_rc (q := (RX12, TX12, 45)) hK vm rfl) hH hK hST hS (by decide) (hw_hG hGe1) ⟨vm, vla, vsz⟩) rfl rfl hl.1 rfl (lv_room (Nat.le_of_ble_eq_true rfl)) dL_law_960 ⟨Nat.le_of_ble_eq_true rfl, Nat.le_of_ble_eq_true rfl⟩) hS (hw_AWsub (by decide) hGe1 hS.1) (fun v H locs hp hz hk hS => ?_)
    have l127 : (60 : Int32).toInt = 60 := rfl
    rcases hp with ⟨rfl, hH, v128, v129, v130, q131⟩ | ⟨rfl, hH, v132, v133, v134, q135, q136⟩ | ⟨rfl, hH, v137, v138, v139, q140, q141, q142⟩ | ⟨rfl, hH, v143, v144, v145, q146, q147, q148, q149⟩ | ⟨rfl, hH, v150, v151, v152, q153, q154, q155, q156, q157⟩ | ⟨rfl, hH, v158, v159, v160, q161, q162, q163, q164, q165⟩
    · have hRK := hw_Racks.kept hRK (fun q9 h9 l9 => hk q9 l9 (hw_AWn h9 (by decide) l9))
      have v19 := va_at.kept v19 (hk _ (hw_lt v19) (hw_AWn gx (by decide) (hw_lt v19)))
      have vc := va_at.kept vc (hk _ (hw_lt vc) (hw_AWn (hw_RX_0 Rx) (by decide) (hw_lt vc)))
      have vt := va_at.kept vt (hk _ (hw_lt vt) (hw_AWn (hw_RX_1 Rx) (by decide) (hw_lt vt)))
      have vn := va_at.kept vn (hk _ (hw_lt vn) (hw_AWn (hw_RX_2 Rx) (by decide) (hw_lt vn)))
      have v20 := va_at.kept v20 (hk _ (hw_lt v20) (hw_AWn (hw_RX_13 Rx) (by decide) (hw_lt v20)))
      have vro := va_at.kept vro (hk _ (hw_lt vro) (hw_AWn (hw_RM_0 Rm) (by decide) (hw_lt vro)))
      have vik := va_at.kept vik (hk _ (hw_lt vik) (hw_AWn (hw_RM_2 Rm) (by decide) (hw_lt vik)))
      refine lv_icmp_eq (tgt := 1188) hx hb dL_law_963 (by decide) (fun c166 => ?_) (fun c166 => ?_)
      · exact absurd c166 (by decide)
      · exfalso
        first | omega | contradiction | (subst_vars; omega)
    · have hRK := hw_Racks.kept hRK (fun q9 h9 l9 => hk q9 l9 (hw_AWn h9 (by decide) l9))
      have v19 := va_at.kept v19 (hk _ (hw_lt v19) (hw_AWn gx (by decide) (hw_lt v19)))
      have vc := va_at.kept vc (hk _ (hw_lt vc) (hw_AWn (hw_RX_0 Rx) (by decide) (hw_lt vc)))
      have vt := va_at.kept vt (hk _ (hw_lt vt) (hw_AWn (hw_RX_1 Rx) (by decide) (hw_lt vt)))
      have vn := va_at.kept vn (hk _ (hw_lt vn) (hw_AWn (hw_RX_2 Rx) (by decide) (hw_lt vn)))
      have v20 := va_at.kept v20 (hk _ (hw_lt v20) (hw_AWn (hw_RX_13 Rx) (by decide) (hw_lt v20)))
      have vro := va_at.kept vro (hk _ (hw_lt vro) (hw_AWn (hw_RM_0 Rm) (by decide) (hw_lt vro)))
      have vik := va_at.kept vik (hk _ (hw_lt vik) (hw_AWn (hw_RM_2 Rm) (by decide) (hw_lt vik)))
      refine lv_icmp_eq (tgt := 1188) hx hb dL_law_963 (by decide) (fun c167 => ?_) (fun c167 => ?_)
      · refine lv_iinc (v := 6) (lv' := [(3, .int 6), (2, .ref mo), (1, .ref x), (0, .ref b)]) hx hb dL_law_1188 hl (k := 0) rfl (by rfl) (by decide) rfl (fun ls hl => ?_)
        refine lv_goto (tgt := 18) hx hb dL_law_1191 (by decide) ?_
        refine lv_iload_n hx hb dL_law_18 rfl (lv_at hl 0 rfl) ?_
        refine lv_aload_n hx hb dL_law_19 rfl (lv_at hl 3 rfl) ?_
        refine va_slen hx hb hX hbl hbA hS dL_law_20 ?_
        refine lv_bipush (v := 6) hx hb dL_law_21 (by decide) ?_
        refine lv_isub hx hb dL_law_23 ?_
        refine lv_topi (fun x168 e169 => ?_)
        have t170 : x168.toInt = (Int32.ofNat L).toInt - 6 := by rw [e169]; exact hw_sub rfl rfl (by omega) (by omega)
        refine lv_icmp_gt (tgt := 1194) hx hb dL_law_24 (by decide) (fun c171 => ?_) (fun c171 => ?_)
        · have b172 : x168.toInt < 6 := hw_ilt c171
          refine lv_iconst (v := 1) hx hb dL_law_1194 (by decide) ?_
          have hfg := hw_hfg hG0 (by decide) hS.2.2
          refine va_forget hfg ?_
          refine W.widen (k := 600000) (n := 7302250) (by decide) (by decide) ?_
          exact lw_ret hx hb hr hlocks dL_law_1195
        · have b173 : 6 ≤ x168.toInt := hw_inlt c171
          exfalso; omega
      · exact absurd c167 (by decide)
    · have hRK := hw_Racks.kept hRK (fun q9 h9 l9 => hk q9 l9 (hw_AWn h9 (by decide) l9))
      have v19 := va_at.kept v19 (hk _ (hw_lt v19) (hw_AWn gx (by decide) (hw_lt v19)))
      have vc := va_at.kept vc (hk _ (hw_lt vc) (hw_AWn (hw_RX_0 Rx) (by decide) (hw_lt vc)))
      have vt := va_at.kept vt (hk _ (hw_lt vt) (hw_AWn (hw_RX_1 Rx) (by decide) (hw_lt vt)))
      have vn := va_at.kept vn (hk _ (hw_lt vn) (hw_AWn (hw_RX_2 Rx) (by decide) (hw_lt vn)))
      have v20 := va_at.kept v20 (hk _ (hw_lt v20) (hw_AWn (hw_RX_13 Rx) (by decide) (hw_lt v20)))
      have vro := va_at.kept vro (hk _ (hw_lt vro) (hw_AWn (hw_RM_0 Rm) (by decide) (hw_lt vro)))
      have vik := va_at.kept vik (hk _ (hw_lt vik) (hw_AWn (hw_RM_2 Rm) (by decide) (hw_lt vik)))
      refine lv_icmp_eq (tgt := 1188) hx hb dL_law_963 (by decide) (fun c174 => ?_) (fun c174 => ?_)
      · exact absurd c174 (by decide)
      · exfalso
        first | omega | contradiction | (subst_vars; omega)
    · have hRK := hw_Racks.kept hRK (fun q9 h9 l9 => hk q9 l9 (hw_AWn h9 (by decide) l9))
      have v19 := va_at.kept v19 (hk _ (hw_lt v19) (hw_AWn gx (by decide) (hw_lt v19)))
      have vc := va_at.kept vc (hk _ (hw_lt vc) (hw_AWn (hw_RX_0 Rx) (by decide) (hw_lt vc)))
      have vt := va_at.kept vt (hk _ (hw_lt vt) (hw_AWn (hw_RX_1 Rx) (by decide) (hw_lt vt)))
      have vn := va_at.kept vn (hk _ (hw_lt vn) (hw_AWn (hw_RX_2 Rx) (by decide) (hw_lt vn)))
      have v20 := va_at.kept v20 (hk _ (hw_lt v20) (hw_AWn (hw_RX_13 Rx) (by decide) (hw_lt v20)))
      have vro := va_at.kept vro (hk _ (hw_lt vro) (hw_AWn (hw_RM_0 Rm) (by decide) (hw_lt vro)))
      have vik := va_at.kept vik (hk _ (hw_lt vik) (hw_AWn (hw_RM_2 Rm) (by decide) (hw_lt vik)))
      refine lv_icmp_eq (tgt := 1188) hx hb dL_law_963 (by decide) (fun c175 => ?_) (fun c175 => ?_)
      · exact absurd c175 (by decide)
      · exfalso
        first | omega | contradiction | (subst_vars; omega)
    · have hRK := hw_Racks.kept hRK (fun q9 h9 l9 => hk q9 l9 (hw_AWn h9 (by decide) l9))
      have v19 := va_at.kept v19 (hk _ (hw_lt v19) (hw_AWn gx (by decide) (hw_lt v19)))
      have vc := va_at.kept vc (hk _ (hw_lt vc) (hw_AWn (hw_RX_0 Rx) (by decide) (hw_lt vc)))
      have vt := va_at.kept vt (hk _ (hw_lt vt) (hw_AWn (hw_RX_1 Rx) (by decide) (hw_lt vt)))
      have vn := va_at.kept vn (hk _ (hw_lt vn) (hw_AWn (hw_RX_2 Rx) (by decide) (hw_lt vn)))
      have v20 := va_at.kept v20 (hk _ (hw_lt v20) (hw_AWn (hw_RX_13 Rx) (by decide) (hw_lt v20)))
      have vro := va_at.kept vro (hk _ (hw_lt vro) (hw_AWn (hw_RM_0 Rm) (by decide) (hw_lt vro)))
      have vik := va_at.kept vik (hk _ (hw_lt vik) (hw_AWn (hw_RM_2 Rm) (by decide) (hw_lt vik)))
      refine lv_icmp_eq (tgt := 1188) hx hb dL_law_963 (by decide) (fun c176 => ?_) (fun c176 => ?_)
      · exact absurd c176 (by decide)
      · exfalso
        first | omega | contradiction | (subst_vars; omega)
    · have hRK := hw_Racks.kept hRK (fun q9 h9 l9 => hk q9 l9 (hw_AWn h9 (by decide) l9))
      have v19 := va_at.kept v19 (hk _ (hw_lt v19) (hw_AWn gx (by decide) (hw_lt v19)))
      have vc := va_at.kept vc (hk _ (hw_lt vc) (hw_AWn (hw_RX_0 Rx) (by decide) (hw_lt vc)))
      have vt := va_at.kept vt (hk _ (hw_lt vt) (hw_AWn (hw_RX_1 Rx) (by decide) (hw_lt vt)))
      have vn := va_at.kept vn (hk _ (hw_lt vn) (hw_AWn (hw_RX_2 Rx) (by decide) (hw_lt vn)))
      have v20 := va_at.kept v20 (hk _ (hw_lt v20) (hw_AWn (hw_RX_13 Rx) (by decide) (hw_lt v20)))
      have vro := va_at.kept vro (hk _ (hw_lt vro) (hw_AWn (hw_RM_0 Rm) (by decide) (hw_lt vro)))
      have vik := va_at.kept vik (hk _ (hw_lt vik) (hw_AWn (hw_RM_2 Rm) (by decide) (hw_lt vik)))
      refine lv_icmp_eq (tgt := 1188) hx hb dL_law_963 (by decide) (fun c177 => ?_) (fun c177 => ?_)
      · exact absurd c177 (by decide)
      · exfalso
        first | omega | contradiction | (subst_vars; omega)
  · have vc := va_at.kept vc (hk _ (hw_lt vc) (hw_AWn (hw_RX_0 Rx) (by decide) (hw_lt vc)))
    have vt := va_at.kept vt (hk _ (hw_lt vt) (hw_AWn (hw_RX_1 Rx) (by decide) (hw_lt vt)))
    have vn := va_at.kept vn (hk _ (hw_lt vn) (hw_AWn (hw_RX_2 Rx) (by decide) (hw_lt vn)))
    have vm := va_at.kept vm (hk _ (hw_lt vm) (hw_AWn gm (by decide) (hw_lt vm)))
    have vro := va_at.kept vro (hk _ (hw_lt vro) (hw_AWn (hw_RM_0 Rm) (by decide) (hw_lt vro)))
    have vik := va_at.kept vik (hk _ (hw_lt vik) (hw_AWn (hw_RM_2 Rm) (by decide) (hw_lt vik)))
    have vla := va_at.kept vla (hk _ (hw_lt vla) (hw_AWn (hw_RM_41 Rm) (by decide) (hw_lt vla)))
    have vsz := va_at.kept vsz (hk _ (hw_lt vsz) (hw_AWn (hw_RM_42 Rm) (by decide) (hw_lt vsz)))
    refine lv_aload_n hx hb dL_law_924 rfl (lv_at hl 1 rfl) ?_
    refine lv_aload_n hx hb dL_law_925 rfl (lv_at hl 3 rfl) ?_
    refine lv_iload_n hx hb dL_law_926 rfl (lv_at hl 0 rfl) ?_
    refine lv_iconst (v := 1) hx hb dL_law_927 (by decide) ?_
    refine lv_iadd hx hb dL_law_928 ?_
    refine W.eq (g2 := F0 m 929 ls [.int 1, .ref b, .ref mo, .int (-11)]) rfl ?_
    refine va_sld hx hb hX hbl hbA hS (hw_in (x := 1) (by decide) (by have h9 : (1 : Int32).toInt = 1 := rfl; omega)) dL_law_929 ?_
    refine W.eq (g2 := F0 m 930 ls [.int (xs 1), .ref mo, .int (-11)]) rfl ?_
    refine lv_aload_n hx hb dL_law_930 rfl (lv_at hl 3 rfl) ?_
    refine lv_iload_n hx hb dL_law_931 rfl (lv_at hl 0 rfl) ?_
    refine lv_iconst (v := 2) hx hb dL_law_932 (by decide) ?_
    refine lv_iadd hx hb dL_law_933 ?_
    refine W.eq (g2 := F0 m 934 ls [.int 2, .ref b, .int (xs 1), .ref mo, .int (-11)]) rfl ?_
    refine va_sld hx hb hX hbl hbA hS (hw_in (x := 2) (by decide) (by have h9 : (2 : Int32).toInt = 2 := rfl; omega)) dL_law_934 ?_
    refine W.eq (g2 := F0 m 935 ls [.int (xs 2), .int (xs 1), .ref mo, .int (-11)]) rfl ?_
    refine lv_aload_n hx hb dL_law_935 rfl (lv_at hl 3 rfl) ?_
    refine lv_iload_n hx hb dL_law_936 rfl (lv_at hl 0 rfl) ?_
    refine lv_iconst (v := 3) hx hb dL_law_937 (by decide) ?_
    refine lv_iadd hx hb dL_law_938 ?_
    refine W.eq (g2 := F0 m 939 ls [.int 3, .ref b, .int (xs 2), .int (xs 1), .ref mo, .int (-11)]) rfl ?_
    refine va_sld hx hb hX hbl hbA hS (hw_in (x := 3) (by decide) (by have h9 : (3 : Int32).toInt = 3 := rfl; omega)) dL_law_939 ?_
    refine W.eq (g2 := F0 m 940 ls [.int (xs 3), .int (xs 2), .int (xs 1), .ref mo, .int (-11)]) rfl ?_
    refine lv_aload_n hx hb dL_law_940 rfl (lv_at hl 3 rfl) ?_
    refine lv_iload_n hx hb dL_law_941 rfl (lv_at hl 0 rfl) ?_
    refine lv_iconst (v := 4) hx hb dL_law_942 (by decide) ?_
    refine lv_iadd hx hb dL_law_943 ?_
    refine W.eq (g2 := F0 m 944 ls [.int 4, .ref b, .int (xs 3), .int (xs 2), .int (xs 1), .ref mo, .int (-11)]) rfl ?_
    refine va_sld hx hb hX hbl hbA hS (hw_in (x := 4) (by decide) (by have h9 : (4 : Int32).toInt = 4 := rfl; omega)) dL_law_944 ?_
    refine W.eq (g2 := F0 m 945 ls [.int (xs 4), .int (xs 3), .int (xs 2), .int (xs 1), .ref mo, .int (-11)]) rfl ?_
    refine lv_i2l hx hb dL_law_945 rfl ?_
    refine lv_topl (fun x178 e179 => ?_)
    have t180 : x178.toInt = (xs 4).toInt := by rw [e179]; exact hw_i2l _
    have rg181 := hw_rng (xs 4)
    refine lv_bipush (v := 32) hx hb dL_law_946 (by decide) ?_
    refine lv_lshl hx hb dL_law_948 rfl ?_
    refine lv_topl (fun x182 e183 => ?_)
    refine lv_aload_n hx hb dL_law_949 rfl (lv_at hl 3 rfl) ?_
    refine lv_iload_n hx hb dL_law_950 rfl (lv_at hl 0 rfl) ?_
    refine lv_iconst (v := 5) hx hb dL_law_951 (by decide) ?_
    refine lv_iadd hx hb dL_law_952 ?_
    refine W.eq (g2 := F0 m 953 ls [.int 5, .ref b, .long x182, .int (xs 3), .int (xs 2), .int (xs 1), .ref mo, .int (-11)]) rfl ?_
    refine va_sld hx hb hX hbl hbA hS (hw_in (x := 5) (by decide) (by have h9 : (5 : Int32).toInt = 5 := rfl; omega)) dL_law_953 ?_
    refine W.eq (g2 := F0 m 954 ls [.int (xs 5), .long x182, .int (xs 3), .int (xs 2), .int (xs 1), .ref mo, .int (-11)]) rfl ?_
    refine lv_i2l hx hb dL_law_954 rfl ?_
    refine lv_topl (fun x184 e185 => ?_)
    have t186 : x184.toInt = (xs 5).toInt := by rw [e185]; exact hw_i2l _
    have rg187 := hw_rng (xs 5)
    refine lv_ldc2 (v := 4294967295) hx hb hown (hts (.constantLong RL 126 (4294967295)) (by decide +kernel)) dL_law_955 ?_
    refine lv_land hx hb dL_law_958  ?_
    refine lv_topl (fun x188 e189 => ?_)
    refine lv_lor hx hb dL_law_959 ?_
    refine lv_topl (fun x190 e191 => ?_)
    refine hw_cM0 (va_runV (As := [.int (xs 1), .int (xs 2), .int (xs 3), .long x190]) (rest := [.int (-11)]) ⟨hx, hb, hml, hown, hts⟩ (k_X12_hang l D G1 mo (xs 1) (xs 2) (xs 3) x190 _ rm 0 0 0 0 60 0 0 0 0 0 0 0 0 0 fla fsz gm Rm ⟨by first | decide | omega, by first | decide | omega⟩ ⟨by first | decide | omega, by first | decide | omega⟩ ⟨by first | decide | omega, by first | decide | omega⟩ ⟨by first | decide | omega, by first | decide | omega⟩ ⟨by first | decide | omega, by first | decide | omega⟩ ⟨by first | decide | omega, by first | decide | omega⟩ ⟨by first | decide | omega, by first | decide | omega⟩ ⟨by first | decide | omega, by first | decide | omega⟩ ⟨by first | decide | omega, by first | decide | omega⟩ ⟨by first | decide | omega, by first | decide | omega⟩ ⟨by first | decide | omega, by first | decide | omega⟩ ⟨by first | decide | omega, by first | decide | omega⟩ qsz) (cwV 4 hts gL_law_X12_hang rfl rfl rfl (by decide +kernel) ⟨Nat.le_of_ble_eq_true rfl, Nat.le_of_ble_eq_true rfl⟩) (hw_pV (hw_rc (q := (RX12, TX12, 45)) hK vm rfl) hH hK hST hS (by decide) (hw_hG hGe1) ⟨vm, vla, vsz⟩) rfl rfl hl.1 rfl (lv_room (Nat.le_of_ble_eq_true rfl)) dL_law_960 ⟨Nat.le_of_ble_eq_true rfl, Nat.le_of_ble_eq_true rfl⟩) hS (hw_AWsub (by decide) hGe1 hS.1) (fun v H locs hp hz hk hS => ?_)
    have l192 : (60 : Int32).toInt = 60 := rfl
    rcases hp with ⟨rfl, hH, v193, v194, v195, q196⟩ | ⟨rfl, hH, v197, v198, v199, q200, q201⟩ | ⟨rfl, hH, v202, v203, v204, q205, q206, q207⟩ | ⟨rfl, hH, v208, v209, v210, q211, q212, q213, q214⟩ | ⟨rfl, hH, v215, v216, v217, q218, q219, q220, q221, q222⟩ | ⟨rfl, hH, v223, v224, v225, q226, q227, q228, q229, q230⟩
    · have hRK := hw_Racks.kept hRK (fun q9 h9 l9 => hk q9 l9 (hw_AWn h9 (by decide) l9))
      have v23 := va_at.kept v23 (hk _ (hw_lt v23) (hw_AWn gx (by decide) (hw_lt v23)))
      have vc := va_at.kept vc (hk _ (hw_lt vc) (hw_AWn (hw_RX_0 Rx) (by decide) (hw_lt vc)))
      have vt := va_at.kept vt (hk _ (hw_lt vt) (hw_AWn (hw_RX_1 Rx) (by decide) (hw_lt vt)))
      have vn := va_at.kept vn (hk _ (hw_lt vn) (hw_AWn (hw_RX_2 Rx) (by decide) (hw_lt vn)))
      have v24 := va_at.kept v24 (hk _ (hw_lt v24) (hw_AWn (hw_RX_13 Rx) (by decide) (hw_lt v24)))
      have vro := va_at.kept vro (hk _ (hw_lt vro) (hw_AWn (hw_RM_0 Rm) (by decide) (hw_lt vro)))
      have vik := va_at.kept vik (hk _ (hw_lt vik) (hw_AWn (hw_RM_2 Rm) (by decide) (hw_lt vik)))
      refine lv_icmp_eq (tgt := 1188) hx hb dL_law_963 (by decide) (fun c231 => ?_) (fun c231 => ?_)
      · exact absurd c231 (by decide)
      · exfalso
        first | omega | contradiction | (subst_vars; omega)
    · have hRK := hw_Racks.kept hRK (fun q9 h9 l9 => hk q9 l9 (hw_AWn h9 (by decide) l9))
      have v23 := va_at.kept v23 (hk _ (hw_lt v23) (hw_AWn gx (by decide) (hw_lt v23)))
      have vc := va_at.kept vc (hk _ (hw_lt vc) (hw_AWn (hw_RX_0 Rx) (by decide) (hw_lt vc)))
      have vt := va_at.kept vt (hk _ (hw_lt vt) (hw_AWn (hw_RX_1 Rx) (by decide) (hw_lt vt)))
      have vn := va_at.kept vn (hk _ (hw_lt vn) (hw_AWn (hw_RX_2 Rx) (by decide) (hw_lt vn)))
      have v24 := va_at.kept v24 (hk _ (hw_lt v24) (hw_AWn (hw_RX_13 Rx) (by decide) (hw_lt v24)))
      have vro := va_at.kept vro (hk _ (hw_lt vro) (hw_AWn (hw_RM_0 Rm) (by decide) (hw_lt vro)))
      have vik := va_at.kept vik (hk _ (hw_lt vik) (hw_AWn (hw_RM_2 Rm) (by decide) (hw_lt vik)))
      refine lv_icmp_eq (tgt := 1188) hx hb dL_law_963 (by decide) (fun c232 => ?_) (fun c232 => ?_)
      · exact absurd c232 (by decide)
      · exfalso
        first | omega | contradiction | (subst_vars; omega)
    · have hRK := hw_Racks.kept hRK (fun q9 h9 l9 => hk q9 l9 (hw_AWn h9 (by decide) l9))
      have v23 := va_at.kept v23 (hk _ (hw_lt v23) (hw_AWn gx (by decide) (hw_lt v23)))
      have vc := va_at.kept vc (hk _ (hw_lt vc) (hw_AWn (hw_RX_0 Rx) (by decide) (hw_lt vc)))
      have vt := va_at.kept vt (hk _ (hw_lt vt) (hw_AWn (hw_RX_1 Rx) (by decide) (hw_lt vt)))
      have vn := va_at.kept vn (hk _ (hw_lt vn) (hw_AWn (hw_RX_2 Rx) (by decide) (hw_lt vn)))
      have v24 := va_at.kept v24 (hk _ (hw_lt v24) (hw_AWn (hw_RX_13 Rx) (by decide) (hw_lt v24)))
      have vro := va_at.kept vro (hk _ (hw_lt vro) (hw_AWn (hw_RM_0 Rm) (by decide) (hw_lt vro)))
      have vik := va_at.kept vik (hk _ (hw_lt vik) (hw_AWn (hw_RM_2 Rm) (by decide) (hw_lt vik)))
      refine lv_icmp_eq (tgt := 1188) hx hb dL_law_963 (by decide) (fun c233 => ?_) (fun c233 => ?_)
      · refine lv_iinc (v := 6) (lv' := [(3, .int 6), (2, .ref mo), (1, .ref x), (0, .ref b)]) hx hb dL_law_1188 hl (k := 0) rfl (by rfl) (by decide) rfl (fun ls hl => ?_)
        refine lv_goto (tgt := 18) hx hb dL_law_1191 (by decide) ?_
        refine lv_iload_n hx hb dL_law_18 rfl (lv_at hl 0 rfl) ?_
        refine lv_aload_n hx hb dL_law_19 rfl (lv_at hl 3 rfl) ?_
        refine va_slen hx hb hX hbl hbA hS dL_law_20 ?_
        refine lv_bipush (v := 6) hx hb dL_law_21 (by decide) ?_
        refine lv_isub hx hb dL_law_23 ?_
        refine lv_topi (fun x234 e235 => ?_)
        have t236 : x234.toInt = (Int32.ofNat L).toInt - 6 := by rw [e235]; exact hw_sub rfl rfl (by omega) (by omega)
        refine lv_icmp_gt (tgt := 1194) hx hb dL_law_24 (by decide) (fun c237 => ?_) (fun c237 => ?_)
        · have b238 : x234.toInt < 6 := hw_ilt c237
          refine lv_iconst (v := 1) hx hb dL_law_1194 (by decide) ?_
          have hfg := hw_hfg hG0 (by decide) hS.2.2
          refine va_forget hfg ?_
          refine W.widen (k := 600000) (n := 7302250) (by decide) (by decide) ?_
          exact lw_ret hx hb hr hlocks dL_law_1195
        · have b239 : 6 ≤ x234.toInt := hw_inlt c237
          exfalso; omega
      · exact absurd c233 (by decide)
    · have hRK := hw_Racks.kept hRK (fun q9 h9 l9 => hk q9 l9 (hw_AWn h9 (by decide) l9))
      have v23 := va_at.kept v23 (hk _ (hw_lt v23) (hw_AWn gx (by decide) (hw_lt v23)))
      have vc := va_at.kept vc (hk _ (hw_lt vc) (hw_AWn (hw_RX_0 Rx) (by decide) (hw_lt vc)))
      have vt := va_at.kept vt (hk _ (hw_lt vt) (hw_AWn (hw_RX_1 Rx) (by decide) (hw_lt vt)))
      have vn := va_at.kept vn (hk _ (hw_lt vn) (hw_AWn (hw_RX_2 Rx) (by decide) (hw_lt vn)))
      have v24 := va_at.kept v24 (hk _ (hw_lt v24) (hw_AWn (hw_RX_13 Rx) (by decide) (hw_lt v24)))
      have vro := va_at.kept vro (hk _ (hw_lt vro) (hw_AWn (hw_RM_0 Rm) (by decide) (hw_lt vro)))
      have vik := va_at.kept vik (hk _ (hw_lt vik) (hw_AWn (hw_RM_2 Rm) (by decide) (hw_lt vik)))
      refine lv_icmp_eq (tgt := 1188) hx hb dL_law_963 (by decide) (fun c240 => ?_) (fun c240 => ?_)
      · exact absurd c240 (by decide)
      · exfalso
        first | omega | contradiction | (subst_vars; omega)
    · have hRK := hw_Racks.kept hRK (fun q9 h9 l9 => hk q9 l9 (hw_AWn h9 (by decide) l9))
      have v23 := va_at.kept v23 (hk _ (hw_lt v23) (hw_AWn gx (by decide) (hw_lt v23)))
      have vc := va_at.kept vc (hk _ (hw_lt vc) (hw_AWn (hw_RX_0 Rx) (by decide) (hw_lt vc)))
      have vt := va_at.kept vt (hk _ (hw_lt vt) (hw_AWn (hw_RX_1 Rx) (by decide) (hw_lt vt)))
      have vn := va_at.kept vn (hk _ (hw_lt vn) (hw_AWn (hw_RX_2 Rx) (by decide) (hw_lt vn)))
      have v24 := va_at.kept v24 (hk _ (hw_lt v24) (hw_AWn (hw_RX_13 Rx) (by decide) (hw_lt v24)))
      have vro := va_at.kept vro (hk _ (hw_lt vro) (hw_AWn (hw_RM_0 Rm) (by decide) (hw_lt vro)))
      have vik := va_at.kept vik (hk _ (hw_lt vik) (hw_AWn (hw_RM_2 Rm) (by decide) (hw_lt vik)))
      refine lv_icmp_eq (tgt := 1188) hx hb dL_law_963 (by decide) (fun c241 => ?_) (fun c241 => ?_)
      · exact absurd c241 (by decide)
      · exfalso
        first | omega | contradiction | (subst_vars; omega)
    · have hRK := hw_Racks.kept hRK (fun q9 h9 l9 => hk q9 l9 (hw_AWn h9 (by decide) l9))
      have v23 := va_at.kept v23 (hk _ (hw_lt v23) (hw_AWn gx (by decide) (hw_lt v23)))
      have vc := va_at.kept vc (hk _ (hw_lt vc) (hw_AWn (hw_RX_0 Rx) (by decide) (hw_lt vc)))
      have vt := va_at.kept vt (hk _ (hw_lt vt) (hw_AWn (hw_RX_1 Rx) (by decide) (hw_lt vt)))
      have vn := va_at.kept vn (hk _ (hw_lt vn) (hw_AWn (hw_RX_2 Rx) (by decide) (hw_lt vn)))
      have v24 := va_at.kept v24 (hk _ (hw_lt v24) (hw_AWn (hw_RX_13 Rx) (by decide) (hw_lt v24)))
      have vro := va_at.kept vro (hk _ (hw_lt vro) (hw_AWn (hw_RM_0 Rm) (by decide) (hw_lt vro)))
      have vik := va_at.kept vik (hk _ (hw_lt vik) (hw_AWn (hw_RM_2 Rm) (by decide) (hw_lt vik)))
      refine lv_icmp_eq (tgt := 1188) hx hb dL_law_963 (by decide) (fun c242 => ?_) (fun c242 => ?_)
      · exact absurd c242 (by decide)
      · exfalso
        first | omega | contradiction | (subst_vars; omega)
  · have vc := va_at.kept vc (hk _ (hw_lt vc) (hw_AWn (hw_RX_0 Rx) (by decide) (hw_lt vc)))
    have vt := va_at.kept vt (hk _ (hw_lt vt) (hw_AWn (hw_RX_1 Rx) (by decide) (hw_lt vt)))
    have vn := va_at.kept vn (hk _ (hw_lt vn) (hw_AWn (hw_RX_2 Rx) (by decide) (hw_lt vn)))
    have vm := va_at.kept vm (hk _ (hw_lt vm) (hw_AWn gm (by decide) (hw_lt vm)))
    have vro := va_at.kept vro (hk _ (hw_lt vro) (hw_AWn (hw_RM_0 Rm) (by decide) (hw_lt vro)))
    have vik := va_at.kept vik (hk _ (hw_lt vik) (hw_AWn (hw_RM_2 Rm) (by decide) (hw_lt vik)))
    have vla := va_at.kept vla (hk _ (hw_lt vla) (hw_AWn (hw_RM_41 Rm) (by decide) (hw_lt vla)))
    have vsz := va_at.kept vsz (hk _ (hw_lt vsz) (hw_AWn (hw_RM_42 Rm) (by decide) (hw_lt vsz)))
    refine lv_aload_n hx hb dL_law_924 rfl (lv_at hl 1 rfl) ?_
    refine lv_aload_n hx hb dL_law_925 rfl (lv_at hl 3 rfl) ?_
    refine lv_iload_n hx hb dL_law_926 rfl (lv_at hl 0 rfl) ?_
    refine lv_iconst (v := 1) hx hb dL_law_927 (by decide) ?_
    refine lv_iadd hx hb dL_law_928 ?_
    refine W.eq (g2 := F0 m 929 ls [.int 1, .ref b, .ref mo, .int (-12)]) rfl ?_
    refine va_sld hx hb hX hbl hbA hS (hw_in (x := 1) (by decide) (by have h9 : (1 : Int32).toInt = 1 := rfl; omega)) dL_law_929 ?_
    refine W.eq (g2 := F0 m 930 ls [.int (xs 1), .ref mo, .int (-12)]) rfl ?_
    refine lv_aload_n hx hb dL_law_930 rfl (lv_at hl 3 rfl) ?_
    refine lv_iload_n hx hb dL_law_931 rfl (lv_at hl 0 rfl) ?_
    refine lv_iconst (v := 2) hx hb dL_law_932 (by decide) ?_
    refine lv_iadd hx hb dL_law_933 ?_
    refine W.eq (g2 := F0 m 934 ls [.int 2, .ref b, .int (xs 1), .ref mo, .int (-12)]) rfl ?_
    refine va_sld hx hb hX hbl hbA hS (hw_in (x := 2) (by decide) (by have h9 : (2 : Int32).toInt = 2 := rfl; omega)) dL_law_934 ?_
    refine W.eq (g2 := F0 m 935 ls [.int (xs 2), .int (xs 1), .ref mo, .int (-12)]) rfl ?_
    refine lv_aload_n hx hb dL_law_935 rfl (lv_at hl 3 rfl) ?_
    refine lv_iload_n hx hb dL_law_936 rfl (lv_at hl 0 rfl) ?_
    refine lv_iconst (v := 3) hx hb dL_law_937 (by decide) ?_
    refine lv_iadd hx hb dL_law_938 ?_
    refine W.eq (g2 := F0 m 939 ls [.int 3, .ref b, .int (xs 2), .int (xs 1), .ref mo, .int (-12)]) rfl ?_
    refine va_sld hx hb hX hbl hbA hS (hw_in (x := 3) (by decide) (by have h9 : (3 : Int32).toInt = 3 := rfl; omega)) dL_law_939 ?_
    refine W.eq (g2 := F0 m 940 ls [.int (xs 3), .int (xs 2), .int (xs 1), .ref mo, .int (-12)]) rfl ?_
    refine lv_aload_n hx hb dL_law_940 rfl (lv_at hl 3 rfl) ?_
    refine lv_iload_n hx hb dL_law_941 rfl (lv_at hl 0 rfl) ?_
    refine lv_iconst (v := 4) hx hb dL_law_942 (by decide) ?_
    refine lv_iadd hx hb dL_law_943 ?_
    refine W.eq (g2 := F0 m 944 ls [.int 4, .ref b, .int (xs 3), .int (xs 2), .int (xs 1), .ref mo, .int (-12)]) rfl ?_
    refine va_sld hx hb hX hbl hbA hS (hw_in (x := 4) (by decide) (by have h9 : (4 : Int32).toInt = 4 := rfl; omega)) dL_law_944 ?_
    refine W.eq (g2 := F0 m 945 ls [.int (xs 4), .int (xs 3), .int (xs 2), .int (xs 1), .ref mo, .int (-12)]) rfl ?_
    refine lv_i2l hx hb dL_law_945 rfl ?_
    refine lv_topl (fun x243 e244 => ?_)
    have t245 : x243.toInt = (xs 4).toInt := by rw [e244]; exact hw_i2l _
    have rg246 := hw_rng (xs 4)
    refine lv_bipush (v := 32) hx hb dL_law_946 (by decide) ?_
    refine lv_lshl hx hb dL_law_948 rfl ?_
    refine lv_topl (fun x247 e248 => ?_)
    refine lv_aload_n hx hb dL_law_949 rfl (lv_at hl 3 rfl) ?_
    refine lv_iload_n hx hb dL_law_950 rfl (lv_at hl 0 rfl) ?_
    refine lv_iconst (v := 5) hx hb dL_law_951 (by decide) ?_
    refine lv_iadd hx hb dL_law_952 ?_
    refine W.eq (g2 := F0 m 953 ls [.int 5, .ref b, .long x247, .int (xs 3), .int (xs 2), .int (xs 1), .ref mo, .int (-12)]) rfl ?_
    refine va_sld hx hb hX hbl hbA hS (hw_in (x := 5) (by decide) (by have h9 : (5 : Int32).toInt = 5 := rfl; omega)) dL_law_953 ?_
    refine W.eq (g2 := F0 m 954 ls [.int (xs 5), .long x247, .int (xs 3), .int (xs 2), .int (xs 1), .ref mo, .int (-12)]) rfl ?_
    refine lv_i2l hx hb dL_law_954 rfl ?_
    refine lv_topl (fun x249 e250 => ?_)
    have t251 : x249.toInt = (xs 5).toInt := by rw [e250]; exact hw_i2l _
    have rg252 := hw_rng (xs 5)
    refine lv_ldc2 (v := 4294967295) hx hb hown (hts (.constantLong RL 126 (4294967295)) (by decide +kernel)) dL_law_955 ?_
    refine lv_land hx hb dL_law_958  ?_
    refine lv_topl (fun x253 e254 => ?_)
    refine lv_lor hx hb dL_law_959 ?_
    refine lv_topl (fun x255 e256 => ?_)
    refine hw_cM0 (va_runV (As := [.int (xs 1), .int (xs 2), .int (xs 3), .long x255]) (rest := [.int (-12)]) ⟨hx, hb, hml, hown, hts⟩ (k_X12_hang l D G1 mo (xs 1) (xs 2) (xs 3) x255 _ rm 0 0 0 0 60 0 0 0 0 0 0 0 0 0 fla fsz gm Rm ⟨by first | decide | omega, by first | decide | omega⟩ ⟨by first | decide | omega, by first | decide | omega⟩ ⟨by first | decide | omega, by first | decide | omega⟩ ⟨by first | decide | omega, by first | decide | omega⟩ ⟨by first | decide | omega, by first | decide | omega⟩ ⟨by first | decide | omega, by first | decide | omega⟩ ⟨by first | decide | omega, by first | decide | omega⟩ ⟨by first | decide | omega, by first | decide | omega⟩ ⟨by first | decide | omega, by first | decide | omega⟩ ⟨by first | decide | omega, by first | decide | omega⟩ ⟨by first | decide | omega, by first | decide | omega⟩ ⟨by first | decide | omega, by first | decide | omega⟩ qsz) (cwV 4 hts gL_law_X12_hang rfl rfl rfl (by decide +kernel) ⟨Nat.le_of_ble_eq_true rfl, Nat.le_of_ble_eq_true rfl⟩) (hw_pV (hw_rc (q := (RX12, TX12, 45)) hK vm rfl) hH hK hST hS (by decide) (hw_hG hGe1) ⟨vm, vla, vsz⟩) rfl rfl hl.1 rfl (lv_room (Nat.le_of_ble_eq_true rfl)) dL_law_960 ⟨Nat.le_of_ble_eq_true rfl, Nat.le_of_ble_eq_true rfl⟩) hS (hw_AWsub (by decide) hGe1 hS.1) (fun v H locs hp hz hk hS => ?_)
    have l257 : (60 : Int32).toInt = 60 := rfl
    rcases hp with ⟨rfl, hH, v258, v259, v260, q261⟩ | ⟨rfl, hH, v262, v263, v264, q265, q266⟩ | ⟨rfl, hH, v267, v268, v269, q270, q271, q272⟩ | ⟨rfl, hH, v273, v274, v275, q276, q277, q278, q279⟩ | ⟨rfl, hH, v280, v281, v282, q283, q284, q285, q286, q287⟩ | ⟨rfl, hH, v288, v289, v290, q291, q292, q293, q294, q295⟩
    · have hRK := hw_Racks.kept hRK (fun q9 h9 l9 => hk q9 l9 (hw_AWn h9 (by decide) l9))
      have v28 := va_at.kept v28 (hk _ (hw_lt v28) (hw_AWn gx (by decide) (hw_lt v28)))
      have vc := va_at.kept vc (hk _ (hw_lt vc) (hw_AWn (hw_RX_0 Rx) (by decide) (hw_lt vc)))
      have vt := va_at.kept vt (hk _ (hw_lt vt) (hw_AWn (hw_RX_1 Rx) (by decide) (hw_lt vt)))
      have vn := va_at.kept vn (hk _ (hw_lt vn) (hw_AWn (hw_RX_2 Rx) (by decide) (hw_lt vn)))
      have v29 := va_at.kept v29 (hk _ (hw_lt v29) (hw_AWn (hw_RX_13 Rx) (by decide) (hw_lt v29)))
      have vro := va_at.kept vro (hk _ (hw_lt vro) (hw_AWn (hw_RM_0 Rm) (by decide) (hw_lt vro)))
      have vik := va_at.kept vik (hk _ (hw_lt vik) (hw_AWn (hw_RM_2 Rm) (by decide) (hw_lt vik)))
      refine lv_icmp_eq (tgt := 1188) hx hb dL_law_963 (by decide) (fun c296 => ?_) (fun c296 => ?_)
      · exact absurd c296 (by decide)
      · exfalso
        first | omega | contradiction | (subst_vars; omega)
    · have hRK := hw_Racks.kept hRK (fun q9 h9 l9 => hk q9 l9 (hw_AWn h9 (by decide) l9))
      have v28 := va_at.kept v28 (hk _ (hw_lt v28) (hw_AWn gx (by decide) (hw_lt v28)))
      have vc := va_at.kept vc (hk _ (hw_lt vc) (hw_AWn (hw_RX_0 Rx) (by decide) (hw_lt vc)))
      have vt := va_at.kept vt (hk _ (hw_lt vt) (hw_AWn (hw_RX_1 Rx) (by decide) (hw_lt vt)))
      have vn := va_at.kept vn (hk _ (hw_lt vn) (hw_AWn (hw_RX_2 Rx) (by decide) (hw_lt vn)))
      have v29 := va_at.kept v29 (hk _ (hw_lt v29) (hw_AWn (hw_RX_13 Rx) (by decide) (hw_lt v29)))
      have vro := va_at.kept vro (hk _ (hw_lt vro) (hw_AWn (hw_RM_0 Rm) (by decide) (hw_lt vro)))
      have vik := va_at.kept vik (hk _ (hw_lt vik) (hw_AWn (hw_RM_2 Rm) (by decide) (hw_lt vik)))
      refine lv_icmp_eq (tgt := 1188) hx hb dL_law_963 (by decide) (fun c297 => ?_) (fun c297 => ?_)
      · exact absurd c297 (by decide)
      · exfalso
        first | omega | contradiction | (subst_vars; omega)
    · have hRK := hw_Racks.kept hRK (fun q9 h9 l9 => hk q9 l9 (hw_AWn h9 (by decide) l9))
      have v28 := va_at.kept v28 (hk _ (hw_lt v28) (hw_AWn gx (by decide) (hw_lt v28)))
      have vc := va_at.kept vc (hk _ (hw_lt vc) (hw_AWn (hw_RX_0 Rx) (by decide) (hw_lt vc)))
      have vt := va_at.kept vt (hk _ (hw_lt vt) (hw_AWn (hw_RX_1 Rx) (by decide) (hw_lt vt)))
      have vn := va_at.kept vn (hk _ (hw_lt vn) (hw_AWn (hw_RX_2 Rx) (by decide) (hw_lt vn)))
      have v29 := va_at.kept v29 (hk _ (hw_lt v29) (hw_AWn (hw_RX_13 Rx) (by decide) (hw_lt v29)))
      have vro := va_at.kept vro (hk _ (hw_lt vro) (hw_AWn (hw_RM_0 Rm) (by decide) (hw_lt vro)))
      have vik := va_at.kept vik (hk _ (hw_lt vik) (hw_AWn (hw_RM_2 Rm) (by decide) (hw_lt vik)))
      refine lv_icmp_eq (tgt := 1188) hx hb dL_law_963 (by decide) (fun c298 => ?_) (fun c298 => ?_)
      · exact absurd c298 (by decide)
      · exfalso
        first | omega | contradiction | (subst_vars; omega)
    · have hRK := hw_Racks.kept hRK (fun q9 h9 l9 => hk q9 l9 (hw_AWn h9 (by decide) l9))
      have v28 := va_at.kept v28 (hk _ (hw_lt v28) (hw_AWn gx (by decide) (hw_lt v28)))
      have vc := va_at.kept vc (hk _ (hw_lt vc) (hw_AWn (hw_RX_0 Rx) (by decide) (hw_lt vc)))
      have vt := va_at.kept vt (hk _ (hw_lt vt) (hw_AWn (hw_RX_1 Rx) (by decide) (hw_lt vt)))
      have vn := va_at.kept vn (hk _ (hw_lt vn) (hw_AWn (hw_RX_2 Rx) (by decide) (hw_lt vn)))
      have v29 := va_at.kept v29 (hk _ (hw_lt v29) (hw_AWn (hw_RX_13 Rx) (by decide) (hw_lt v29)))
      have vro := va_at.kept vro (hk _ (hw_lt vro) (hw_AWn (hw_RM_0 Rm) (by decide) (hw_lt vro)))
      have vik := va_at.kept vik (hk _ (hw_lt vik) (hw_AWn (hw_RM_2 Rm) (by decide) (hw_lt vik)))
      refine lv_icmp_eq (tgt := 1188) hx hb dL_law_963 (by decide) (fun c299 => ?_) (fun c299 => ?_)
      · refine lv_iinc (v := 6) (lv' := [(3, .int 6), (2, .ref mo), (1, .ref x), (0, .ref b)]) hx hb dL_law_1188 hl (k := 0) rfl (by rfl) (by decide) rfl (fun ls hl => ?_)
        refine lv_goto (tgt := 18) hx hb dL_law_1191 (by decide) ?_
        refine lv_iload_n hx hb dL_law_18 rfl (lv_at hl 0 rfl) ?_
        refine lv_aload_n hx hb dL_law_19 rfl (lv_at hl 3 rfl) ?_
        refine va_slen hx hb hX hbl hbA hS dL_law_20 ?_
        refine lv_bipush (v := 6) hx hb dL_law_21 (by decide) ?_
        refine lv_isub hx hb dL_law_23 ?_
        refine lv_topi (fun x300 e301 => ?_)
        have t302 : x300.toInt = (Int32.ofNat L).toInt - 6 := by rw [e301]; exact hw_sub rfl rfl (by omega) (by omega)
        refine lv_icmp_gt (tgt := 1194) hx hb dL_law_24 (by decide) (fun c303 => ?_) (fun c303 => ?_)
        · have b304 : x300.toInt < 6 := hw_ilt c303
          refine lv_iconst (v := 1) hx hb dL_law_1194 (by decide) ?_
          have hfg := hw_hfg hG0 (by decide) hS.2.2
          refine va_forget hfg ?_
          refine W.widen (k := 600000) (n := 7302250) (by decide) (by decide) ?_
          exact lw_ret hx hb hr hlocks dL_law_1195
        · have b305 : 6 ≤ x300.toInt := hw_inlt c303
          exfalso; omega
      · exact absurd c299 (by decide)
    · have hRK := hw_Racks.kept hRK (fun q9 h9 l9 => hk q9 l9 (hw_AWn h9 (by decide) l9))
      have v28 := va_at.kept v28 (hk _ (hw_lt v28) (hw_AWn gx (by decide) (hw_lt v28)))
      have vc := va_at.kept vc (hk _ (hw_lt vc) (hw_AWn (hw_RX_0 Rx) (by decide) (hw_lt vc)))
      have vt := va_at.kept vt (hk _ (hw_lt vt) (hw_AWn (hw_RX_1 Rx) (by decide) (hw_lt vt)))
      have vn := va_at.kept vn (hk _ (hw_lt vn) (hw_AWn (hw_RX_2 Rx) (by decide) (hw_lt vn)))
      have v29 := va_at.kept v29 (hk _ (hw_lt v29) (hw_AWn (hw_RX_13 Rx) (by decide) (hw_lt v29)))
      have vro := va_at.kept vro (hk _ (hw_lt vro) (hw_AWn (hw_RM_0 Rm) (by decide) (hw_lt vro)))
      have vik := va_at.kept vik (hk _ (hw_lt vik) (hw_AWn (hw_RM_2 Rm) (by decide) (hw_lt vik)))
      refine lv_icmp_eq (tgt := 1188) hx hb dL_law_963 (by decide) (fun c306 => ?_) (fun c306 => ?_)
      · exact absurd c306 (by decide)
      · exfalso
        first | omega | contradiction | (subst_vars; omega)
    · have hRK := hw_Racks.kept hRK (fun q9 h9 l9 => hk q9 l9 (hw_AWn h9 (by decide) l9))
      have v28 := va_at.kept v28 (hk _ (hw_lt v28) (hw_AWn gx (by decide) (hw_lt v28)))
      have vc := va_at.kept vc (hk _ (hw_lt vc) (hw_AWn (hw_RX_0 Rx) (by decide) (hw_lt vc)))
      have vt := va_at.kept vt (hk _ (hw_lt vt) (hw_AWn (hw_RX_1 Rx) (by decide) (hw_lt vt)))
      have vn := va_at.kept vn (hk _ (hw_lt vn) (hw_AWn (hw_RX_2 Rx) (by decide) (hw_lt vn)))
      have v29 := va_at.kept v29 (hk _ (hw_lt v29) (hw_AWn (hw_RX_13 Rx) (by decide) (hw_lt v29)))
      have vro := va_at.kept vro (hk _ (hw_lt vro) (hw_AWn (hw_RM_0 Rm) (by decide) (hw_lt vro)))
      have vik := va_at.kept vik (hk _ (hw_lt vik) (hw_AWn (hw_RM_2 Rm) (by decide) (hw_lt vik)))
      refine lv_icmp_eq (tgt := 1188) hx hb dL_law_963 (by decide) (fun c307 => ?_) (fun c307 => ?_)
      · exact absurd c307 (by decide)
      · exfalso
        first | omega | contradiction | (subst_vars; omega)
  · have vc := va_at.kept vc (hk _ (hw_lt vc) (hw_AWn (hw_RX_0 Rx) (by decide) (hw_lt vc)))
    have vt := va_at.kept vt (hk _ (hw_lt vt) (hw_AWn (hw_RX_1 Rx) (by decide) (hw_lt vt)))
    have vn := va_at.kept vn (hk _ (hw_lt vn) (hw_AWn (hw_RX_2 Rx) (by decide) (hw_lt vn)))
    have vm := va_at.kept vm (hk _ (hw_lt vm) (hw_AWn gm (by decide) (hw_lt vm)))
    have vro := va_at.kept vro (hk _ (hw_lt vro) (hw_AWn (hw_RM_0 Rm) (by decide) (hw_lt vro)))
    have vik := va_at.kept vik (hk _ (hw_lt vik) (hw_AWn (hw_RM_2 Rm) (by decide) (hw_lt vik)))
    have vla := va_at.kept vla (hk _ (hw_lt vla) (hw_AWn (hw_RM_41 Rm) (by decide) (hw_lt vla)))
    have vsz := va_at.kept vsz (hk _ (hw_lt vsz) (hw_AWn (hw_RM_42 Rm) (by decide) (hw_lt vsz)))
    refine lv_aload_n hx hb dL_law_924 rfl (lv_at hl 1 rfl) ?_
    refine lv_aload_n hx hb dL_law_925 rfl (lv_at hl 3 rfl) ?_
    refine lv_iload_n hx hb dL_law_926 rfl (lv_at hl 0 rfl) ?_
    refine lv_iconst (v := 1) hx hb dL_law_927 (by decide) ?_
    refine lv_iadd hx hb dL_law_928 ?_
    refine W.eq (g2 := F0 m 929 ls [.int 1, .ref b, .ref mo, .int (-13)]) rfl ?_
    refine va_sld hx hb hX hbl hbA hS (hw_in (x := 1) (by decide) (by have h9 : (1 : Int32).toInt = 1 := rfl; omega)) dL_law_929 ?_
    refine W.eq (g2 := F0 m 930 ls [.int (xs 1), .ref mo, .int (-13)]) rfl ?_
    refine lv_aload_n hx hb dL_law_930 rfl (lv_at hl 3 rfl) ?_
    refine lv_iload_n hx hb dL_law_931 rfl (lv_at hl 0 rfl) ?_
    refine lv_iconst (v := 2) hx hb dL_law_932 (by decide) ?_
    refine lv_iadd hx hb dL_law_933 ?_
    refine W.eq (g2 := F0 m 934 ls [.int 2, .ref b, .int (xs 1), .ref mo, .int (-13)]) rfl ?_
    refine va_sld hx hb hX hbl hbA hS (hw_in (x := 2) (by decide) (by have h9 : (2 : Int32).toInt = 2 := rfl; omega)) dL_law_934 ?_
    refine W.eq (g2 := F0 m 935 ls [.int (xs 2), .int (xs 1), .ref mo, .int (-13)]) rfl ?_
    refine lv_aload_n hx hb dL_law_935 rfl (lv_at hl 3 rfl) ?_
    refine lv_iload_n hx hb dL_law_936 rfl (lv_at hl 0 rfl) ?_
    refine lv_iconst (v := 3) hx hb dL_law_937 (by decide) ?_
    refine lv_iadd hx hb dL_law_938 ?_
    refine W.eq (g2 := F0 m 939 ls [.int 3, .ref b, .int (xs 2), .int (xs 1), .ref mo, .int (-13)]) rfl ?_
    refine va_sld hx hb hX hbl hbA hS (hw_in (x := 3) (by decide) (by have h9 : (3 : Int32).toInt = 3 := rfl; omega)) dL_law_939 ?_
    refine W.eq (g2 := F0 m 940 ls [.int (xs 3), .int (xs 2), .int (xs 1), .ref mo, .int (-13)]) rfl ?_
    refine lv_aload_n hx hb dL_law_940 rfl (lv_at hl 3 rfl) ?_
    refine lv_iload_n hx hb dL_law_941 rfl (lv_at hl 0 rfl) ?_
    refine lv_iconst (v := 4) hx hb dL_law_942 (by decide) ?_
    refine lv_iadd hx hb dL_law_943 ?_
    refine W.eq (g2 := F0 m 944 ls [.int 4, .ref b, .int (xs 3), .int (xs 2), .int (xs 1), .ref mo, .int (-13)]) rfl ?_
    refine va_sld hx hb hX hbl hbA hS (hw_in (x := 4) (by decide) (by have h9 : (4 : Int32).toInt = 4 := rfl; omega)) dL_law_944 ?_
    refine W.eq (g2 := F0 m 945 ls [.int (xs 4), .int (xs 3), .int (xs 2), .int (xs 1), .ref mo, .int (-13)]) rfl ?_
    refine lv_i2l hx hb dL_law_945 rfl ?_
    refine lv_topl (fun x308 e309 => ?_)
    have t310 : x308.toInt = (xs 4).toInt := by rw [e309]; exact hw_i2l _
    have rg311 := hw_rng (xs 4)
    refine lv_bipush (v := 32) hx hb dL_law_946 (by decide) ?_
    refine lv_lshl hx hb dL_law_948 rfl ?_
    refine lv_topl (fun x312 e313 => ?_)
    refine lv_aload_n hx hb dL_law_949 rfl (lv_at hl 3 rfl) ?_
    refine lv_iload_n hx hb dL_law_950 rfl (lv_at hl 0 rfl) ?_
    refine lv_iconst (v := 5) hx hb dL_law_951 (by decide) ?_
    refine lv_iadd hx hb dL_law_952 ?_
    refine W.eq (g2 := F0 m 953 ls [.int 5, .ref b, .long x312, .int (xs 3), .int (xs 2), .int (xs 1), .ref mo, .int (-13)]) rfl ?_
    refine va_sld hx hb hX hbl hbA hS (hw_in (x := 5) (by decide) (by have h9 : (5 : Int32).toInt = 5 := rfl; omega)) dL_law_953 ?_
    refine W.eq (g2 := F0 m 954 ls [.int (xs 5), .long x312, .int (xs 3), .int (xs 2), .int (xs 1), .ref mo, .int (-13)]) rfl ?_
    refine lv_i2l hx hb dL_law_954 rfl ?_
    refine lv_topl (fun x314 e315 => ?_)
    have t316 : x314.toInt = (xs 5).toInt := by rw [e315]; exact hw_i2l _
    have rg317 := hw_rng (xs 5)
    refine lv_ldc2 (v := 4294967295) hx hb hown (hts (.constantLong RL 126 (4294967295)) (by decide +kernel)) dL_law_955 ?_
    refine lv_land hx hb dL_law_958  ?_
    refine lv_topl (fun x318 e319 => ?_)
    refine lv_lor hx hb dL_law_959 ?_
    refine lv_topl (fun x320 e321 => ?_)
    refine hw_cM0 (va_runV (As := [.int (xs 1), .int (xs 2), .int (xs 3), .long x320]) (rest := [.int (-13)]) ⟨hx, hb, hml, hown, hts⟩ (k_X12_hang l D G1 mo (xs 1) (xs 2) (xs 3) x320 _ rm 0 0 0 0 60 0 0 0 0 0 0 0 0 0 fla fsz gm Rm ⟨by first | decide | omega, by first | decide | omega⟩ ⟨by first | decide | omega, by first | decide | omega⟩ ⟨by first | decide | omega, by first | decide | omega⟩ ⟨by first | decide | omega, by first | decide | omega⟩ ⟨by first | decide | omega, by first | decide | omega⟩ ⟨by first | decide | omega, by first | decide | omega⟩ ⟨by first | decide | omega, by first | decide | omega⟩ ⟨by first | decide | omega, by first | decide | omega⟩ ⟨by first | decide | omega, by first | decide | omega⟩ ⟨by first | decide | omega, by first | decide | omega⟩ ⟨by first | decide | omega, by first | decide | omega⟩ ⟨by first | decide | omega, by first | decide | omega⟩ qsz) (cwV 4 hts gL_law_X12_hang rfl rfl rfl (by decide +kernel) ⟨Nat.le_of_ble_eq_true rfl, Nat.le_of_ble_eq_true rfl⟩) (hw_pV (hw_rc (q := (RX12, TX12, 45)) hK vm rfl) hH hK hST hS (by decide) (hw_hG hGe1) ⟨vm, vla, vsz⟩) rfl rfl hl.1 rfl (lv_room (Nat.le_of_ble_eq_true rfl)) dL_law_960 ⟨Nat.le_of_ble_eq_true rfl, Nat.le_of_ble_eq_true rfl⟩) hS (hw_AWsub (by decide) hGe1 hS.1) (fun v H locs hp hz hk hS => ?_)
    have l322 : (60 : Int32).toInt = 60 := rfl
    rcases hp with ⟨rfl, hH, v323, v324, v325, q326⟩ | ⟨rfl, hH, v327, v328, v329, q330, q331⟩ | ⟨rfl, hH, v332, v333, v334, q335, q336, q337⟩ | ⟨rfl, hH, v338, v339, v340, q341, q342, q343, q344⟩ | ⟨rfl, hH, v345, v346, v347, q348, q349, q350, q351, q352⟩ | ⟨rfl, hH, v353, v354, v355, q356, q357, q358, q359, q360⟩
    · have hRK := hw_Racks.kept hRK (fun q9 h9 l9 => hk q9 l9 (hw_AWn h9 (by decide) l9))
      have v34 := va_at.kept v34 (hk _ (hw_lt v34) (hw_AWn gx (by decide) (hw_lt v34)))
      have vc := va_at.kept vc (hk _ (hw_lt vc) (hw_AWn (hw_RX_0 Rx) (by decide) (hw_lt vc)))
      have vt := va_at.kept vt (hk _ (hw_lt vt) (hw_AWn (hw_RX_1 Rx) (by decide) (hw_lt vt)))
      have vn := va_at.kept vn (hk _ (hw_lt vn) (hw_AWn (hw_RX_2 Rx) (by decide) (hw_lt vn)))
      have v35 := va_at.kept v35 (hk _ (hw_lt v35) (hw_AWn (hw_RX_13 Rx) (by decide) (hw_lt v35)))
      have vro := va_at.kept vro (hk _ (hw_lt vro) (hw_AWn (hw_RM_0 Rm) (by decide) (hw_lt vro)))
      have vik := va_at.kept vik (hk _ (hw_lt vik) (hw_AWn (hw_RM_2 Rm) (by decide) (hw_lt vik)))
      refine lv_icmp_eq (tgt := 1188) hx hb dL_law_963 (by decide) (fun c361 => ?_) (fun c361 => ?_)
      · exact absurd c361 (by decide)
      · exfalso
        first | omega | contradiction | (subst_vars; omega)
    · have hRK := hw_Racks.kept hRK (fun q9 h9 l9 => hk q9 l9 (hw_AWn h9 (by decide) l9))
      have v34 := va_at.kept v34 (hk _ (hw_lt v34) (hw_AWn gx (by decide) (hw_lt v34)))
      have vc := va_at.kept vc (hk _ (hw_lt vc) (hw_AWn (hw_RX_0 Rx) (by decide) (hw_lt vc)))
      have vt := va_at.kept vt (hk _ (hw_lt vt) (hw_AWn (hw_RX_1 Rx) (by decide) (hw_lt vt)))
      have vn := va_at.kept vn (hk _ (hw_lt vn) (hw_AWn (hw_RX_2 Rx) (by decide) (hw_lt vn)))
      have v35 := va_at.kept v35 (hk _ (hw_lt v35) (hw_AWn (hw_RX_13 Rx) (by decide) (hw_lt v35)))
      have vro := va_at.kept vro (hk _ (hw_lt vro) (hw_AWn (hw_RM_0 Rm) (by decide) (hw_lt vro)))
      have vik := va_at.kept vik (hk _ (hw_lt vik) (hw_AWn (hw_RM_2 Rm) (by decide) (hw_lt vik)))
      refine lv_icmp_eq (tgt := 1188) hx hb dL_law_963 (by decide) (fun c362 => ?_) (fun c362 => ?_)
      · exact absurd c362 (by decide)
      · exfalso
        first | omega | contradiction | (subst_vars; omega)
    · have hRK := hw_Racks.kept hRK (fun q9 h9 l9 => hk q9 l9 (hw_AWn h9 (by decide) l9))
      have v34 := va_at.kept v34 (hk _ (hw_lt v34) (hw_AWn gx (by decide) (hw_lt v34)))
      have vc := va_at.kept vc (hk _ (hw_lt vc) (hw_AWn (hw_RX_0 Rx) (by decide) (hw_lt vc)))
      have vt := va_at.kept vt (hk _ (hw_lt vt) (hw_AWn (hw_RX_1 Rx) (by decide) (hw_lt vt)))
      have vn := va_at.kept vn (hk _ (hw_lt vn) (hw_AWn (hw_RX_2 Rx) (by decide) (hw_lt vn)))
      have v35 := va_at.kept v35 (hk _ (hw_lt v35) (hw_AWn (hw_RX_13 Rx) (by decide) (hw_lt v35)))
      have vro := va_at.kept vro (hk _ (hw_lt vro) (hw_AWn (hw_RM_0 Rm) (by decide) (hw_lt vro)))
      have vik := va_at.kept vik (hk _ (hw_lt vik) (hw_AWn (hw_RM_2 Rm) (by decide) (hw_lt vik)))
      refine lv_icmp_eq (tgt := 1188) hx hb dL_law_963 (by decide) (fun c363 => ?_) (fun c363 => ?_)
      · exact absurd c363 (by decide)
      · exfalso
        first | omega | contradiction | (subst_vars; omega)
    · have hRK := hw_Racks.kept hRK (fun q9 h9 l9 => hk q9 l9 (hw_AWn h9 (by decide) l9))
      have v34 := va_at.kept v34 (hk _ (hw_lt v34) (hw_AWn gx (by decide) (hw_lt v34)))
      have vc := va_at.kept vc (hk _ (hw_lt vc) (hw_AWn (hw_RX_0 Rx) (by decide) (hw_lt vc)))
      have vt := va_at.kept vt (hk _ (hw_lt vt) (hw_AWn (hw_RX_1 Rx) (by decide) (hw_lt vt)))
      have vn := va_at.kept vn (hk _ (hw_lt vn) (hw_AWn (hw_RX_2 Rx) (by decide) (hw_lt vn)))
      have v35 := va_at.kept v35 (hk _ (hw_lt v35) (hw_AWn (hw_RX_13 Rx) (by decide) (hw_lt v35)))
      have vro := va_at.kept vro (hk _ (hw_lt vro) (hw_AWn (hw_RM_0 Rm) (by decide) (hw_lt vro)))
      have vik := va_at.kept vik (hk _ (hw_lt vik) (hw_AWn (hw_RM_2 Rm) (by decide) (hw_lt vik)))
      refine lv_icmp_eq (tgt := 1188) hx hb dL_law_963 (by decide) (fun c364 => ?_) (fun c364 => ?_)
      · exact absurd c364 (by decide)
      · exfalso
        first | omega | contradiction | (subst_vars; omega)
    · have hRK := hw_Racks.kept hRK (fun q9 h9 l9 => hk q9 l9 (hw_AWn h9 (by decide) l9))
      have v34 := va_at.kept v34 (hk _ (hw_lt v34) (hw_AWn gx (by decide) (hw_lt v34)))
      have vc := va_at.kept vc (hk _ (hw_lt vc) (hw_AWn (hw_RX_0 Rx) (by decide) (hw_lt vc)))
      have vt := va_at.kept vt (hk _ (hw_lt vt) (hw_AWn (hw_RX_1 Rx) (by decide) (hw_lt vt)))
      have vn := va_at.kept vn (hk _ (hw_lt vn) (hw_AWn (hw_RX_2 Rx) (by decide) (hw_lt vn)))
      have v35 := va_at.kept v35 (hk _ (hw_lt v35) (hw_AWn (hw_RX_13 Rx) (by decide) (hw_lt v35)))
      have vro := va_at.kept vro (hk _ (hw_lt vro) (hw_AWn (hw_RM_0 Rm) (by decide) (hw_lt vro)))
      have vik := va_at.kept vik (hk _ (hw_lt vik) (hw_AWn (hw_RM_2 Rm) (by decide) (hw_lt vik)))
      refine lv_icmp_eq (tgt := 1188) hx hb dL_law_963 (by decide) (fun c365 => ?_) (fun c365 => ?_)
      · refine lv_iinc (v := 6) (lv' := [(3, .int 6), (2, .ref mo), (1, .ref x), (0, .ref b)]) hx hb dL_law_1188 hl (k := 0) rfl (by rfl) (by decide) rfl (fun ls hl => ?_)
        refine lv_goto (tgt := 18) hx hb dL_law_1191 (by decide) ?_
        refine lv_iload_n hx hb dL_law_18 rfl (lv_at hl 0 rfl) ?_
        refine lv_aload_n hx hb dL_law_19 rfl (lv_at hl 3 rfl) ?_
        refine va_slen hx hb hX hbl hbA hS dL_law_20 ?_
        refine lv_bipush (v := 6) hx hb dL_law_21 (by decide) ?_
        refine lv_isub hx hb dL_law_23 ?_
        refine lv_topi (fun x366 e367 => ?_)
        have t368 : x366.toInt = (Int32.ofNat L).toInt - 6 := by rw [e367]; exact hw_sub rfl rfl (by omega) (by omega)
        refine lv_icmp_gt (tgt := 1194) hx hb dL_law_24 (by decide) (fun c369 => ?_) (fun c369 => ?_)
        · have b370 : x366.toInt < 6 := hw_ilt c369
          refine lv_iconst (v := 1) hx hb dL_law_1194 (by decide) ?_
          have hfg := hw_hfg hG0 (by decide) hS.2.2
          refine va_forget hfg ?_
          refine W.widen (k := 600000) (n := 7302250) (by decide) (by decide) ?_
          exact lw_ret hx hb hr hlocks dL_law_1195
        · have b371 : 6 ≤ x366.toInt := hw_inlt c369
          exfalso; omega
      · exact absurd c365 (by decide)
    · have hRK := hw_Racks.kept hRK (fun q9 h9 l9 => hk q9 l9 (hw_AWn h9 (by decide) l9))
      have v34 := va_at.kept v34 (hk _ (hw_lt v34) (hw_AWn gx (by decide) (hw_lt v34)))
      have vc := va_at.kept vc (hk _ (hw_lt vc) (hw_AWn (hw_RX_0 Rx) (by decide) (hw_lt vc)))
      have vt := va_at.kept vt (hk _ (hw_lt vt) (hw_AWn (hw_RX_1 Rx) (by decide) (hw_lt vt)))
      have vn := va_at.kept vn (hk _ (hw_lt vn) (hw_AWn (hw_RX_2 Rx) (by decide) (hw_lt vn)))
      have v35 := va_at.kept v35 (hk _ (hw_lt v35) (hw_AWn (hw_RX_13 Rx) (by decide) (hw_lt v35)))
      have vro := va_at.kept vro (hk _ (hw_lt vro) (hw_AWn (hw_RM_0 Rm) (by decide) (hw_lt vro)))
      have vik := va_at.kept vik (hk _ (hw_lt vik) (hw_AWn (hw_RM_2 Rm) (by decide) (hw_lt vik)))
      refine lv_icmp_eq (tgt := 1188) hx hb dL_law_963 (by decide) (fun c372 => ?_) (fun c372 => ?_)
      · exact absurd c372 (by decide)
      · exfalso
        first | omega | contradiction | (subst_vars; omega)
  · have vc := va_at.kept vc (hk _ (hw_lt vc) (hw_AWn (hw_RX_0 Rx) (by decide) (hw_lt vc)))
    have vt := va_at.kept vt (hk _ (hw_lt vt) (hw_AWn (hw_RX_1 Rx) (by decide) (hw_lt vt)))
    have vn := va_at.kept vn (hk _ (hw_lt vn) (hw_AWn (hw_RX_2 Rx) (by decide) (hw_lt vn)))
    have vm := va_at.kept vm (hk _ (hw_lt vm) (hw_AWn gm (by decide) (hw_lt vm)))
    have vro := va_at.kept vro (hk _ (hw_lt vro) (hw_AWn (hw_RM_0 Rm) (by decide) (hw_lt vro)))
    have vik := va_at.kept vik (hk _ (hw_lt vik) (hw_AWn (hw_RM_2 Rm) (by decide) (hw_lt vik)))
    have vla := va_at.kept vla (hk _ (hw_lt vla) (hw_AWn (hw_RM_41 Rm) (by decide) (hw_lt vla)))
    have vsz := va_at.kept vsz (hk _ (hw_lt vsz) (hw_AWn (hw_RM_42 Rm) (by decide) (hw_lt vsz)))
    refine lv_aload_n hx hb dL_law_924 rfl (lv_at hl 1 rfl) ?_
    refine lv_aload_n hx hb dL_law_925 rfl (lv_at hl 3 rfl) ?_
    refine lv_iload_n hx hb dL_law_926 rfl (lv_at hl 0 rfl) ?_
    refine lv_iconst (v := 1) hx hb dL_law_927 (by decide) ?_
    refine lv_iadd hx hb dL_law_928 ?_
    refine W.eq (g2 := F0 m 929 ls [.int 1, .ref b, .ref mo, .int 1]) rfl ?_
    refine va_sld hx hb hX hbl hbA hS (hw_in (x := 1) (by decide) (by have h9 : (1 : Int32).toInt = 1 := rfl; omega)) dL_law_929 ?_
    refine W.eq (g2 := F0 m 930 ls [.int (xs 1), .ref mo, .int 1]) rfl ?_
    refine lv_aload_n hx hb dL_law_930 rfl (lv_at hl 3 rfl) ?_
    refine lv_iload_n hx hb dL_law_931 rfl (lv_at hl 0 rfl) ?_
    refine lv_iconst (v := 2) hx hb dL_law_932 (by decide) ?_
    refine lv_iadd hx hb dL_law_933 ?_
    refine W.eq (g2 := F0 m 934 ls [.int 2, .ref b, .int (xs 1), .ref mo, .int 1]) rfl ?_
    refine va_sld hx hb hX hbl hbA hS (hw_in (x := 2) (by decide) (by have h9 : (2 : Int32).toInt = 2 := rfl; omega)) dL_law_934 ?_
    refine W.eq (g2 := F0 m 935 ls [.int (xs 2), .int (xs 1), .ref mo, .int 1]) rfl ?_
    refine lv_aload_n hx hb dL_law_935 rfl (lv_at hl 3 rfl) ?_
    refine lv_iload_n hx hb dL_law_936 rfl (lv_at hl 0 rfl) ?_
    refine lv_iconst (v := 3) hx hb dL_law_937 (by decide) ?_
    refine lv_iadd hx hb dL_law_938 ?_
    refine W.eq (g2 := F0 m 939 ls [.int 3, .ref b, .int (xs 2), .int (xs 1), .ref mo, .int 1]) rfl ?_
    refine va_sld hx hb hX hbl hbA hS (hw_in (x := 3) (by decide) (by have h9 : (3 : Int32).toInt = 3 := rfl; omega)) dL_law_939 ?_
    refine W.eq (g2 := F0 m 940 ls [.int (xs 3), .int (xs 2), .int (xs 1), .ref mo, .int 1]) rfl ?_
    refine lv_aload_n hx hb dL_law_940 rfl (lv_at hl 3 rfl) ?_
    refine lv_iload_n hx hb dL_law_941 rfl (lv_at hl 0 rfl) ?_
    refine lv_iconst (v := 4) hx hb dL_law_942 (by decide) ?_
    refine lv_iadd hx hb dL_law_943 ?_
    refine W.eq (g2 := F0 m 944 ls [.int 4, .ref b, .int (xs 3), .int (xs 2), .int (xs 1), .ref mo, .int 1]) rfl ?_
    refine va_sld hx hb hX hbl hbA hS (hw_in (x := 4) (by decide) (by have h9 : (4 : Int32).toInt = 4 := rfl; omega)) dL_law_944 ?_
    refine W.eq (g2 := F0 m 945 ls [.int (xs 4), .int (xs 3), .int (xs 2), .int (xs 1), .ref mo, .int 1]) rfl ?_
    refine lv_i2l hx hb dL_law_945 rfl ?_
    refine lv_topl (fun x373 e374 => ?_)
    have t375 : x373.toInt = (xs 4).toInt := by rw [e374]; exact hw_i2l _
    have rg376 := hw_rng (xs 4)
    refine lv_bipush (v := 32) hx hb dL_law_946 (by decide) ?_
    refine lv_lshl hx hb dL_law_948 rfl ?_
    refine lv_topl (fun x377 e378 => ?_)
    refine lv_aload_n hx hb dL_law_949 rfl (lv_at hl 3 rfl) ?_
    refine lv_iload_n hx hb dL_law_950 rfl (lv_at hl 0 rfl) ?_
    refine lv_iconst (v := 5) hx hb dL_law_951 (by decide) ?_
    refine lv_iadd hx hb dL_law_952 ?_
    refine W.eq (g2 := F0 m 953 ls [.int 5, .ref b, .long x377, .int (xs 3), .int (xs 2), .int (xs 1), .ref mo, .int 1]) rfl ?_
    refine va_sld hx hb hX hbl hbA hS (hw_in (x := 5) (by decide) (by have h9 : (5 : Int32).toInt = 5 := rfl; omega)) dL_law_953 ?_
    refine W.eq (g2 := F0 m 954 ls [.int (xs 5), .long x377, .int (xs 3), .int (xs 2), .int (xs 1), .ref mo, .int 1]) rfl ?_
    refine lv_i2l hx hb dL_law_954 rfl ?_
    refine lv_topl (fun x379 e380 => ?_)
    have t381 : x379.toInt = (xs 5).toInt := by rw [e380]; exact hw_i2l _
    have rg382 := hw_rng (xs 5)
    refine lv_ldc2 (v := 4294967295) hx hb hown (hts (.constantLong RL 126 (4294967295)) (by decide +kernel)) dL_law_955 ?_
    refine lv_land hx hb dL_law_958  ?_
    refine lv_topl (fun x383 e384 => ?_)
    refine lv_lor hx hb dL_law_959 ?_
    refine lv_topl (fun x385 e386 => ?_)
    refine hw_cM0 (va_runV (As := [.int (xs 1), .int (xs 2), .int (xs 3), .long x385]) (rest := [.int 1]) ⟨hx, hb, hml, hown, hts⟩ (k_X12_hang l D G1 mo (xs 1) (xs 2) (xs 3) x385 _ rm 0 0 0 0 60 0 0 0 0 0 0 0 0 0 fla fsz gm Rm ⟨by first | decide | omega, by first | decide | omega⟩ ⟨by first | decide | omega, by first | decide | omega⟩ ⟨by first | decide | omega, by first | decide | omega⟩ ⟨by first | decide | omega, by first | decide | omega⟩ ⟨by first | decide | omega, by first | decide | omega⟩ ⟨by first | decide | omega, by first | decide | omega⟩ ⟨by first | decide | omega, by first | decide | omega⟩ ⟨by first | decide | omega, by first | decide | omega⟩ ⟨by first | decide | omega, by first | decide | omega⟩ ⟨by first | decide | omega, by first | decide | omega⟩ ⟨by first | decide | omega, by first | decide | omega⟩ ⟨by first | decide | omega, by first | decide | omega⟩ qsz) (cwV 4 hts gL_law_X12_hang rfl rfl rfl (by decide +kernel) ⟨Nat.le_of_ble_eq_true rfl, Nat.le_of_ble_eq_true rfl⟩) (hw_pV (hw_rc (q := (RX12, TX12, 45)) hK vm rfl) hH hK hST hS (by decide) (hw_hG hGe1) ⟨vm, vla, vsz⟩) rfl rfl hl.1 rfl (lv_room (Nat.le_of_ble_eq_true rfl)) dL_law_960 ⟨Nat.le_of_ble_eq_true rfl, Nat.le_of_ble_eq_true rfl⟩) hS (hw_AWsub (by decide) hGe1 hS.1) (fun v H locs hp hz hk hS => ?_)
    have l387 : (60 : Int32).toInt = 60 := rfl
    rcases hp with ⟨rfl, hH, v388, v389, v390, q391⟩ | ⟨rfl, hH, v392, v393, v394, q395, q396⟩ | ⟨rfl, hH, v397, v398, v399, q400, q401, q402⟩ | ⟨rfl, hH, v403, v404, v405, q406, q407, q408, q409⟩ | ⟨rfl, hH, v410, v411, v412, q413, q414, q415, q416, q417⟩ | ⟨rfl, hH, v418, v419, v420, q421, q422, q423, q424, q425⟩
    · have hRK := hw_Racks.kept hRK (fun q9 h9 l9 => hk q9 l9 (hw_AWn h9 (by decide) l9))
      have v41 := va_at.kept v41 (hk _ (hw_lt v41) (hw_AWn gx (by decide) (hw_lt v41)))
      have vc := va_at.kept vc (hk _ (hw_lt vc) (hw_AWn (hw_RX_0 Rx) (by decide) (hw_lt vc)))
      have vt := va_at.kept vt (hk _ (hw_lt vt) (hw_AWn (hw_RX_1 Rx) (by decide) (hw_lt vt)))
      have vn := va_at.kept vn (hk _ (hw_lt vn) (hw_AWn (hw_RX_2 Rx) (by decide) (hw_lt vn)))
      have v42 := va_at.kept v42 (hk _ (hw_lt v42) (hw_AWn (hw_RX_13 Rx) (by decide) (hw_lt v42)))
      have vro := va_at.kept vro (hk _ (hw_lt vro) (hw_AWn (hw_RM_0 Rm) (by decide) (hw_lt vro)))
      have vik := va_at.kept vik (hk _ (hw_lt vik) (hw_AWn (hw_RM_2 Rm) (by decide) (hw_lt vik)))
      refine lv_icmp_eq (tgt := 1188) hx hb dL_law_963 (by decide) (fun c426 => ?_) (fun c426 => ?_)
      · exact absurd c426 (by decide)
      · exfalso
        first | omega | contradiction | (subst_vars; omega)
    · have hRK := hw_Racks.kept hRK (fun q9 h9 l9 => hk q9 l9 (hw_AWn h9 (by decide) l9))
      have v41 := va_at.kept v41 (hk _ (hw_lt v41) (hw_AWn gx (by decide) (hw_lt v41)))
      have vc := va_at.kept vc (hk _ (hw_lt vc) (hw_AWn (hw_RX_0 Rx) (by decide) (hw_lt vc)))
      have vt := va_at.kept vt (hk _ (hw_lt vt) (hw_AWn (hw_RX_1 Rx) (by decide) (hw_lt vt)))
      have vn := va_at.kept vn (hk _ (hw_lt vn) (hw_AWn (hw_RX_2 Rx) (by decide) (hw_lt vn)))
      have v42 := va_at.kept v42 (hk _ (hw_lt v42) (hw_AWn (hw_RX_13 Rx) (by decide) (hw_lt v42)))
      have vro := va_at.kept vro (hk _ (hw_lt vro) (hw_AWn (hw_RM_0 Rm) (by decide) (hw_lt vro)))
      have vik := va_at.kept vik (hk _ (hw_lt vik) (hw_AWn (hw_RM_2 Rm) (by decide) (hw_lt vik)))
      refine lv_icmp_eq (tgt := 1188) hx hb dL_law_963 (by decide) (fun c427 => ?_) (fun c427 => ?_)
      · exact absurd c427 (by decide)
      · exfalso
        first | omega | contradiction | (subst_vars; omega)
    · have hRK := hw_Racks.kept hRK (fun q9 h9 l9 => hk q9 l9 (hw_AWn h9 (by decide) l9))
      have v41 := va_at.kept v41 (hk _ (hw_lt v41) (hw_AWn gx (by decide) (hw_lt v41)))
      have vc := va_at.kept vc (hk _ (hw_lt vc) (hw_AWn (hw_RX_0 Rx) (by decide) (hw_lt vc)))
      have vt := va_at.kept vt (hk _ (hw_lt vt) (hw_AWn (hw_RX_1 Rx) (by decide) (hw_lt vt)))
      have vn := va_at.kept vn (hk _ (hw_lt vn) (hw_AWn (hw_RX_2 Rx) (by decide) (hw_lt vn)))
      have v42 := va_at.kept v42 (hk _ (hw_lt v42) (hw_AWn (hw_RX_13 Rx) (by decide) (hw_lt v42)))
      have vro := va_at.kept vro (hk _ (hw_lt vro) (hw_AWn (hw_RM_0 Rm) (by decide) (hw_lt vro)))
      have vik := va_at.kept vik (hk _ (hw_lt vik) (hw_AWn (hw_RM_2 Rm) (by decide) (hw_lt vik)))
      refine lv_icmp_eq (tgt := 1188) hx hb dL_law_963 (by decide) (fun c428 => ?_) (fun c428 => ?_)
      · exact absurd c428 (by decide)
      · exfalso
        first | omega | contradiction | (subst_vars; omega)
    · have hRK := hw_Racks.kept hRK (fun q9 h9 l9 => hk q9 l9 (hw_AWn h9 (by decide) l9))
      have v41 := va_at.kept v41 (hk _ (hw_lt v41) (hw_AWn gx (by decide) (hw_lt v41)))
      have vc := va_at.kept vc (hk _ (hw_lt vc) (hw_AWn (hw_RX_0 Rx) (by decide) (hw_lt vc)))
      have vt := va_at.kept vt (hk _ (hw_lt vt) (hw_AWn (hw_RX_1 Rx) (by decide) (hw_lt vt)))
      have vn := va_at.kept vn (hk _ (hw_lt vn) (hw_AWn (hw_RX_2 Rx) (by decide) (hw_lt vn)))
      have v42 := va_at.kept v42 (hk _ (hw_lt v42) (hw_AWn (hw_RX_13 Rx) (by decide) (hw_lt v42)))
      have vro := va_at.kept vro (hk _ (hw_lt vro) (hw_AWn (hw_RM_0 Rm) (by decide) (hw_lt vro)))
      have vik := va_at.kept vik (hk _ (hw_lt vik) (hw_AWn (hw_RM_2 Rm) (by decide) (hw_lt vik)))
      refine lv_icmp_eq (tgt := 1188) hx hb dL_law_963 (by decide) (fun c429 => ?_) (fun c429 => ?_)
      · exact absurd c429 (by decide)
      · exfalso
        first | omega | contradiction | (subst_vars; omega)
    · have hRK := hw_Racks.kept hRK (fun q9 h9 l9 => hk q9 l9 (hw_AWn h9 (by decide) l9))
      have v41 := va_at.kept v41 (hk _ (hw_lt v41) (hw_AWn gx (by decide) (hw_lt v41)))
      have vc := va_at.kept vc (hk _ (hw_lt vc) (hw_AWn (hw_RX_0 Rx) (by decide) (hw_lt vc)))
      have vt := va_at.kept vt (hk _ (hw_lt vt) (hw_AWn (hw_RX_1 Rx) (by decide) (hw_lt vt)))
      have vn := va_at.kept vn (hk _ (hw_lt vn) (hw_AWn (hw_RX_2 Rx) (by decide) (hw_lt vn)))
      have v42 := va_at.kept v42 (hk _ (hw_lt v42) (hw_AWn (hw_RX_13 Rx) (by decide) (hw_lt v42)))
      have vro := va_at.kept vro (hk _ (hw_lt vro) (hw_AWn (hw_RM_0 Rm) (by decide) (hw_lt vro)))
      have vik := va_at.kept vik (hk _ (hw_lt vik) (hw_AWn (hw_RM_2 Rm) (by decide) (hw_lt vik)))
      refine lv_icmp_eq (tgt := 1188) hx hb dL_law_963 (by decide) (fun c430 => ?_) (fun c430 => ?_)
      · exact absurd c430 (by decide)
      · exfalso
        first | omega | contradiction | (subst_vars; omega)
    · have hRK := hw_Racks.kept hRK (fun q9 h9 l9 => hk q9 l9 (hw_AWn h9 (by decide) l9))
      have v41 := va_at.kept v41 (hk _ (hw_lt v41) (hw_AWn gx (by decide) (hw_lt v41)))
      have vc := va_at.kept vc (hk _ (hw_lt vc) (hw_AWn (hw_RX_0 Rx) (by decide) (hw_lt vc)))
      have vt := va_at.kept vt (hk _ (hw_lt vt) (hw_AWn (hw_RX_1 Rx) (by decide) (hw_lt vt)))
      have vn := va_at.kept vn (hk _ (hw_lt vn) (hw_AWn (hw_RX_2 Rx) (by decide) (hw_lt vn)))
      have v42 := va_at.kept v42 (hk _ (hw_lt v42) (hw_AWn (hw_RX_13 Rx) (by decide) (hw_lt v42)))
      have vro := va_at.kept vro (hk _ (hw_lt vro) (hw_AWn (hw_RM_0 Rm) (by decide) (hw_lt vro)))
      have vik := va_at.kept vik (hk _ (hw_lt vik) (hw_AWn (hw_RM_2 Rm) (by decide) (hw_lt vik)))
      refine lv_icmp_eq (tgt := 1188) hx hb dL_law_963 (by decide) (fun c431 => ?_) (fun c431 => ?_)
      · refine lv_iinc (v := 6) (lv' := [(3, .int 6), (2, .ref mo), (1, .ref x), (0, .ref b)]) hx hb dL_law_1188 hl (k := 0) rfl (by rfl) (by decide) rfl (fun ls hl => ?_)
        refine lv_goto (tgt := 18) hx hb dL_law_1191 (by decide) ?_
        refine lv_iload_n hx hb dL_law_18 rfl (lv_at hl 0 rfl) ?_
        refine lv_aload_n hx hb dL_law_19 rfl (lv_at hl 3 rfl) ?_
        refine va_slen hx hb hX hbl hbA hS dL_law_20 ?_
        refine lv_bipush (v := 6) hx hb dL_law_21 (by decide) ?_
        refine lv_isub hx hb dL_law_23 ?_
        refine lv_topi (fun x432 e433 => ?_)
        have t434 : x432.toInt = (Int32.ofNat L).toInt - 6 := by rw [e433]; exact hw_sub rfl rfl (by omega) (by omega)
        refine lv_icmp_gt (tgt := 1194) hx hb dL_law_24 (by decide) (fun c435 => ?_) (fun c435 => ?_)
        · have b436 : x432.toInt < 6 := hw_ilt c435
          refine lv_iconst (v := 1) hx hb dL_law_1194 (by decide) ?_
          have hfg := hw_hfg hG0 (by decide) hS.2.2
          refine va_forget hfg ?_
          refine W.widen (k := 600000) (n := 7302250) (by decide) (by decide) ?_
          exact lw_ret hx hb hr hlocks dL_law_1195
        · have b437 : 6 ≤ x432.toInt := hw_inlt c435
          exfalso; omega
      · exact absurd c431 (by decide)

